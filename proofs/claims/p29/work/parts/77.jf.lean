-- ===== set, undo, redo, on both sides
noncomputable def mrF (k : Nat) : Int32 := if k < 2 then 999 else 100
/-- a rate, where that is what has become another -/
def KvB (of at' v : Int32) : Prop := of = 0 → rtI at'.toNatClampNeg v
/-- change i, on both sides -/
def ChOk (mu : Mu) (n i : Nat) : Prop := ∃ S, S < n ∧ mu 15 (4 * i) = nI S ∧ mu 15 (4 * i + 2) = mu 90 i ∧ mu 15 (4 * i + 3) = mu 91 i ∧ (KvB (mu 88 i) (mu 89 i) (mu 90 i) ∧ KvB (mu 88 i) (mu 89 i) (mu 91 i)) ∧ ((∃ k, k < 4 ∧ mu 15 (4 * i + 1) = nI (6 + k) ∧ mu 88 i = 0 ∧ mu 89 i = nI (4 * S + k)) ∨ (∃ j, j < 12 ∧ mu 15 (4 * i + 1) = nI (10 + j) ∧ mu 88 i = 1 ∧ mu 89 i = nI (12 * S + j)))
/-- stones and changes: alike on both sides -/
def RSC (mu : Mu) : Prop := ∃ n D U, (n ≤ 6 ∧ D + U ≤ 40) ∧ mu 0 9 = nI n ∧ mu 81 3 = nI n ∧ mu 81 9 = 0 ∧ (∀ S, S < n → StOk mu S) ∧ (mu 14 1 = nI D ∧ mu 14 2 = nI (D + U) ∧ mu 81 12 = nI D ∧ mu 81 13 = nI U) ∧ ∀ i, i < D + U → ChOk mu n i
noncomputable def ntB (m : Mu) (D : Nat) : Mu := if D = 40 then up2 (upA m 15 (va_cpy (m 15) (m 15) 4 0 156)) 14 1 39 else m
noncomputable def ntD (D : Nat) : Nat := if D = 40 then 39 else D
noncomputable def ntC (m : Mu) (D : Nat) (s w b v : Int32) : Mu := up2 (up2 (up2 (up2 (up2 (up2 (ntB m D) 15 (4 * ntD D) s) 15 (4 * ntD D + 1) w) 15 (4 * ntD D + 2) b) 15 (4 * ntD D + 3) v) 14 1 (nI (ntD D + 1))) 14 2 (nI (ntD D + 1))
section
variable {X : Tok} {d : Nat} {mu m m' mu' M M0 : Mu} {la la' : La} {ro ro' : Ro} {et : Nat → Option va_E} {a S L n k j D p : Nat} {s w v b x : Int32}
-- what may be set
theorem e_isRate : Rr X d MSt_isRate 0 [.int w] [] (Wd m la ro et) = some (some (.int (if 6 ≤ w ∧ w ≤ 9 then 1 else 0)), Wd m la ro et) := by
  have e6 : (6 : Int32).toInt = 6 := rfl
  have e9 : (9 : Int32).toInt = 9 := rfl
  have e10 : (10 : Int32).toInt = 10 := rfl
  by_cases c1 : w < 6
  · have c : ¬ (6 ≤ w ∧ w ≤ 9) := fun q => by
      have := q.1
      rw [Int32.lt_iff_toInt_lt] at c1
      rw [Int32.le_iff_toInt_le] at this
      omega
    rw [if_neg c]
    simp only [r_MSt_isRate_0, r_MSt_isRate_1, r_MSt_isRate_3, r_MSt_isRate_6, r_MSt_isRate_7, r_MSt_isRate_9, r_MSt_isRate_12, r_MSt_isRate_13, r_MSt_isRate_16, r_MSt_isRate_17, sL_0, sL_1, sL_2, mk_i, mk_r, mk_f, mk_n, mk_u, mk_l, List.set_cons_succ, List.set_cons_zero, Nat.reduceAdd, ckS_0, ckS_1, ckS_2, ckS_3, ckS_4, Option.bind_some, Option.isSome_some, psh, if_true, if_false, i10, not_true_eq_false, not_false_eq_true, Bool.false_eq_true, and_self, and_true, true_and, eq_self, c1, true_or]
  · have c6 : 6 ≤ w := Int32.not_lt.mp c1
    by_cases c2 : 10 ≤ w
    · have c : ¬ (6 ≤ w ∧ w ≤ 9) := fun q => by
        have := q.2
        rw [Int32.le_iff_toInt_le] at c2 this
        omega
      rw [if_neg c]
      simp only [r_MSt_isRate_0, r_MSt_isRate_1, r_MSt_isRate_3, r_MSt_isRate_6, r_MSt_isRate_7, r_MSt_isRate_9, r_MSt_isRate_12, r_MSt_isRate_13, r_MSt_isRate_16, r_MSt_isRate_17, sL_0, sL_1, sL_2, mk_i, mk_r, mk_f, mk_n, mk_u, mk_l, List.set_cons_succ, List.set_cons_zero, Nat.reduceAdd, ckS_0, ckS_1, ckS_2, ckS_3, ckS_4, Option.bind_some, Option.isSome_some, psh, if_true, if_false, i10, not_true_eq_false, not_false_eq_true, Bool.false_eq_true, and_self, and_true, true_and, eq_self, c1, c2, true_or]
    · have c9 : w ≤ 9 := by
        rw [Int32.le_iff_toInt_le] at c2 ⊢
        omega
      rw [if_pos ⟨c6, c9⟩]
      simp only [r_MSt_isRate_0, r_MSt_isRate_1, r_MSt_isRate_3, r_MSt_isRate_6, r_MSt_isRate_7, r_MSt_isRate_9, r_MSt_isRate_12, r_MSt_isRate_13, r_MSt_isRate_16, r_MSt_isRate_17, sL_0, sL_1, sL_2, mk_i, mk_r, mk_f, mk_n, mk_u, mk_l, List.set_cons_succ, List.set_cons_zero, Nat.reduceAdd, ckS_0, ckS_1, ckS_2, ckS_3, ckS_4, Option.bind_some, Option.isSome_some, psh, if_true, if_false, i10, not_true_eq_false, not_false_eq_true, Bool.false_eq_true, and_self, and_true, true_and, eq_self, c1, c2, or_true]
theorem e_mostRate (hk : k < 4) : Rr X d MSt_mostRate 0 [.int (nI k)] [] (Wd m la ro et) = some (some (.int (mrF k)), Wd m la ro et) := by
  unfold mrF
  by_cases c : k < 2
  · have z : ¬ (2 : Int32) ≤ nI k := nI_ge (a := k) (b := 2) c (by omega)
    rw [if_pos c]
    simp only [r_MSt_mostRate_0, r_MSt_mostRate_1, r_MSt_mostRate_2, r_MSt_mostRate_5, r_MSt_mostRate_8, r_MSt_mostRate_11, r_MSt_mostRate_13, sL_0, sL_1, sL_2, mk_i, mk_r, mk_f, mk_n, mk_u, mk_l, List.set_cons_succ, List.set_cons_zero, Nat.reduceAdd, ckS_0, ckS_1, ckS_2, ckS_3, ckS_4, Option.bind_some, Option.isSome_some, psh, if_true, if_false, i10, not_true_eq_false, not_false_eq_true, Bool.false_eq_true, and_self, and_true, true_and, eq_self, z]
  · have z : (2 : Int32) ≤ nI k := nI_le (a := 2) (b := k) (by omega) (by omega)
    rw [if_neg c]
    simp only [r_MSt_mostRate_0, r_MSt_mostRate_1, r_MSt_mostRate_2, r_MSt_mostRate_5, r_MSt_mostRate_8, r_MSt_mostRate_11, r_MSt_mostRate_13, sL_0, sL_1, sL_2, mk_i, mk_r, mk_f, mk_n, mk_u, mk_l, List.set_cons_succ, List.set_cons_zero, Nat.reduceAdd, ckS_0, ckS_1, ckS_2, ckS_3, ckS_4, Option.bind_some, Option.isSome_some, psh, if_true, if_false, i10, not_true_eq_false, not_false_eq_true, Bool.false_eq_true, and_self, and_true, true_and, eq_self, z]
theorem w6 (hk : k < 4) : (6 ≤ nI (6 + k) ∧ nI (6 + k) ≤ 9) ∧ nI (6 + k) - 6 = nI k := by
  refine ⟨⟨nI_le (a := 6) (b := 6 + k) (by omega) (by omega), nI_le (a := 6 + k) (b := 9) (by omega) (by omega)⟩, ?_⟩
  have := pk_sub (a := 6 + k) (b := 6) (by omega)
  rw [Nat.add_sub_cancel_left] at this
  exact this
theorem w10 (hj : j < 2 ^ 30) : (¬ (6 ≤ nI (10 + j) ∧ nI (10 + j) ≤ 9)) ∧ nI (10 + j) - 10 = nI j ∧ ¬ nI (10 + j) < 10 := by
  refine ⟨fun q => absurd q.2 (nI_ge (a := 9) (b := 10 + j) (by omega) (by omega)), ?_, nI_nlt (a := 10 + j) (b := 10) (by omega) (by omega)⟩
  have := pk_sub (a := 10 + j) (b := 10) (by omega)
  rw [Nat.add_sub_cancel_left] at this
  exact this
theorem mb_r (qa : snA a) (hk : k < 4) : Rr X (d + 1) MSt_mayBecome 0 [.ref a, .int (nI (6 + k)), .int v] [] (Wd m la ro et) = some (some (.int (if 0 ≤ v ∧ v ≤ mrF k then 1 else 0)), Wd m la ro et) := by
  obtain ⟨c6, e6⟩ := w6 hk
  have e1 := e_isRate (X := X) (d := d) (m := m) (la := la) (ro := ro) (et := et) (w := nI (6 + k))
  have e2 := e_mostRate (X := X) (d := d) (m := m) (la := la) (ro := ro) (et := et) hk
  rw [if_pos c6] at e1
  by_cases c1 : v < 0
  · have c : ¬ (0 ≤ v ∧ v ≤ mrF k) := fun q => absurd c1 (Int32.not_lt.mpr q.1)
    rw [if_neg c]
    simp only [r_MSt_mayBecome_0, r_MSt_mayBecome_1, r_MSt_mayBecome_4, r_MSt_mayBecome_7, r_MSt_mayBecome_8, r_MSt_mayBecome_11, r_MSt_mayBecome_12, r_MSt_mayBecome_13, r_MSt_mayBecome_15, r_MSt_mayBecome_16, r_MSt_mayBecome_19, r_MSt_mayBecome_22, r_MSt_mayBecome_23, r_MSt_mayBecome_26, r_MSt_mayBecome_27, r_MSt_mayBecome_28, r_MSt_mayBecome_29, r_MSt_mayBecome_31, r_MSt_mayBecome_34, r_MSt_mayBecome_35, r_MSt_mayBecome_37, r_MSt_mayBecome_38, r_MSt_mayBecome_39, r_MSt_mayBecome_42, r_MSt_mayBecome_45, r_MSt_mayBecome_46, r_MSt_mayBecome_47, r_MSt_mayBecome_50, r_MSt_mayBecome_51, r_MSt_mayBecome_53, r_MSt_mayBecome_56, r_MSt_mayBecome_57, r_MSt_mayBecome_60, r_MSt_mayBecome_61, sL_0, sL_1, sL_2, mk_i, mk_r, mk_f, mk_n, mk_u, mk_l, List.set_cons_succ, List.set_cons_zero, Nat.reduceAdd, ckS_0, ckS_1, ckS_2, ckS_3, ckS_4, Option.bind_some, Option.isSome_some, psh, if_true, if_false, i10, not_true_eq_false, not_false_eq_true, Bool.false_eq_true, and_self, and_true, true_and, eq_self, e1, c1, true_or]
  · have c0 : 0 ≤ v := Int32.not_lt.mp c1
    by_cases c2 : mrF k < v
    · have c : ¬ (0 ≤ v ∧ v ≤ mrF k) := fun q => absurd c2 (Int32.not_lt.mpr q.2)
      rw [if_neg c]
      simp only [r_MSt_mayBecome_0, r_MSt_mayBecome_1, r_MSt_mayBecome_4, r_MSt_mayBecome_7, r_MSt_mayBecome_8, r_MSt_mayBecome_11, r_MSt_mayBecome_12, r_MSt_mayBecome_13, r_MSt_mayBecome_15, r_MSt_mayBecome_16, r_MSt_mayBecome_19, r_MSt_mayBecome_22, r_MSt_mayBecome_23, r_MSt_mayBecome_26, r_MSt_mayBecome_27, r_MSt_mayBecome_28, r_MSt_mayBecome_29, r_MSt_mayBecome_31, r_MSt_mayBecome_34, r_MSt_mayBecome_35, r_MSt_mayBecome_37, r_MSt_mayBecome_38, r_MSt_mayBecome_39, r_MSt_mayBecome_42, r_MSt_mayBecome_45, r_MSt_mayBecome_46, r_MSt_mayBecome_47, r_MSt_mayBecome_50, r_MSt_mayBecome_51, r_MSt_mayBecome_53, r_MSt_mayBecome_56, r_MSt_mayBecome_57, r_MSt_mayBecome_60, r_MSt_mayBecome_61, sL_0, sL_1, sL_2, mk_i, mk_r, mk_f, mk_n, mk_u, mk_l, List.set_cons_succ, List.set_cons_zero, Nat.reduceAdd, ckS_0, ckS_1, ckS_2, ckS_3, ckS_4, Option.bind_some, Option.isSome_some, psh, if_true, if_false, i10, not_true_eq_false, not_false_eq_true, Bool.false_eq_true, and_self, and_true, true_and, eq_self, e1, c1, e6, e2, c2, true_or]
    · rw [if_pos ⟨c0, Int32.not_lt.mp c2⟩]
      simp only [r_MSt_mayBecome_0, r_MSt_mayBecome_1, r_MSt_mayBecome_4, r_MSt_mayBecome_7, r_MSt_mayBecome_8, r_MSt_mayBecome_11, r_MSt_mayBecome_12, r_MSt_mayBecome_13, r_MSt_mayBecome_15, r_MSt_mayBecome_16, r_MSt_mayBecome_19, r_MSt_mayBecome_22, r_MSt_mayBecome_23, r_MSt_mayBecome_26, r_MSt_mayBecome_27, r_MSt_mayBecome_28, r_MSt_mayBecome_29, r_MSt_mayBecome_31, r_MSt_mayBecome_34, r_MSt_mayBecome_35, r_MSt_mayBecome_37, r_MSt_mayBecome_38, r_MSt_mayBecome_39, r_MSt_mayBecome_42, r_MSt_mayBecome_45, r_MSt_mayBecome_46, r_MSt_mayBecome_47, r_MSt_mayBecome_50, r_MSt_mayBecome_51, r_MSt_mayBecome_53, r_MSt_mayBecome_56, r_MSt_mayBecome_57, r_MSt_mayBecome_60, r_MSt_mayBecome_61, sL_0, sL_1, sL_2, mk_i, mk_r, mk_f, mk_n, mk_u, mk_l, List.set_cons_succ, List.set_cons_zero, Nat.reduceAdd, ckS_0, ckS_1, ckS_2, ckS_3, ckS_4, Option.bind_some, Option.isSome_some, psh, if_true, if_false, i10, not_true_eq_false, not_false_eq_true, Bool.false_eq_true, and_self, and_true, true_and, eq_self, e1, c1, e6, e2, c2, or_true]
theorem mb_w (qa : snA a) (h4 : m a 4 = nI L) (hL : L ≤ 12) (c6 : ¬ (6 ≤ w ∧ w ≤ 9)) : Rr X (d + 1) MSt_mayBecome 0 [.ref a, .int w, .int v] [] (Wd m la ro et) = some (some (.int (if (10 ≤ w ∧ w ≤ 9 + nI L) ∧ (1 ≤ v ∧ v ≤ 9) then 1 else 0)), Wd m la ro et) := by
  obtain ⟨o1, ⟨q4, _⟩, o3⟩ := qa.1
  have e1 := e_isRate (X := X) (d := d) (m := m) (la := la) (ro := ro) (et := et) (w := w)
  rw [if_neg c6] at e1
  have e10 : (10 : Int32).toInt = 10 := rfl
  by_cases c1 : w < 10
  · have c : ¬ ((10 ≤ w ∧ w ≤ 9 + nI L) ∧ (1 ≤ v ∧ v ≤ 9)) := fun q => absurd c1 (Int32.not_lt.mpr q.1.1)
    rw [if_neg c]
    simp only [r_MSt_mayBecome_0, r_MSt_mayBecome_1, r_MSt_mayBecome_4, r_MSt_mayBecome_7, r_MSt_mayBecome_8, r_MSt_mayBecome_11, r_MSt_mayBecome_12, r_MSt_mayBecome_13, r_MSt_mayBecome_15, r_MSt_mayBecome_16, r_MSt_mayBecome_19, r_MSt_mayBecome_22, r_MSt_mayBecome_23, r_MSt_mayBecome_26, r_MSt_mayBecome_27, r_MSt_mayBecome_28, r_MSt_mayBecome_29, r_MSt_mayBecome_31, r_MSt_mayBecome_34, r_MSt_mayBecome_35, r_MSt_mayBecome_37, r_MSt_mayBecome_38, r_MSt_mayBecome_39, r_MSt_mayBecome_42, r_MSt_mayBecome_45, r_MSt_mayBecome_46, r_MSt_mayBecome_47, r_MSt_mayBecome_50, r_MSt_mayBecome_51, r_MSt_mayBecome_53, r_MSt_mayBecome_56, r_MSt_mayBecome_57, r_MSt_mayBecome_60, r_MSt_mayBecome_61, sL_0, sL_1, sL_2, mk_i, mk_r, mk_f, mk_n, mk_u, mk_l, List.set_cons_succ, List.set_cons_zero, Nat.reduceAdd, ckS_0, ckS_1, ckS_2, ckS_3, ckS_4, Option.bind_some, Option.isSome_some, psh, if_true, if_false, i10, not_true_eq_false, not_false_eq_true, Bool.false_eq_true, and_self, and_true, true_and, eq_self, e1, c1, true_or]
  · have c10 : 10 ≤ w := Int32.not_lt.mp c1
    have hw : 10 ≤ w.toInt := by
      rw [Int32.le_iff_toInt_le] at c10
      omega
    have e5 : (w - 10).toInt = w.toInt - 10 := by
      have := Int32.toInt_lt w
      rw [Int32.toInt_sub, e10]
      exact Int.bmod_eq_of_le (by omega) (by omega)
    have e9 : ((9 : Int32) + nI L).toInt = 9 + (L : Int) := by
      rw [show (9 : Int32) + nI L = nI (9 + L) from nI_add 9 L, nI_toInt (by omega)]
      omega
    have eL : (nI L).toInt = (L : Int) := nI_toInt (by omega)
    by_cases c2 : nI L ≤ w - 10
    · have c : ¬ ((10 ≤ w ∧ w ≤ 9 + nI L) ∧ (1 ≤ v ∧ v ≤ 9)) := fun q => by
        have := q.1.2
        rw [Int32.le_iff_toInt_le] at c2 this
        omega
      rw [if_neg c]
      simp only [r_MSt_mayBecome_0, r_MSt_mayBecome_1, r_MSt_mayBecome_4, r_MSt_mayBecome_7, r_MSt_mayBecome_8, r_MSt_mayBecome_11, r_MSt_mayBecome_12, r_MSt_mayBecome_13, r_MSt_mayBecome_15, r_MSt_mayBecome_16, r_MSt_mayBecome_19, r_MSt_mayBecome_22, r_MSt_mayBecome_23, r_MSt_mayBecome_26, r_MSt_mayBecome_27, r_MSt_mayBecome_28, r_MSt_mayBecome_29, r_MSt_mayBecome_31, r_MSt_mayBecome_34, r_MSt_mayBecome_35, r_MSt_mayBecome_37, r_MSt_mayBecome_38, r_MSt_mayBecome_39, r_MSt_mayBecome_42, r_MSt_mayBecome_45, r_MSt_mayBecome_46, r_MSt_mayBecome_47, r_MSt_mayBecome_50, r_MSt_mayBecome_51, r_MSt_mayBecome_53, r_MSt_mayBecome_56, r_MSt_mayBecome_57, r_MSt_mayBecome_60, r_MSt_mayBecome_61, sL_0, sL_1, sL_2, mk_i, mk_r, mk_f, mk_n, mk_u, mk_l, List.set_cons_succ, List.set_cons_zero, Nat.reduceAdd, ckS_0, ckS_1, ckS_2, ckS_3, ckS_4, Option.bind_some, Option.isSome_some, psh, if_true, if_false, i10, not_true_eq_false, not_false_eq_true, Bool.false_eq_true, and_self, and_true, true_and, eq_self, e1, c1, q4, h4, c2, true_or]
    · have c9 : w ≤ 9 + nI L := by
        rw [Int32.le_iff_toInt_le] at c2 ⊢
        omega
      by_cases c3 : v < 1
      · have c : ¬ ((10 ≤ w ∧ w ≤ 9 + nI L) ∧ (1 ≤ v ∧ v ≤ 9)) := fun q => absurd c3 (Int32.not_lt.mpr q.2.1)
        rw [if_neg c]
        simp only [r_MSt_mayBecome_0, r_MSt_mayBecome_1, r_MSt_mayBecome_4, r_MSt_mayBecome_7, r_MSt_mayBecome_8, r_MSt_mayBecome_11, r_MSt_mayBecome_12, r_MSt_mayBecome_13, r_MSt_mayBecome_15, r_MSt_mayBecome_16, r_MSt_mayBecome_19, r_MSt_mayBecome_22, r_MSt_mayBecome_23, r_MSt_mayBecome_26, r_MSt_mayBecome_27, r_MSt_mayBecome_28, r_MSt_mayBecome_29, r_MSt_mayBecome_31, r_MSt_mayBecome_34, r_MSt_mayBecome_35, r_MSt_mayBecome_37, r_MSt_mayBecome_38, r_MSt_mayBecome_39, r_MSt_mayBecome_42, r_MSt_mayBecome_45, r_MSt_mayBecome_46, r_MSt_mayBecome_47, r_MSt_mayBecome_50, r_MSt_mayBecome_51, r_MSt_mayBecome_53, r_MSt_mayBecome_56, r_MSt_mayBecome_57, r_MSt_mayBecome_60, r_MSt_mayBecome_61, sL_0, sL_1, sL_2, mk_i, mk_r, mk_f, mk_n, mk_u, mk_l, List.set_cons_succ, List.set_cons_zero, Nat.reduceAdd, ckS_0, ckS_1, ckS_2, ckS_3, ckS_4, Option.bind_some, Option.isSome_some, psh, if_true, if_false, i10, not_true_eq_false, not_false_eq_true, Bool.false_eq_true, and_self, and_true, true_and, eq_self, e1, c1, q4, h4, c2, c3, true_or]
      · by_cases c4 : 9 < v
        · have c : ¬ ((10 ≤ w ∧ w ≤ 9 + nI L) ∧ (1 ≤ v ∧ v ≤ 9)) := fun q => absurd c4 (Int32.not_lt.mpr q.2.2)
          rw [if_neg c]
          simp only [r_MSt_mayBecome_0, r_MSt_mayBecome_1, r_MSt_mayBecome_4, r_MSt_mayBecome_7, r_MSt_mayBecome_8, r_MSt_mayBecome_11, r_MSt_mayBecome_12, r_MSt_mayBecome_13, r_MSt_mayBecome_15, r_MSt_mayBecome_16, r_MSt_mayBecome_19, r_MSt_mayBecome_22, r_MSt_mayBecome_23, r_MSt_mayBecome_26, r_MSt_mayBecome_27, r_MSt_mayBecome_28, r_MSt_mayBecome_29, r_MSt_mayBecome_31, r_MSt_mayBecome_34, r_MSt_mayBecome_35, r_MSt_mayBecome_37, r_MSt_mayBecome_38, r_MSt_mayBecome_39, r_MSt_mayBecome_42, r_MSt_mayBecome_45, r_MSt_mayBecome_46, r_MSt_mayBecome_47, r_MSt_mayBecome_50, r_MSt_mayBecome_51, r_MSt_mayBecome_53, r_MSt_mayBecome_56, r_MSt_mayBecome_57, r_MSt_mayBecome_60, r_MSt_mayBecome_61, sL_0, sL_1, sL_2, mk_i, mk_r, mk_f, mk_n, mk_u, mk_l, List.set_cons_succ, List.set_cons_zero, Nat.reduceAdd, ckS_0, ckS_1, ckS_2, ckS_3, ckS_4, Option.bind_some, Option.isSome_some, psh, if_true, if_false, i10, not_true_eq_false, not_false_eq_true, Bool.false_eq_true, and_self, and_true, true_and, eq_self, e1, c1, q4, h4, c2, c3, c4, true_or]
        · rw [if_pos ⟨⟨c10, c9⟩, Int32.not_lt.mp c3, Int32.not_lt.mp c4⟩]
          simp only [r_MSt_mayBecome_0, r_MSt_mayBecome_1, r_MSt_mayBecome_4, r_MSt_mayBecome_7, r_MSt_mayBecome_8, r_MSt_mayBecome_11, r_MSt_mayBecome_12, r_MSt_mayBecome_13, r_MSt_mayBecome_15, r_MSt_mayBecome_16, r_MSt_mayBecome_19, r_MSt_mayBecome_22, r_MSt_mayBecome_23, r_MSt_mayBecome_26, r_MSt_mayBecome_27, r_MSt_mayBecome_28, r_MSt_mayBecome_29, r_MSt_mayBecome_31, r_MSt_mayBecome_34, r_MSt_mayBecome_35, r_MSt_mayBecome_37, r_MSt_mayBecome_38, r_MSt_mayBecome_39, r_MSt_mayBecome_42, r_MSt_mayBecome_45, r_MSt_mayBecome_46, r_MSt_mayBecome_47, r_MSt_mayBecome_50, r_MSt_mayBecome_51, r_MSt_mayBecome_53, r_MSt_mayBecome_56, r_MSt_mayBecome_57, r_MSt_mayBecome_60, r_MSt_mayBecome_61, sL_0, sL_1, sL_2, mk_i, mk_r, mk_f, mk_n, mk_u, mk_l, List.set_cons_succ, List.set_cons_zero, Nat.reduceAdd, ckS_0, ckS_1, ckS_2, ckS_3, ckS_4, Option.bind_some, Option.isSome_some, psh, if_true, if_false, i10, not_true_eq_false, not_false_eq_true, Bool.false_eq_true, and_self, and_true, true_and, eq_self, e1, c1, q4, h4, c2, c3, c4, or_true]
-- a number of a stone becomes another
theorem ch_r (qa : snA a) (hk : k < 4) : Rr X (d + 1) MSt_change 0 [.ref a, .int (nI (6 + k)), .int v, mkU, mkU] [] (Wd m la ro et) = some (some (.int (m (a + 4) k)), Wd (up2 m (a + 4) k v) la ro et) := by
  obtain ⟨o1, _⟩ := qa.1
  obtain ⟨g1, g2, g3, g4, g5, g6⟩ := qa.2.2.2.2
  obtain ⟨c6, e6⟩ := w6 hk
  have e1 := e_isRate (X := X) (d := d) (m := m) (la := la) (ro := ro) (et := et) (w := nI (6 + k))
  rw [if_pos c6] at e1
  have n0 : ¬ nI k < 0 := nI_pos (by omega)
  have z : ¬ Int32.ofNat 4 ≤ nI k := nI_ge (a := k) (b := 4) hk (by omega)
  have cK : (nI k).toNatClampNeg = k := nI_clamp (by omega)
  have iK : ¬ 4 ≤ k := by omega
  simp only [r_MSt_change_0, r_MSt_change_1, r_MSt_change_2, r_MSt_change_3, r_MSt_change_4, r_MSt_change_7, r_MSt_change_10, r_MSt_change_12, r_MSt_change_15, r_MSt_change_17, r_MSt_change_18, r_MSt_change_20, r_MSt_change_21, r_MSt_change_24, r_MSt_change_27, r_MSt_change_29, r_MSt_change_30, r_MSt_change_33, r_MSt_change_34, r_MSt_change_37, r_MSt_change_38, r_MSt_change_41, r_MSt_change_43, r_MSt_change_44, r_MSt_change_45, r_MSt_change_46, r_MSt_change_49, r_MSt_change_51, r_MSt_change_52, r_MSt_change_53, r_MSt_change_56, r_MSt_change_58, r_MSt_change_61, r_MSt_change_63, r_MSt_change_64, r_MSt_change_67, r_MSt_change_68, r_MSt_change_71, r_MSt_change_72, r_MSt_change_75, r_MSt_change_77, r_MSt_change_78, r_MSt_change_79, r_MSt_change_80, r_MSt_change_83, r_MSt_change_85, r_MSt_change_86, r_MSt_change_87, r_MSt_change_88, r_MSt_change_91, r_MSt_change_92, sL_0, sL_1, sL_2, mk_i, mk_r, mk_f, mk_n, mk_u, mk_l, List.set_cons_succ, List.set_cons_zero, Nat.reduceAdd, ckS_0, ckS_1, ckS_2, ckS_3, ckS_4, Option.bind_some, Option.isSome_some, psh, if_true, if_false, i10, not_true_eq_false, not_false_eq_true, Bool.false_eq_true, and_self, and_true, true_and, eq_self, e1, e6, g1, g2, g3, g4, g5, g6, n0, z, cK, iK, or_self]
theorem ch_w (qa : snA a) (hj : j < 12) (hL : L ≤ 12) (h4 : m a 4 = nI L) : Rr X (d + 1) MSt_change 0 [.ref a, .int (nI (10 + j)), .int v, mkU, mkU] [] (Wd m la ro et) = some (some (.int (m (a + 1) j)), Wd (wgK (up2 m (a + 1) j v) a L) la ro et) := by
  obtain ⟨o1, _, o3⟩ := qa.1
  obtain ⟨g1, g2, g3, g4, g5, g6⟩ := qa.2.1
  obtain ⟨c6, e10, _⟩ := w10 (j := j) (by omega)
  have e1 := e_isRate (X := X) (d := d) (m := m) (la := la) (ro := ro) (et := et) (w := nI (10 + j))
  rw [if_neg c6] at e1
  have n0 : ¬ nI j < 0 := nI_pos (by omega)
  have z : ¬ Int32.ofNat 12 ≤ nI j := nI_ge (a := j) (b := 12) hj (by omega)
  have cK : (nI j).toNatClampNeg = j := nI_clamp (by omega)
  have iK : ¬ 12 ≤ j := by omega
  have ew := e_weigh (X := X) (d := d) (m := up2 m (a + 1) j v) (la := la) (ro := ro) (et := et) qa hL (by rw [up2_a (by omega)]; exact h4)
  simp only [r_MSt_change_0, r_MSt_change_1, r_MSt_change_2, r_MSt_change_3, r_MSt_change_4, r_MSt_change_7, r_MSt_change_10, r_MSt_change_12, r_MSt_change_15, r_MSt_change_17, r_MSt_change_18, r_MSt_change_20, r_MSt_change_21, r_MSt_change_24, r_MSt_change_27, r_MSt_change_29, r_MSt_change_30, r_MSt_change_33, r_MSt_change_34, r_MSt_change_37, r_MSt_change_38, r_MSt_change_41, r_MSt_change_43, r_MSt_change_44, r_MSt_change_45, r_MSt_change_46, r_MSt_change_49, r_MSt_change_51, r_MSt_change_52, r_MSt_change_53, r_MSt_change_56, r_MSt_change_58, r_MSt_change_61, r_MSt_change_63, r_MSt_change_64, r_MSt_change_67, r_MSt_change_68, r_MSt_change_71, r_MSt_change_72, r_MSt_change_75, r_MSt_change_77, r_MSt_change_78, r_MSt_change_79, r_MSt_change_80, r_MSt_change_83, r_MSt_change_85, r_MSt_change_86, r_MSt_change_87, r_MSt_change_88, r_MSt_change_91, r_MSt_change_92, sL_0, sL_1, sL_2, mk_i, mk_r, mk_f, mk_n, mk_u, mk_l, List.set_cons_succ, List.set_cons_zero, Nat.reduceAdd, ckS_0, ckS_1, ckS_2, ckS_3, ckS_4, Option.bind_some, Option.isSome_some, psh, if_true, if_false, i10, not_true_eq_false, not_false_eq_true, Bool.false_eq_true, and_self, and_true, true_and, eq_self, o1, e1, e10, g1, g2, g3, g4, g5, g6, n0, z, cK, iK, or_self, ew]
-- changes noted
theorem nt_at (hp : p < 4) (hD : D < 40) : (nI D * 4 + nI p = nI (4 * D + p)) ∧ (nI (4 * D + p)).toNatClampNeg = 4 * D + p ∧ ¬ nI (4 * D + p) < 0 ∧ ¬ Int32.ofNat 160 ≤ nI (4 * D + p) ∧ ¬ 160 ≤ 4 * D + p := by
  refine ⟨?_, nI_clamp (by omega), nI_pos (by omega), nI_ge (a := 4 * D + p) (b := 160) (by omega) (by omega), by omega⟩
  rw [Int32.mul_comm, show (4 : Int32) * nI D = nI (4 * D) from (Int32.ofNat_mul 4 D).symm, nI_add]
theorem e_chW (hp : p < 4) (hD : D < 40) (h : m 14 1 = nI D) : Rr X d MCh_write 0 [.ref 14, .int (nI p), .int x, mkU] [] (Wd m la ro et) = some (none, Wd (up2 m 15 (4 * D + p) x) la ro et) := by
  obtain ⟨e1, e2, e3, e4, e5⟩ := nt_at hp hD
  simp only [r_MCh_write_0, r_MCh_write_1, r_MCh_write_4, r_MCh_write_5, r_MCh_write_6, r_MCh_write_7, r_MCh_write_8, r_MCh_write_9, r_MCh_write_10, r_MCh_write_13, r_MCh_write_14, r_MCh_write_15, r_MCh_write_18, r_MCh_write_19, r_MCh_write_22, r_MCh_write_23, r_MCh_write_26, r_MCh_write_27, r_MCh_write_28, r_MCh_write_29, sL_0, sL_1, sL_2, mk_i, mk_r, mk_f, mk_n, mk_u, mk_l, List.set_cons_succ, List.set_cons_zero, Nat.reduceAdd, ckS_0, ckS_1, ckS_2, ckS_3, ckS_4, Option.bind_some, Option.isSome_some, psh, if_true, if_false, i10, not_true_eq_false, not_false_eq_true, Bool.false_eq_true, and_self, and_true, true_and, eq_self, qI_14_1, qI_14_2, qR_14_0, qRd_14_0, qA_15, qAd_15, qO_14, qL_15, qLd_15, h, e1, e2, e3, e4, e5, or_self]
theorem e_chP (hp : p < 4) (hD : D < 40) : Rr X d MCh_part 0 [.ref 14, .int (nI D), .int (nI p), mkU] [] (Wd m la ro et) = some (some (.int (m 15 (4 * D + p))), Wd m la ro et) := by
  obtain ⟨e1, e2, e3, e4, e5⟩ := nt_at hp hD
  simp only [r_MCh_part_0, r_MCh_part_1, r_MCh_part_2, r_MCh_part_3, r_MCh_part_4, r_MCh_part_5, r_MCh_part_6, r_MCh_part_7, r_MCh_part_10, r_MCh_part_11, r_MCh_part_12, r_MCh_part_15, r_MCh_part_16, r_MCh_part_19, r_MCh_part_20, r_MCh_part_23, r_MCh_part_24, r_MCh_part_25, r_MCh_part_28, r_MCh_part_29, sL_0, sL_1, sL_2, mk_i, mk_r, mk_f, mk_n, mk_u, mk_l, List.set_cons_succ, List.set_cons_zero, Nat.reduceAdd, ckS_0, ckS_1, ckS_2, ckS_3, ckS_4, Option.bind_some, Option.isSome_some, psh, if_true, if_false, i10, not_true_eq_false, not_false_eq_true, Bool.false_eq_true, and_self, and_true, true_and, eq_self, qI_14_1, qI_14_2, qR_14_0, qRd_14_0, qA_15, qAd_15, qO_14, qL_15, qLd_15, e1, e2, e3, e4, e5, or_self]
theorem cp_1_17 : fCn 1 17 = some (10, 0, 0, 0) := rfl
theorem d_nt22 : decode MCh_note.2.2.1 22 = .ok (.invokestatic 17, 3) := by decide +kernel
theorem nt_tail (hD : D < 40) (h : m 14 1 = nI D) : Rr X (d + 1) MCh_note 35 [.ref 14, .int s, .int w, .int b, .int v] [] (Wd m la ro et) = some (none, Wd (up2 (up2 (up2 (up2 (up2 (up2 m 15 (4 * D) s) 15 (4 * D + 1) w) 15 (4 * D + 2) b) 15 (4 * D + 3) v) 14 1 (nI (D + 1))) 14 2 (nI (D + 1))) la ro et) := by
  have h1 : ∀ x, up2 m 15 (4 * D) x 14 1 = nI D := fun x => (up2_a (by decide)).trans h
  have h2 : ∀ x y, up2 (up2 m 15 (4 * D) x) 15 (4 * D + 1) y 14 1 = nI D := fun x y => (up2_a (by decide)).trans (h1 x)
  have h3 : ∀ x y z, up2 (up2 (up2 m 15 (4 * D) x) 15 (4 * D + 1) y) 15 (4 * D + 2) z 14 1 = nI D := fun x y z => (up2_a (by decide)).trans (h2 x y)
  have h4 : ∀ x y z u, up2 (up2 (up2 (up2 m 15 (4 * D) x) 15 (4 * D + 1) y) 15 (4 * D + 2) z) 15 (4 * D + 3) u 14 1 = nI D := fun x y z u => (up2_a (by decide)).trans (h3 x y z)
  have e0 : Rr X d MCh_write 0 [.ref 14, .int 0, .int s, mkU] [] (Wd m la ro et) = some (none, Wd (up2 m 15 (4 * D) s) la ro et) := e_chW (p := 0) (by decide) hD h
  have e1 : Rr X d MCh_write 0 [.ref 14, .int 1, .int w, mkU] [] (Wd (up2 m 15 (4 * D) s) la ro et) = some (none, Wd (up2 (up2 m 15 (4 * D) s) 15 (4 * D + 1) w) la ro et) := e_chW (p := 1) (by decide) hD (h1 s)
  have e2 : Rr X d MCh_write 0 [.ref 14, .int 2, .int b, mkU] [] (Wd (up2 (up2 m 15 (4 * D) s) 15 (4 * D + 1) w) la ro et) = some (none, Wd (up2 (up2 (up2 m 15 (4 * D) s) 15 (4 * D + 1) w) 15 (4 * D + 2) b) la ro et) := e_chW (p := 2) (by decide) hD (h2 s w)
  have e3 : Rr X d MCh_write 0 [.ref 14, .int 3, .int v, mkU] [] (Wd (up2 (up2 (up2 m 15 (4 * D) s) 15 (4 * D + 1) w) 15 (4 * D + 2) b) la ro et) = some (none, Wd (up2 (up2 (up2 (up2 m 15 (4 * D) s) 15 (4 * D + 1) w) 15 (4 * D + 2) b) 15 (4 * D + 3) v) la ro et) := e_chW (p := 3) (by decide) hD (h3 s w b)
  have h5 := h4 s w b v
  simp only [r_MCh_note_35, r_MCh_note_36, r_MCh_note_37, r_MCh_note_38, r_MCh_note_41, r_MCh_note_42, r_MCh_note_43, r_MCh_note_44, r_MCh_note_47, r_MCh_note_48, r_MCh_note_49, r_MCh_note_50, r_MCh_note_53, r_MCh_note_54, r_MCh_note_55, r_MCh_note_57, r_MCh_note_60, r_MCh_note_61, r_MCh_note_61i, r_MCh_note_62, r_MCh_note_65, r_MCh_note_66, r_MCh_note_67, r_MCh_note_70, r_MCh_note_71, r_MCh_note_72, r_MCh_note_75, r_MCh_note_78, sL_0, sL_1, sL_2, mk_i, mk_r, mk_f, mk_n, mk_u, mk_l, List.set_cons_succ, List.set_cons_zero, Nat.reduceAdd, ckS_0, ckS_1, ckS_2, ckS_3, ckS_4, Option.bind_some, Option.isSome_some, psh, if_true, if_false, i10, not_true_eq_false, not_false_eq_true, Bool.false_eq_true, and_self, and_true, true_and, eq_self, qI_14_1, qI_14_2, qR_14_0, qRd_14_0, qA_15, qAd_15, qO_14, qL_15, qLd_15, e0, e1, e2, e3, h5, nI_1, up2_s]
theorem e_note (hD : D ≤ 40) (h : m 14 1 = nI D) : Rr X (d + 1) MCh_note 0 [.ref 14, .int s, .int w, .int b, .int v] [] (Wd m la ro et) = some (none, Wd (ntC m D s w b v) la ro et) := by
  unfold ntC ntB ntD
  by_cases c : D = 40
  · subst c
    have z : (nI 40 = 40) = True := eq_true rfl
    have c39 : (39 : Int32) = nI 39 := rfl
    have t := nt_tail (X := X) (d := d) (m := up2 (upA m 15 (va_cpy (m 15) (m 15) 4 0 156)) 14 1 39) (la := la) (ro := ro) (et := et) (s := s) (w := w) (b := b) (v := v) (D := 39) (by decide) (up2_s _ _ _ _)
    have cp := R_cpW (X := X) (M := MCh_note) (pc := 22) (d' := d) (mu := m) (la := la) (ro := ro) (et := et) (a := 15) (b := 15) (x := 4) (j := 0) (n := 156) (L := [.ref 14, .int s, .int w, .int b, .int v]) (r := []) d_nt22 cp_1_17 (by decide) (by decide) (by decide) (by decide) (by decide) (by decide) (by decide) (by decide)
    have e14 : upA m 15 (va_cpy (m 15) (m 15) 4 0 156) 14 1 = nI 40 := h
    have e41 : (4 : Int32).toNatClampNeg = 4 := by decide
    have e42 : (0 : Int32).toNatClampNeg = 0 := by decide
    have e43 : (156 : Int32).toNatClampNeg = 156 := by decide
    rw [e41, e42, e43] at cp
    have e39 : nI 40 - 1 = 39 := by decide +kernel
    rw [if_pos rfl, if_pos rfl, ← t]
    simp only [r_MCh_note_0, r_MCh_note_1, r_MCh_note_4, r_MCh_note_6, r_MCh_note_9, r_MCh_note_10, r_MCh_note_13, r_MCh_note_14, r_MCh_note_15, r_MCh_note_18, r_MCh_note_19, r_MCh_note_25, r_MCh_note_26, r_MCh_note_26i, r_MCh_note_27, r_MCh_note_30, r_MCh_note_31, r_MCh_note_32, sL_0, sL_1, sL_2, mk_i, mk_r, mk_f, mk_n, mk_u, mk_l, List.set_cons_succ, List.set_cons_zero, Nat.reduceAdd, ckS_0, ckS_1, ckS_2, ckS_3, ckS_4, Option.bind_some, Option.isSome_some, psh, if_true, if_false, i10, not_true_eq_false, not_false_eq_true, Bool.false_eq_true, and_self, and_true, true_and, eq_self, qI_14_1, qI_14_2, qR_14_0, qRd_14_0, qA_15, qAd_15, qO_14, qL_15, qLd_15, h, z, cp, e14, e39]
  · have z : (nI D = 40) = False := eq_false fun q => c ((nI_eq (b := 40) (by omega) (by omega)).mp q)
    have t := nt_tail (X := X) (d := d) (m := m) (la := la) (ro := ro) (et := et) (s := s) (w := w) (b := b) (v := v) (D := D) (by omega) h
    rw [if_neg c, if_neg c, ← t]
    simp only [r_MCh_note_0, r_MCh_note_1, r_MCh_note_4, r_MCh_note_6, sL_0, sL_1, sL_2, mk_i, mk_r, mk_f, mk_n, mk_u, mk_l, List.set_cons_succ, List.set_cons_zero, Nat.reduceAdd, ckS_0, ckS_1, ckS_2, ckS_3, ckS_4, Option.bind_some, Option.isSome_some, psh, if_true, if_false, i10, not_true_eq_false, not_false_eq_true, Bool.false_eq_true, and_self, and_true, true_and, eq_self, qI_14_1, qI_14_2, qR_14_0, qRd_14_0, qO_14, h, z]
-- stones stay alike
theorem st_r (hn : n ≤ 6) (hS : S < n) (hk : k < 4) (hv : rtI (4 * S + k) v) (hs : ∀ S, S < n → StOk mu S) : ∀ S', S' < n → StOk (up2 (up2 mu (19 + 5 * S + 4) k v) 87 (4 * S + k) v) S' := by
  intro S' hS'
  by_cases c : S' = S
  · subst c
    obtain ⟨L, l1, l2, l3, l4, l5, s5, s6, s7, s8, s9, s10⟩ := hs S' hS'
    have e : ∀ c j, ¬ c = 19 + 5 * S' + 4 → ¬ c = 87 → up2 (up2 mu (19 + 5 * S' + 4) k v) 87 (4 * S' + k) v c j = mu c j := fun c j h1 h2 => by rw [up2_a h2, up2_a h1]
    refine ⟨L, l1, (e _ _ (by omega) (by omega)).trans l2, (e _ _ (by omega) (by omega)).trans l3, fun j hj => ?_, fun k' hk' => ?_, ?_⟩
    · rw [e _ _ (by omega) (by omega), e _ _ (by omega) (by omega), e _ _ (by omega) (by omega), e _ _ (by omega) (by omega), e _ _ (by omega) (by omega), e _ _ (by omega) (by omega)]
      exact l4 j hj
    · by_cases q : k' = k
      · subst q
        rw [up2_a (by omega), up2_s, up2_s]
        exact ⟨rfl, hv⟩
      · rw [up2_a (by omega), up2_k (by omega), up2_k (by omega), up2_a (by omega)]
        exact l5 k' hk'
    · have h0 : ∀ j, up2 (up2 mu (19 + 5 * S' + 4) k v) 87 (4 * S' + k) v (19 + 5 * S') j = mu (19 + 5 * S') j := fun j => e _ _ (by omega) (by omega)
      have h1 : ∀ j, up2 (up2 mu (19 + 5 * S' + 4) k v) 87 (4 * S' + k) v (19 + 5 * S' + 1) j = mu (19 + 5 * S' + 1) j := fun j => e _ _ (by omega) (by omega)
      have h2 : ∀ j, up2 (up2 mu (19 + 5 * S' + 4) k v) 87 (4 * S' + k) v (19 + 5 * S' + 2) j = mu (19 + 5 * S' + 2) j := fun j => e _ _ (by omega) (by omega)
      have h3 : ∀ j, up2 (up2 mu (19 + 5 * S' + 4) k v) 87 (4 * S' + k) v (19 + 5 * S' + 3) j = mu (19 + 5 * S' + 3) j := fun j => e _ _ (by omega) (by omega)
      unfold sumsOk
      simp only [h0, h1, h2, h3]
      exact ⟨s5, s6, s7, s8, s9, s10⟩
  · refine StOk_c (fun j => ?_) (fun r j hr => ?_) ?_ (fun j h1 h2 => ⟨?_, ?_, ?_⟩) (fun j h1 h2 => ?_) (hs S' hS')
    · rw [up2_a (by omega), up2_a (by omega)]
    · rw [up2_a (by omega), up2_a (by omega)]
    · rw [up2_a (by omega), up2_a (by omega)]
    · rw [up2_a (by omega), up2_a (by omega)]
    · rw [up2_a (by omega), up2_a (by omega)]
    · rw [up2_a (by omega), up2_a (by omega)]
    · rw [up2_k (by omega), up2_a (by omega)]
theorem st_w (hn : n ≤ 6) (hS : S < n) (hj : j < 12) (hl : mu (19 + 5 * S) 4 = nI L) (hL : L ≤ 12) (hs : ∀ S, S < n → StOk mu S) : ∀ S', S' < n → StOk (up2 (wgK (up2 mu (19 + 5 * S + 1) j v) (19 + 5 * S) L) 84 (12 * S + j) v) S' := by
  intro S' hS'
  by_cases c : S' = S
  · subst c
    obtain ⟨L', l1, l2, l3, l4, l5, l6⟩ := hs S' hS'
    have : L' = L := (nI_eq (by omega) (by omega)).mp (l2.symm.trans hl)
    subst this
    have wr : ∀ c j', ¬ c = 19 + 5 * S' → ¬ c = 84 → up2 (wgK (up2 mu (19 + 5 * S' + 1) j v) (19 + 5 * S') L') 84 (12 * S' + j) v c j' = up2 mu (19 + 5 * S' + 1) j v c j' := fun c j' h1 h2 => by rw [up2_a h2, wgK_row h1]
    refine ⟨L', l1, ?_, ?_, fun i hi => ⟨?_, ?_, ?_⟩, fun k hk => ?_, ?_⟩
    · rw [up2_a (by omega), wgK_v.2.2.2.2.2.2, up2_a (by omega)]
      exact l2
    · rw [wr _ _ (by omega) (by omega), up2_a (by omega)]
      exact l3
    · rw [wr _ _ (by omega) (by omega)]
      by_cases q : i = j
      · subst q
        rw [up2_s, up2_s]
      · rw [up2_k (by omega), up2_k (by omega), wgK_row (by omega), up2_a (by omega)]
        exact (l4 i hi).1
    · rw [wr _ _ (by omega) (by omega), wr _ _ (by omega) (by omega), up2_a (by omega), up2_a (by omega)]
      exact (l4 i hi).2.1
    · rw [wr _ _ (by omega) (by omega), wr _ _ (by omega) (by omega), up2_a (by omega), up2_a (by omega)]
      exact (l4 i hi).2.2
    · rw [wr _ _ (by omega) (by omega), wr _ _ (by omega) (by omega), up2_a (by omega), up2_a (by omega)]
      exact l5 k hk
    · have ok := wgK_ok (m := up2 mu (19 + 5 * S' + 1) j v) (a := 19 + 5 * S') (L := L')
      have h0 : ∀ j', up2 (wgK (up2 mu (19 + 5 * S' + 1) j v) (19 + 5 * S') L') 84 (12 * S' + j) v (19 + 5 * S') j' = wgK (up2 mu (19 + 5 * S' + 1) j v) (19 + 5 * S') L' (19 + 5 * S') j' := fun j' => up2_a (by omega)
      have h1 : ∀ j', up2 (wgK (up2 mu (19 + 5 * S' + 1) j v) (19 + 5 * S') L') 84 (12 * S' + j) v (19 + 5 * S' + 1) j' = wgK (up2 mu (19 + 5 * S' + 1) j v) (19 + 5 * S') L' (19 + 5 * S' + 1) j' := fun j' => up2_a (by omega)
      have h2 : ∀ j', up2 (wgK (up2 mu (19 + 5 * S' + 1) j v) (19 + 5 * S') L') 84 (12 * S' + j) v (19 + 5 * S' + 2) j' = wgK (up2 mu (19 + 5 * S' + 1) j v) (19 + 5 * S') L' (19 + 5 * S' + 2) j' := fun j' => up2_a (by omega)
      have h3 : ∀ j', up2 (wgK (up2 mu (19 + 5 * S' + 1) j v) (19 + 5 * S') L') 84 (12 * S' + j) v (19 + 5 * S' + 3) j' = wgK (up2 mu (19 + 5 * S' + 1) j v) (19 + 5 * S') L' (19 + 5 * S' + 3) j' := fun j' => up2_a (by omega)
      unfold sumsOk at ok ⊢
      simp only [h0, h1, h2, h3]
      exact ok
  · have o : ∀ c j', ¬ c = 19 + 5 * S → ¬ c = 19 + 5 * S + 1 → ¬ c = 84 → up2 (wgK (up2 mu (19 + 5 * S + 1) j v) (19 + 5 * S) L) 84 (12 * S + j) v c j' = mu c j' := fun c j' h1 h2 h3 => by rw [up2_a h3, wgK_row h1, up2_a h2]
    refine StOk_c (fun j => o _ _ (by omega) (by omega) (by omega)) (fun r j hr => o _ _ (by omega) (by omega) (by omega)) (o _ _ (by omega) (by omega) (by omega)) (fun i h1 h2 => ⟨?_, o _ _ (by omega) (by omega) (by omega), o _ _ (by omega) (by omega) (by omega)⟩) (fun i h1 h2 => o _ _ (by omega) (by omega) (by omega)) (hs S' hS')
    rw [up2_k (by omega), wgK_row (by omega), up2_a (by omega)]
/-- stones look at these cells alone -/
theorem st_t (h : ∀ c j, (19 ≤ c ∧ c ≤ 48) ∨ (83 ≤ c ∧ c ≤ 87) → M c j = M0 c j) (hS : S < 6) (q : StOk M0 S) : StOk M S := StOk_c (fun j => h _ _ (.inl (by omega))) (fun r j hr => h _ _ (.inl (by omega))) (h _ _ (.inr (by omega))) (fun j _ _ => ⟨h _ _ (.inr (by omega)), h _ _ (.inr (by omega)), h _ _ (.inr (by omega))⟩) (fun j _ _ => h _ _ (.inr (by omega))) q
theorem ch_t {i : Nat} (h : ∀ c j, c = 15 ∨ (88 ≤ c ∧ c ≤ 91) → M c j = M0 c j) (q : ChOk M0 n i) : ChOk M n i := by
  unfold ChOk at q ⊢
  have e15 : ∀ j, M 15 j = M0 15 j := fun j => h _ _ (.inl rfl)
  rw [e15, e15, e15, e15, h 88 i (.inr (by omega)), h 89 i (.inr (by omega)), h 90 i (.inr (by omega)), h 91 i (.inr (by omega))]
  exact q
theorem ch_n {i n' : Nat} (h : n ≤ n') (q : ChOk mu n i) : ChOk mu n' i := by
  obtain ⟨S, h1, h2⟩ := q
  exact ⟨S, by omega, h2⟩
-- what a note leaves, class and model
theorem up2_cg {c i : Nat} (h : m c i = m' c i) : up2 m a k v c i = up2 m' a k v c i := by rw [up2_e, up2_e, h]
theorem ntC_o {c i : Nat} (h1 : ¬ c = 14) (h2 : ¬ c = 15) : ntC m D s w b v c i = m c i := by
  unfold ntC
  rw [up2_a h1, up2_a h1, up2_a h2, up2_a h2, up2_a h2, up2_a h2]
  unfold ntB
  split
  · rw [up2_a h1]
    unfold upA
    rw [if_neg h2]
  · rfl
theorem ntC_v : ntC m D s w b v 14 1 = nI (ntD D + 1) ∧ ntC m D s w b v 14 2 = nI (ntD D + 1) ∧ (∀ i, ntC m D s w b v 15 i = if i = 4 * ntD D + 3 then v else if i = 4 * ntD D + 2 then b else if i = 4 * ntD D + 1 then w else if i = 4 * ntD D then s else ntB m D 15 i) := by
  unfold ntC
  refine ⟨?_, up2_s _ _ _ _, fun i => ?_⟩
  · rw [up2_k (by decide), up2_s]
  · rw [up2_a (by decide), up2_a (by decide)]
    simp only [up2_e, true_and]
theorem ntB_15 (hD : D ≤ 40) {i q : Nat} (hi : i < ntD D) (hq : q < 4) : ntB m D 15 (4 * i + q) = m 15 (4 * (if D = 40 then i + 1 else i) + q) := by
  unfold ntB
  unfold ntD at hi
  by_cases c : D = 40
  · rw [if_pos c] at hi
    rw [if_pos c, if_pos c, up2_a (by decide)]
    unfold upA va_cpy
    rw [if_pos rfl, if_pos ⟨Nat.zero_le _, by omega⟩]
    congr 1
    omega
  · rw [if_neg c, if_neg c]
/-- the model's changes behind another -/
theorem chg_v {of at' : Int32} (hD : D ≤ 40) (h12 : mu 81 12 = nI D) (hne : ¬ vAt mu of at' = v) : chgF mu of at' v 81 12 = nI (ntD D + 1) ∧ chgF mu of at' v 81 13 = nI 0 ∧ (∀ i, chgF mu of at' v 88 i = if i = ntD D then of else mu 88 (if D = 40 ∧ i < 39 then i + 1 else i)) ∧ (∀ i, chgF mu of at' v 89 i = if i = ntD D then at' else mu 89 (if D = 40 ∧ i < 39 then i + 1 else i)) ∧ (∀ i, chgF mu of at' v 90 i = if i = ntD D then vAt mu of at' else mu 90 (if D = 40 ∧ i < 39 then i + 1 else i)) ∧ (∀ i, chgF mu of at' v 91 i = if i = ntD D then v else mu 91 (if D = 40 ∧ i < 39 then i + 1 else i)) ∧ (∀ c i, c < 81 → chgF mu of at' v c i = mu c i) ∧ (∀ c i, c = 83 ∨ c = 84 ∨ c = 85 ∨ c = 86 ∨ c = 87 → chgF mu of at' v c i = plc mu of at' v c i) := by
  have z40 : (mu 81 12 = 40) = (D = 40) := by rw [h12]; exact propext (nI_eq (b := 40) (by omega) (by omega))
  have cD : (mu 81 12).toNatClampNeg = D := by rw [h12]; exact nI_clamp (by omega)
  unfold chgF
  rw [if_neg hne]
  simp only [z40, cD]
  have eD : (if D = 40 then 39 else D) = ntD D := rfl
  rw [eD]
  obtain ⟨B, hB⟩ : ∃ B, B = (if D = 40 then up2 (shk (up2 mu 81 13 0) 40) 81 12 39 else up2 mu 81 13 0) := ⟨_, rfl⟩
  rw [← hB]
  have b13 : B 81 13 = nI 0 := by
    rw [hB]
    split
    · rw [up2_k (by decide), shk_o (by decide), up2_s]; rfl
    · rw [up2_s]; rfl
  have bo : ∀ c i, ¬ c = 81 → ¬ (c = 88 ∨ c = 89 ∨ c = 90 ∨ c = 91) → B c i = mu c i := fun c i h1 h2 => by
    rw [hB]
    split
    · rw [up2_a h1, shk_o h2, up2_a h1]
    · rw [up2_a h1]
  have b8 : ∀ c i, (c = 88 ∨ c = 89 ∨ c = 90 ∨ c = 91) → B c i = mu c (if D = 40 ∧ i < 39 then i + 1 else i) := fun c i h => by
    have hc : ¬ c = 81 := by omega
    rw [hB]
    by_cases q : D = 40
    · rw [if_pos q, up2_a hc]
      unfold shk
      by_cases q2 : i < 39
      · rw [if_pos ⟨h, by omega⟩, if_pos ⟨q, q2⟩, up2_a hc]
      · rw [if_neg (by omega), if_neg (fun z => q2 z.2), up2_a hc]
    · rw [if_neg q, if_neg (fun z => q z.1), up2_a hc]
  refine ⟨?_, ?_, fun i => ?_, fun i => ?_, fun i => ?_, fun i => ?_, fun c i h1 => ?_, fun c i h => ?_⟩
  · rw [plc_o (by decide) (by decide), up2_s]
  · rw [plc_o (by decide) (by decide), up2_k (by decide), up2_a (by decide), up2_a (by decide), up2_a (by decide), up2_a (by decide)]
    exact b13
  · rw [plc_o (by decide) (by decide), up2_a (by decide), up2_a (by decide), up2_a (by decide), up2_a (by decide), up2_e, b8 88 i (by omega)]
    simp only [true_and]
  · rw [plc_o (by decide) (by decide), up2_a (by decide), up2_a (by decide), up2_a (by decide), up2_e]
    by_cases q : i = ntD D
    · rw [if_pos ⟨rfl, q⟩, if_pos q]
    · rw [if_neg (fun z => q z.2), if_neg q, up2_a (by decide), b8 89 i (by omega)]
  · rw [plc_o (by decide) (by decide), up2_a (by decide), up2_a (by decide), up2_e]
    by_cases q : i = ntD D
    · rw [if_pos ⟨rfl, q⟩, if_pos q]
    · rw [if_neg (fun z => q z.2), if_neg q, up2_a (by decide), up2_a (by decide), b8 90 i (by omega)]
  · rw [plc_o (by decide) (by decide), up2_a (by decide), up2_e]
    by_cases q : i = ntD D
    · rw [if_pos ⟨rfl, q⟩, if_pos q]
    · rw [if_neg (fun z => q z.2), if_neg q, up2_a (by decide), up2_a (by decide), up2_a (by decide), b8 91 i (by omega)]
  · rw [plc_o (by omega) (by omega), up2_a (by omega), up2_a (by omega), up2_a (by omega), up2_a (by omega), up2_a (by omega)]
    exact bo c i (by omega) (by omega)
  · have e : ∀ i, up2 (up2 (up2 (up2 (up2 B 88 (ntD D) of) 89 (ntD D) at') 90 (ntD D) (vAt mu of at')) 91 (ntD D) v) 81 12 (nI (ntD D + 1)) c i = mu c i := fun i => by
      rw [up2_a (by omega), up2_a (by omega), up2_a (by omega), up2_a (by omega), up2_a (by omega)]
      exact bo c i (by omega) (by omega)
    unfold plc
    split
    · exact up2_cg (e i)
    · exact up2_cg (e i)
end
