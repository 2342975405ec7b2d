section
variable {X : Tok} {d : Nat} {mu mu' : Mu} {la la' : La} {ro ro' : Ro} {et : Nat → Option va_E} {h : Hp}
noncomputable def fnU (t : Nat) : Nat → Option Nat → Option Nat
  | 0, c => c
  | _ + 1, none => none
  | m + 1, some c => if c = t then some c else fnU t m (abN c)
theorem fnU_lt {t : Nat} : ∀ (m : Nat) (c : Option Nat), (∀ j, c = some j → j < 8) → ∀ j, fnU t m c = some j → j < 8
  | 0, c, h, j, e => h j e
  | _ + 1, none, _, j, e => by cases e
  | m + 1, some c, h, j, e => by
    unfold fnU at e
    split at e
    · cases e
      exact h _ rfl
    · exact fnU_lt m (abN c) (fun j q => abN_lt q) j e
theorem un_loop {k : Int32} {t : Nat} (hE : tEx X) (ht : t < 8) : ∀ (m i : Nat) (c : Option Nat), i + m = 8 → (∀ j, c = some j → j < 8) → ∃ i' : Int32, Rr X (d + 1) MBo_isUnder 4 [.int k, .int (nI t), .int (kI c), .int (nI i)] [] h = Rr X (d + 1) MBo_isUnder 33 [.int k, .int (nI t), .int (kI (fnU t m c)), .int i'] [] h := by
  intro m
  induction m with
  | zero =>
    intro i c hi hc
    have : i = 8 := by omega
    subst this
    have h2 : Int32.ofNat 8 ≤ nI 8 := nI_le (Nat.le_refl _) (by omega)
    refine ⟨nI 8, ?_⟩
    rw [r_MBo_isUnder_4]
    simp only [r_MBo_isUnder_5, r_MBo_isUnder_8, r_MBo_isUnder_8a, r_MBo_isUnder_8o, r_MBo_isUnder_9, sL_0, sL_1, sL_2, mk_i, mk_r, mk_f, mk_n, mk_u, mk_l, List.set_cons_succ, List.set_cons_zero, Nat.reduceAdd, ckS_0, ckS_1, ckS_2, ckS_3, ckS_4, Option.bind_some, Option.isSome_some, psh, if_true, if_false, i10, not_true_eq_false, not_false_eq_true, Bool.false_eq_true, and_self, and_true, true_and, eq_self, hE.1, h2, fnU]
  | succ m ih =>
    intro i c hi hc
    have h2 : ¬ Int32.ofNat 8 ≤ nI i := nI_ge (a := i) (b := 8) (by omega) (by omega)
    cases c with
    | none =>
      refine ⟨nI i, ?_⟩
      have e : kI none = -1 := rfl
      rw [r_MBo_isUnder_4]
      simp only [r_MBo_isUnder_5, r_MBo_isUnder_8, r_MBo_isUnder_8a, r_MBo_isUnder_8o, r_MBo_isUnder_9, r_MBo_isUnder_12, r_MBo_isUnder_13, r_MBo_isUnder_14, sL_0, sL_1, sL_2, mk_i, mk_r, mk_f, mk_n, mk_u, mk_l, List.set_cons_succ, List.set_cons_zero, Nat.reduceAdd, ckS_0, ckS_1, ckS_2, ckS_3, ckS_4, Option.bind_some, Option.isSome_some, psh, if_true, if_false, i10, not_true_eq_false, not_false_eq_true, Bool.false_eq_true, and_self, and_true, true_and, eq_self, hE.1, h2, fnU, e]
    | some c =>
      have hc8 := hc c rfl
      have e : kI (some c) = nI c := rfl
      have e1 : ¬ nI c = -1 := fun q => by
        have e := congrArg Int32.toInt q
        rw [nI_toInt (by omega), show (-1 : Int32).toInt = -1 from rfl] at e
        omega
      by_cases q : c = t
      · subst q
        refine ⟨nI i, ?_⟩
        rw [r_MBo_isUnder_4]
        simp only [r_MBo_isUnder_5, r_MBo_isUnder_8, r_MBo_isUnder_8a, r_MBo_isUnder_8o, r_MBo_isUnder_9, r_MBo_isUnder_12, r_MBo_isUnder_13, r_MBo_isUnder_14, r_MBo_isUnder_17, r_MBo_isUnder_18, r_MBo_isUnder_19, sL_0, sL_1, sL_2, mk_i, mk_r, mk_f, mk_n, mk_u, mk_l, List.set_cons_succ, List.set_cons_zero, Nat.reduceAdd, ckS_0, ckS_1, ckS_2, ckS_3, ckS_4, Option.bind_some, Option.isSome_some, psh, if_true, if_false, i10, not_true_eq_false, not_false_eq_true, Bool.false_eq_true, and_self, and_true, true_and, eq_self, hE.1, h2, fnU, e, e1]
      · have e2 : ¬ nI c = nI t := fun z => q ((nI_eq (by omega) (by omega)).mp z)
        obtain ⟨i', hI⟩ := ih (i + 1) (abN c) (by omega) (fun j z => abN_lt z)
        refine ⟨i', ?_⟩
        rw [r_MBo_isUnder_4]
        simp only [r_MBo_isUnder_5, r_MBo_isUnder_8, r_MBo_isUnder_8a, r_MBo_isUnder_8o, r_MBo_isUnder_9, r_MBo_isUnder_12, r_MBo_isUnder_13, r_MBo_isUnder_14, r_MBo_isUnder_17, r_MBo_isUnder_18, r_MBo_isUnder_19, r_MBo_isUnder_22, r_MBo_isUnder_23, r_MBo_isUnder_26, r_MBo_isUnder_27, r_MBo_isUnder_30, sL_0, sL_1, sL_2, mk_i, mk_r, mk_f, mk_n, mk_u, mk_l, List.set_cons_succ, List.set_cons_zero, Nat.reduceAdd, ckS_0, ckS_1, ckS_2, ckS_3, ckS_4, Option.bind_some, Option.isSome_some, psh, if_true, if_false, i10, not_true_eq_false, not_false_eq_true, Bool.false_eq_true, and_self, and_true, true_and, eq_self, hE.1, h2, e, e1, e2, e_above hE hc8, nI_1, fnU, q]
        exact hI
theorem e_isUnderC {k t : Nat} (hE : tEx X) (hk : k < 8) (ht : t < 8) : Rr X (d + 1) MBo_isUnder 0 [.int (nI k), .int (nI t), mkU, mkU] [] h = some (some (.int (if fnU t 8 (some k) = some t then 1 else 0)), h) := by
  obtain ⟨i', e⟩ := un_loop (X := X) (d := d) (h := h) (k := nI k) hE ht 8 0 (some k) rfl (fun j q => by cases q; exact hk)
  have e0 : kI (some k) = nI k := rfl
  have e1 : ¬ nI k = -1 := fun q => by
    have e := congrArg Int32.toInt q
    rw [nI_toInt (by omega), show (-1 : Int32).toInt = -1 from rfl] at e
    omega
  rw [e0, nI_0] at e
  simp only [r_MBo_isUnder_0, r_MBo_isUnder_1, r_MBo_isUnder_2, r_MBo_isUnder_3, sL_0, sL_1, sL_2, mk_i, mk_r, mk_f, mk_n, mk_u, mk_l, List.set_cons_succ, List.set_cons_zero, Nat.reduceAdd, ckS_0, ckS_1, ckS_2, ckS_3, ckS_4, Option.bind_some, Option.isSome_some, psh, if_true, if_false, i10, not_true_eq_false, not_false_eq_true, Bool.false_eq_true, and_self, and_true, true_and, eq_self, e]
  cases c : fnU t 8 (some k) with
  | none =>
    have e2 : ¬ (-1 : Int32) = nI t := fun q => by
      have e := congrArg Int32.toInt q
      rw [nI_toInt (by omega), show (-1 : Int32).toInt = -1 from rfl] at e
      omega
    have e3 : kI none = -1 := rfl
    rw [if_neg (fun q => by cases q)]
    simp only [r_MBo_isUnder_33, r_MBo_isUnder_34, r_MBo_isUnder_35, r_MBo_isUnder_38, r_MBo_isUnder_39, r_MBo_isUnder_40, r_MBo_isUnder_43, r_MBo_isUnder_44, r_MBo_isUnder_47, r_MBo_isUnder_48, sL_0, sL_1, sL_2, mk_i, mk_r, mk_f, mk_n, mk_u, mk_l, List.set_cons_succ, List.set_cons_zero, Nat.reduceAdd, ckS_0, ckS_1, ckS_2, ckS_3, ckS_4, Option.bind_some, Option.isSome_some, psh, if_true, if_false, i10, not_true_eq_false, not_false_eq_true, Bool.false_eq_true, and_self, and_true, true_and, eq_self, e3, e2, true_or]
  | some j =>
    have hj := fnU_lt 8 (some k) (fun j q => by cases q; exact hk) j c
    have e3 : kI (some j) = nI j := rfl
    by_cases q : j = t
    · subst q
      rw [if_pos rfl]
      simp only [r_MBo_isUnder_33, r_MBo_isUnder_34, r_MBo_isUnder_35, r_MBo_isUnder_38, r_MBo_isUnder_39, r_MBo_isUnder_40, r_MBo_isUnder_43, r_MBo_isUnder_44, r_MBo_isUnder_47, r_MBo_isUnder_48, sL_0, sL_1, sL_2, mk_i, mk_r, mk_f, mk_n, mk_u, mk_l, List.set_cons_succ, List.set_cons_zero, Nat.reduceAdd, ckS_0, ckS_1, ckS_2, ckS_3, ckS_4, Option.bind_some, Option.isSome_some, psh, if_true, if_false, i10, not_true_eq_false, not_false_eq_true, Bool.false_eq_true, and_self, and_true, true_and, eq_self, e3, e1, or_true]
    · have e2 : ¬ nI j = nI t := fun z => q ((nI_eq (by omega) (by omega)).mp z)
      rw [if_neg (fun z => q (Option.some.inj z))]
      simp only [r_MBo_isUnder_33, r_MBo_isUnder_34, r_MBo_isUnder_35, r_MBo_isUnder_38, r_MBo_isUnder_39, r_MBo_isUnder_40, r_MBo_isUnder_43, r_MBo_isUnder_44, r_MBo_isUnder_47, r_MBo_isUnder_48, sL_0, sL_1, sL_2, mk_i, mk_r, mk_f, mk_n, mk_u, mk_l, List.set_cons_succ, List.set_cons_zero, Nat.reduceAdd, ckS_0, ckS_1, ckS_2, ckS_3, ckS_4, Option.bind_some, Option.isSome_some, psh, if_true, if_false, i10, not_true_eq_false, not_false_eq_true, Bool.false_eq_true, and_self, and_true, true_and, eq_self, e3, e2, true_or]
theorem e_isUnderN {t : Nat} (hE : tEx X) (ht : t < 8) : Rr X (d + 1) MBo_isUnder 0 [.int (-1), .int (nI t), mkU, mkU] [] h = some (some (.int 0), h) := by
  have h2 : ¬ Int32.ofNat 8 ≤ 0 := by decide
  have e2 : ¬ (-1 : Int32) = nI t := fun q => by
    have e := congrArg Int32.toInt q
    rw [nI_toInt (by omega), show (-1 : Int32).toInt = -1 from rfl] at e
    omega
  simp only [r_MBo_isUnder_0, r_MBo_isUnder_1, r_MBo_isUnder_2, r_MBo_isUnder_3, r_MBo_isUnder_4, r_MBo_isUnder_5, r_MBo_isUnder_8, r_MBo_isUnder_8a, r_MBo_isUnder_8o, r_MBo_isUnder_9, r_MBo_isUnder_12, r_MBo_isUnder_13, r_MBo_isUnder_14, r_MBo_isUnder_17, r_MBo_isUnder_18, r_MBo_isUnder_19, r_MBo_isUnder_22, r_MBo_isUnder_23, r_MBo_isUnder_26, r_MBo_isUnder_27, r_MBo_isUnder_30, r_MBo_isUnder_33, r_MBo_isUnder_34, r_MBo_isUnder_35, r_MBo_isUnder_38, r_MBo_isUnder_39, r_MBo_isUnder_40, r_MBo_isUnder_43, r_MBo_isUnder_44, r_MBo_isUnder_47, r_MBo_isUnder_48, sL_0, sL_1, sL_2, mk_i, mk_r, mk_f, mk_n, mk_u, mk_l, List.set_cons_succ, List.set_cons_zero, Nat.reduceAdd, ckS_0, ckS_1, ckS_2, ckS_3, ckS_4, Option.bind_some, Option.isSome_some, psh, if_true, if_false, i10, not_true_eq_false, not_false_eq_true, Bool.false_eq_true, and_self, and_true, true_and, eq_self, hE.1, h2, e2, true_or]
noncomputable def unM (k t : Int32) : Bool := decide (t = 0 ∨ k = t ∨ (t = 1 ∧ k = 5) ∨ (t = 2 ∧ (k = 3 ∨ k = 4)) ∨ (t = 6 ∧ k = 7))
theorem un_eq : ∀ k, k < 8 → ∀ t, t < 8 → (fnU t 8 (some k) = some t ↔ unM (nI k) (nI t) = true) := by decide
theorem e_isUnderM {k t : Nat} (hk : k < 8) (ht : t < 8) : Rr X d MRm_isUnder 0 [.int (nI k), .int (nI t)] [] h = some (some (.int (if unM (nI k) (nI t) = true then 1 else 0)), h) := by
  have K : ∀ a b : Nat, a < 8 → b < 8 → (nI a = nI b) = (a = b) := fun a b ha hb => propext (nI_eq (by omega) (by omega))
  have e0 : (0 : Int32) = nI 0 := rfl
  have e1 : (1 : Int32) = nI 1 := rfl
  have e2 : (2 : Int32) = nI 2 := rfl
  have e3 : (3 : Int32) = nI 3 := rfl
  have e4 : (4 : Int32) = nI 4 := rfl
  have e5 : (5 : Int32) = nI 5 := rfl
  have e6 : (6 : Int32) = nI 6 := rfl
  have e7 : (7 : Int32) = nI 7 := rfl
  unfold unM
  by_cases c0 : nI t = 0
  · simp only [r_MRm_isUnder_0, r_MRm_isUnder_1, r_MRm_isUnder_4, r_MRm_isUnder_5, r_MRm_isUnder_6, r_MRm_isUnder_9, r_MRm_isUnder_10, r_MRm_isUnder_11, r_MRm_isUnder_14, r_MRm_isUnder_15, r_MRm_isUnder_16, r_MRm_isUnder_19, r_MRm_isUnder_20, r_MRm_isUnder_21, r_MRm_isUnder_24, r_MRm_isUnder_25, r_MRm_isUnder_26, r_MRm_isUnder_29, r_MRm_isUnder_30, r_MRm_isUnder_31, r_MRm_isUnder_34, r_MRm_isUnder_35, r_MRm_isUnder_37, r_MRm_isUnder_40, r_MRm_isUnder_41, r_MRm_isUnder_43, r_MRm_isUnder_46, r_MRm_isUnder_47, r_MRm_isUnder_50, r_MRm_isUnder_51, sL_0, sL_1, sL_2, mk_i, mk_r, mk_f, mk_n, mk_u, mk_l, List.set_cons_succ, List.set_cons_zero, Nat.reduceAdd, ckS_0, ckS_1, ckS_2, ckS_3, ckS_4, Option.bind_some, Option.isSome_some, psh, if_true, if_false, i10, not_true_eq_false, not_false_eq_true, Bool.false_eq_true, and_self, and_true, true_and, eq_self, c0, or_true, true_or, decide_true]
  by_cases c1 : nI k = nI t
  · simp only [r_MRm_isUnder_0, r_MRm_isUnder_1, r_MRm_isUnder_4, r_MRm_isUnder_5, r_MRm_isUnder_6, r_MRm_isUnder_9, r_MRm_isUnder_10, r_MRm_isUnder_11, r_MRm_isUnder_14, r_MRm_isUnder_15, r_MRm_isUnder_16, r_MRm_isUnder_19, r_MRm_isUnder_20, r_MRm_isUnder_21, r_MRm_isUnder_24, r_MRm_isUnder_25, r_MRm_isUnder_26, r_MRm_isUnder_29, r_MRm_isUnder_30, r_MRm_isUnder_31, r_MRm_isUnder_34, r_MRm_isUnder_35, r_MRm_isUnder_37, r_MRm_isUnder_40, r_MRm_isUnder_41, r_MRm_isUnder_43, r_MRm_isUnder_46, r_MRm_isUnder_47, r_MRm_isUnder_50, r_MRm_isUnder_51, sL_0, sL_1, sL_2, mk_i, mk_r, mk_f, mk_n, mk_u, mk_l, List.set_cons_succ, List.set_cons_zero, Nat.reduceAdd, ckS_0, ckS_1, ckS_2, ckS_3, ckS_4, Option.bind_some, Option.isSome_some, psh, if_true, if_false, i10, not_true_eq_false, not_false_eq_true, Bool.false_eq_true, and_self, and_true, true_and, eq_self, c0, c1, or_true, true_or, decide_true]
  by_cases d1 : nI t = 1
  · have z2 : ¬ (1 : Int32) = 2 := by decide
    have z6 : ¬ (1 : Int32) = 6 := by decide
    have z0 : ¬ (1 : Int32) = 0 := by decide
    rw [d1] at c1
    by_cases d2 : nI k = 5
    · simp only [r_MRm_isUnder_0, r_MRm_isUnder_1, r_MRm_isUnder_4, r_MRm_isUnder_5, r_MRm_isUnder_6, r_MRm_isUnder_9, r_MRm_isUnder_10, r_MRm_isUnder_11, r_MRm_isUnder_14, r_MRm_isUnder_15, r_MRm_isUnder_16, r_MRm_isUnder_19, r_MRm_isUnder_20, r_MRm_isUnder_21, r_MRm_isUnder_24, r_MRm_isUnder_25, r_MRm_isUnder_26, r_MRm_isUnder_29, r_MRm_isUnder_30, r_MRm_isUnder_31, r_MRm_isUnder_34, r_MRm_isUnder_35, r_MRm_isUnder_37, r_MRm_isUnder_40, r_MRm_isUnder_41, r_MRm_isUnder_43, r_MRm_isUnder_46, r_MRm_isUnder_47, r_MRm_isUnder_50, r_MRm_isUnder_51, sL_0, sL_1, sL_2, mk_i, mk_r, mk_f, mk_n, mk_u, mk_l, List.set_cons_succ, List.set_cons_zero, Nat.reduceAdd, ckS_0, ckS_1, ckS_2, ckS_3, ckS_4, Option.bind_some, Option.isSome_some, psh, if_true, if_false, i10, not_true_eq_false, not_false_eq_true, Bool.false_eq_true, and_self, and_true, true_and, eq_self, c1, d1, d2, z0, or_true, true_or, decide_true]
      simp
    · simp only [r_MRm_isUnder_0, r_MRm_isUnder_1, r_MRm_isUnder_4, r_MRm_isUnder_5, r_MRm_isUnder_6, r_MRm_isUnder_9, r_MRm_isUnder_10, r_MRm_isUnder_11, r_MRm_isUnder_14, r_MRm_isUnder_15, r_MRm_isUnder_16, r_MRm_isUnder_19, r_MRm_isUnder_20, r_MRm_isUnder_21, r_MRm_isUnder_24, r_MRm_isUnder_25, r_MRm_isUnder_26, r_MRm_isUnder_29, r_MRm_isUnder_30, r_MRm_isUnder_31, r_MRm_isUnder_34, r_MRm_isUnder_35, r_MRm_isUnder_37, r_MRm_isUnder_40, r_MRm_isUnder_41, r_MRm_isUnder_43, r_MRm_isUnder_46, r_MRm_isUnder_47, r_MRm_isUnder_50, r_MRm_isUnder_51, sL_0, sL_1, sL_2, mk_i, mk_r, mk_f, mk_n, mk_u, mk_l, List.set_cons_succ, List.set_cons_zero, Nat.reduceAdd, ckS_0, ckS_1, ckS_2, ckS_3, ckS_4, Option.bind_some, Option.isSome_some, psh, if_true, if_false, i10, not_true_eq_false, not_false_eq_true, Bool.false_eq_true, and_self, and_true, true_and, eq_self, c1, d1, d2, z0, z2, z6, or_self, false_and, and_false, decide_false, true_or]
  by_cases d3 : nI t = 2
  · have z1 : ¬ (2 : Int32) = 1 := by decide
    have z6 : ¬ (2 : Int32) = 6 := by decide
    have z0 : ¬ (2 : Int32) = 0 := by decide
    rw [d3] at c1
    by_cases d4 : nI k = 3
    · simp only [r_MRm_isUnder_0, r_MRm_isUnder_1, r_MRm_isUnder_4, r_MRm_isUnder_5, r_MRm_isUnder_6, r_MRm_isUnder_9, r_MRm_isUnder_10, r_MRm_isUnder_11, r_MRm_isUnder_14, r_MRm_isUnder_15, r_MRm_isUnder_16, r_MRm_isUnder_19, r_MRm_isUnder_20, r_MRm_isUnder_21, r_MRm_isUnder_24, r_MRm_isUnder_25, r_MRm_isUnder_26, r_MRm_isUnder_29, r_MRm_isUnder_30, r_MRm_isUnder_31, r_MRm_isUnder_34, r_MRm_isUnder_35, r_MRm_isUnder_37, r_MRm_isUnder_40, r_MRm_isUnder_41, r_MRm_isUnder_43, r_MRm_isUnder_46, r_MRm_isUnder_47, r_MRm_isUnder_50, r_MRm_isUnder_51, sL_0, sL_1, sL_2, mk_i, mk_r, mk_f, mk_n, mk_u, mk_l, List.set_cons_succ, List.set_cons_zero, Nat.reduceAdd, ckS_0, ckS_1, ckS_2, ckS_3, ckS_4, Option.bind_some, Option.isSome_some, psh, if_true, if_false, i10, not_true_eq_false, not_false_eq_true, Bool.false_eq_true, and_self, and_true, true_and, eq_self, c1, d3, d4, z0, z1, or_true, true_or, decide_true]
      simp
    · by_cases d5 : nI k = 4
      · simp only [r_MRm_isUnder_0, r_MRm_isUnder_1, r_MRm_isUnder_4, r_MRm_isUnder_5, r_MRm_isUnder_6, r_MRm_isUnder_9, r_MRm_isUnder_10, r_MRm_isUnder_11, r_MRm_isUnder_14, r_MRm_isUnder_15, r_MRm_isUnder_16, r_MRm_isUnder_19, r_MRm_isUnder_20, r_MRm_isUnder_21, r_MRm_isUnder_24, r_MRm_isUnder_25, r_MRm_isUnder_26, r_MRm_isUnder_29, r_MRm_isUnder_30, r_MRm_isUnder_31, r_MRm_isUnder_34, r_MRm_isUnder_35, r_MRm_isUnder_37, r_MRm_isUnder_40, r_MRm_isUnder_41, r_MRm_isUnder_43, r_MRm_isUnder_46, r_MRm_isUnder_47, r_MRm_isUnder_50, r_MRm_isUnder_51, sL_0, sL_1, sL_2, mk_i, mk_r, mk_f, mk_n, mk_u, mk_l, List.set_cons_succ, List.set_cons_zero, Nat.reduceAdd, ckS_0, ckS_1, ckS_2, ckS_3, ckS_4, Option.bind_some, Option.isSome_some, psh, if_true, if_false, i10, not_true_eq_false, not_false_eq_true, Bool.false_eq_true, and_self, and_true, true_and, eq_self, c1, d3, d4, d5, z0, z1, or_true, true_or, decide_true]
        simp
      · simp only [r_MRm_isUnder_0, r_MRm_isUnder_1, r_MRm_isUnder_4, r_MRm_isUnder_5, r_MRm_isUnder_6, r_MRm_isUnder_9, r_MRm_isUnder_10, r_MRm_isUnder_11, r_MRm_isUnder_14, r_MRm_isUnder_15, r_MRm_isUnder_16, r_MRm_isUnder_19, r_MRm_isUnder_20, r_MRm_isUnder_21, r_MRm_isUnder_24, r_MRm_isUnder_25, r_MRm_isUnder_26, r_MRm_isUnder_29, r_MRm_isUnder_30, r_MRm_isUnder_31, r_MRm_isUnder_34, r_MRm_isUnder_35, r_MRm_isUnder_37, r_MRm_isUnder_40, r_MRm_isUnder_41, r_MRm_isUnder_43, r_MRm_isUnder_46, r_MRm_isUnder_47, r_MRm_isUnder_50, r_MRm_isUnder_51, sL_0, sL_1, sL_2, mk_i, mk_r, mk_f, mk_n, mk_u, mk_l, List.set_cons_succ, List.set_cons_zero, Nat.reduceAdd, ckS_0, ckS_1, ckS_2, ckS_3, ckS_4, Option.bind_some, Option.isSome_some, psh, if_true, if_false, i10, not_true_eq_false, not_false_eq_true, Bool.false_eq_true, and_self, and_true, true_and, eq_self, c1, d3, d4, d5, z0, z1, z6, or_self, false_and, and_false, decide_false, true_or]
  by_cases d6 : nI t = 6
  · by_cases d7 : nI k = 7
    · simp only [r_MRm_isUnder_0, r_MRm_isUnder_1, r_MRm_isUnder_4, r_MRm_isUnder_5, r_MRm_isUnder_6, r_MRm_isUnder_9, r_MRm_isUnder_10, r_MRm_isUnder_11, r_MRm_isUnder_14, r_MRm_isUnder_15, r_MRm_isUnder_16, r_MRm_isUnder_19, r_MRm_isUnder_20, r_MRm_isUnder_21, r_MRm_isUnder_24, r_MRm_isUnder_25, r_MRm_isUnder_26, r_MRm_isUnder_29, r_MRm_isUnder_30, r_MRm_isUnder_31, r_MRm_isUnder_34, r_MRm_isUnder_35, r_MRm_isUnder_37, r_MRm_isUnder_40, r_MRm_isUnder_41, r_MRm_isUnder_43, r_MRm_isUnder_46, r_MRm_isUnder_47, r_MRm_isUnder_50, r_MRm_isUnder_51, sL_0, sL_1, sL_2, mk_i, mk_r, mk_f, mk_n, mk_u, mk_l, List.set_cons_succ, List.set_cons_zero, Nat.reduceAdd, ckS_0, ckS_1, ckS_2, ckS_3, ckS_4, Option.bind_some, Option.isSome_some, psh, if_true, if_false, i10, not_true_eq_false, not_false_eq_true, Bool.false_eq_true, and_self, and_true, true_and, eq_self, c0, c1, d1, d3, d6, d7, or_true, true_or, decide_true]
      simp
    · have c1b : ¬ nI k = 6 := by rw [← d6]; exact c1
      simp only [r_MRm_isUnder_0, r_MRm_isUnder_1, r_MRm_isUnder_4, r_MRm_isUnder_5, r_MRm_isUnder_6, r_MRm_isUnder_9, r_MRm_isUnder_10, r_MRm_isUnder_11, r_MRm_isUnder_14, r_MRm_isUnder_15, r_MRm_isUnder_16, r_MRm_isUnder_19, r_MRm_isUnder_20, r_MRm_isUnder_21, r_MRm_isUnder_24, r_MRm_isUnder_25, r_MRm_isUnder_26, r_MRm_isUnder_29, r_MRm_isUnder_30, r_MRm_isUnder_31, r_MRm_isUnder_34, r_MRm_isUnder_35, r_MRm_isUnder_37, r_MRm_isUnder_40, r_MRm_isUnder_41, r_MRm_isUnder_43, r_MRm_isUnder_46, r_MRm_isUnder_47, r_MRm_isUnder_50, r_MRm_isUnder_51, sL_0, sL_1, sL_2, mk_i, mk_r, mk_f, mk_n, mk_u, mk_l, List.set_cons_succ, List.set_cons_zero, Nat.reduceAdd, ckS_0, ckS_1, ckS_2, ckS_3, ckS_4, Option.bind_some, Option.isSome_some, psh, if_true, if_false, i10, not_true_eq_false, not_false_eq_true, Bool.false_eq_true, and_self, and_true, true_and, eq_self, c0, c1, c1b, d1, d3, d6, d7, or_self, false_and, and_false, decide_false, true_or]
      all_goals simp
  · simp only [r_MRm_isUnder_0, r_MRm_isUnder_1, r_MRm_isUnder_4, r_MRm_isUnder_5, r_MRm_isUnder_6, r_MRm_isUnder_9, r_MRm_isUnder_10, r_MRm_isUnder_11, r_MRm_isUnder_14, r_MRm_isUnder_15, r_MRm_isUnder_16, r_MRm_isUnder_19, r_MRm_isUnder_20, r_MRm_isUnder_21, r_MRm_isUnder_24, r_MRm_isUnder_25, r_MRm_isUnder_26, r_MRm_isUnder_29, r_MRm_isUnder_30, r_MRm_isUnder_31, r_MRm_isUnder_34, r_MRm_isUnder_35, r_MRm_isUnder_37, r_MRm_isUnder_40, r_MRm_isUnder_41, r_MRm_isUnder_43, r_MRm_isUnder_46, r_MRm_isUnder_47, r_MRm_isUnder_50, r_MRm_isUnder_51, sL_0, sL_1, sL_2, mk_i, mk_r, mk_f, mk_n, mk_u, mk_l, List.set_cons_succ, List.set_cons_zero, Nat.reduceAdd, ckS_0, ckS_1, ckS_2, ckS_3, ckS_4, Option.bind_some, Option.isSome_some, psh, if_true, if_false, i10, not_true_eq_false, not_false_eq_true, Bool.false_eq_true, and_self, and_true, true_and, eq_self, c0, c1, d1, d3, d6, or_self, false_and, and_false, decide_false, true_or]
theorem e_kindOf {n B : Nat} (hn : n ≤ 50) (h : mu 16 2 = nI n) (hB : B < n) : Rr X d MBo_kindOf 0 [.ref 16, .int (nI B)] [] (Wd mu la ro et) = some (some (.int (mu 17 B)), Wd mu la ro et) := by
  have h1 : ¬ nI B < 0 := nI_pos (by omega)
  have h2 : ¬ nI n ≤ nI B := nI_ge hB (by omega)
  have h3 : ¬ (50 : Int32) ≤ nI B := nI_ge (a := B) (b := 50) (by omega) (by omega)
  have c0 : (nI B).toNatClampNeg = B := nI_clamp (by omega)
  have i1 : ¬ 50 ≤ B := by omega
  simp only [r_MBo_kindOf_0, r_MBo_kindOf_1, r_MBo_kindOf_4, r_MBo_kindOf_5, r_MBo_kindOf_6, r_MBo_kindOf_9, r_MBo_kindOf_12, r_MBo_kindOf_13, r_MBo_kindOf_15, r_MBo_kindOf_18, r_MBo_kindOf_19, r_MBo_kindOf_22, r_MBo_kindOf_23, r_MBo_kindOf_23a, r_MBo_kindOf_23o, r_MBo_kindOf_24, r_MBo_kindOf_27, r_MBo_kindOf_28, sL_0, sL_1, sL_2, mk_i, mk_r, mk_f, mk_n, mk_u, mk_l, List.set_cons_succ, List.set_cons_zero, Nat.reduceAdd, ckS_0, ckS_1, ckS_2, ckS_3, ckS_4, Option.bind_some, Option.isSome_some, psh, if_true, if_false, i10, not_true_eq_false, not_false_eq_true, Bool.false_eq_true, and_self, and_true, true_and, eq_self, qI_16_2, qI_16_3, qI_16_4, qI_16_5, qR_16_0, qRd_16_0, qR_16_1, qRd_16_1, qA_17, qAd_17, qO_16, qL_17, qLd_17, h, h1, h2, h3, c0, i1, or_self]
theorem e_kindNo : Rr X d MBo_kindOf 0 [.ref 16, .int (-1)] [] (Wd mu la ro et) = some (some (.int (-1)), Wd mu la ro et) := by
  have h1 : (-1 : Int32) < 0 := by decide
  simp only [r_MBo_kindOf_0, r_MBo_kindOf_1, r_MBo_kindOf_4, r_MBo_kindOf_5, r_MBo_kindOf_6, r_MBo_kindOf_9, r_MBo_kindOf_12, r_MBo_kindOf_13, r_MBo_kindOf_15, r_MBo_kindOf_18, r_MBo_kindOf_19, r_MBo_kindOf_22, r_MBo_kindOf_23, r_MBo_kindOf_23a, r_MBo_kindOf_23o, r_MBo_kindOf_24, r_MBo_kindOf_27, r_MBo_kindOf_28, sL_0, sL_1, sL_2, mk_i, mk_r, mk_f, mk_n, mk_u, mk_l, List.set_cons_succ, List.set_cons_zero, Nat.reduceAdd, ckS_0, ckS_1, ckS_2, ckS_3, ckS_4, Option.bind_some, Option.isSome_some, psh, if_true, if_false, i10, not_true_eq_false, not_false_eq_true, Bool.false_eq_true, and_self, and_true, true_and, eq_self, qI_16_2, qI_16_3, qI_16_4, qI_16_5, qR_16_0, qRd_16_0, qR_16_1, qRd_16_1, qA_17, qAd_17, qO_16, qL_17, qLd_17, h1]
noncomputable def tkR (mu : Mu) (s k : Int32) : Int32 := if (0 ≤ s ∧ s ≤ 5) ∧ (0 ≤ k ∧ k ≤ 7) then (if mu 107 s.toNatClampNeg = -1 then -11 else if 0 ≤ mu 107 s.toNatClampNeg ∧ unM (mu 105 (mu 107 s.toNatClampNeg).toNatClampNeg) k = true then mu 105 (mu 107 s.toNatClampNeg).toNatClampNeg else -12) else -1
theorem kd_of {B : Nat} (hg : gOk ivG mu) : ∃ K, K < 8 ∧ mu 105 B = nI K := by
  have g := (hg 105 B).1
  have g1 : 0 ≤ (mu 105 B).toInt ∧ (mu 105 B).toInt ≤ 7 := g
  exact ⟨(mu 105 B).toInt.toNat, by omega, Int32.toInt_inj.mp (by rw [nI_toInt (by omega)]; omega)⟩
theorem i_08 {k : Int32} (h : 0 ≤ k ∧ k ≤ 7) : ∃ K : Nat, K < 8 ∧ k = nI K := by
  obtain ⟨K, h1, h2⟩ := nI_of2 (M := 7) (n := 7) rfl (by rw [Int32.not_lt]; exact h.1) h.2
  exact ⟨K, by omega, h2⟩
theorem x_takC {s k : Int32} (hE : tEx X) (hg : gOk ivG mu) (hr : rOk ro) (q : RShf mu la ro) : Rr X (d + 2) MTo_taken 0 [.ref 0, .int s, .int k, mkU, mkU] [] (Wd mu la ro et) = some (some (.int (tkR mu s k)), Wd mu la ro et) := by
  obtain ⟨n, hn, ⟨b1, b2, b3⟩, hs⟩ := q
  unfold tkR
  by_cases c1 : 0 ≤ s ∧ s ≤ 5
  · obtain ⟨S, hS, rfl⟩ := i_06 c1
    have qS := shA_of hS
    have cS : (nI S).toNatClampNeg = S := nI_clamp (by omega)
    have eS := e_shelfAt (X := X) (d := d) (mu := mu) (la := la) (et := et) hr hS
    by_cases c2 : 0 ≤ k ∧ k ≤ 7
    · obtain ⟨T, hT, rfl⟩ := i_08 c2
      rw [if_pos ⟨c1, c2⟩, cS]
      have eE := emp_iff hn (hs S hS)
      have c2' : 0 ≤ nI T ∧ nI T ≤ 7 := c2
      by_cases c3 : mu 107 S = -1
      · have c4 := eE.mpr c3
        rw [if_pos c3]
        simp only [r_MTo_taken_0, r_MTo_taken_1, r_MTo_taken_2, r_MTo_taken_5, r_MTo_taken_5n, r_MTo_taken_6, r_MTo_taken_6n, r_MTo_taken_7, r_MTo_taken_7n, r_MTo_taken_10, r_MTo_taken_11, r_MTo_taken_12, r_MTo_taken_14, r_MTo_taken_17, r_MTo_taken_20, r_MTo_taken_21, r_MTo_taken_22, r_MTo_taken_22n, r_MTo_taken_23, r_MTo_taken_26, r_MTo_taken_29, r_MTo_taken_31, r_MTo_taken_32, r_MTo_taken_33, r_MTo_taken_36, r_MTo_taken_36n, r_MTo_taken_37, r_MTo_taken_40, r_MTo_taken_43, r_MTo_taken_45, r_MTo_taken_47, r_MTo_taken_48, r_MTo_taken_51, r_MTo_taken_54, r_MTo_taken_56, r_MTo_taken_59, r_MTo_taken_61, sL_0, sL_1, sL_2, mk_i, mk_r, mk_f, mk_n, mk_u, mk_l, List.set_cons_succ, List.set_cons_zero, Nat.reduceAdd, ckS_0, ckS_1, ckS_2, ckS_3, ckS_4, Option.bind_some, Option.isSome_some, psh, if_true, if_false, i10, not_true_eq_false, not_false_eq_true, Bool.false_eq_true, and_self, and_true, true_and, eq_self, qI_0_9, qI_0_10, qI_16_2, qI_16_3, qI_16_4, qI_16_5, qR_0_0, qRd_0_0, qR_0_1, qRd_0_1, qR_0_2, qRd_0_2, qR_0_3, qRd_0_3, qR_0_4, qRd_0_4, qR_0_5, qRd_0_5, qR_0_6, qRd_0_6, qR_0_7, qRd_0_7, qR_0_8, qRd_0_8, qR_16_0, qRd_16_0, qR_16_1, qRd_16_1, qO_0, qO_16, eS, e_isWithin, c2', qS.1.1, e_isEmpty qS, c4]
      · have c4 : ¬ empC mu (69 + 2 * S) = true := fun z => c3 (eE.mp z)
        rw [if_neg c3]
        rcases hs S hS with ⟨p1, p2, p3⟩ | ⟨B, hB, p1, p2, p3⟩ | ⟨T', N, hT', hN, p1, p2, p3, p4, p5⟩
        · exact absurd p1 c3
        · obtain ⟨K, hK, eK⟩ := kd_of (B := B) hg
          have c5 : 0 ≤ mu 107 S := by rw [p1]; exact nI_pos' (by omega)
          have e5 : mu 17 B = nI K := (b3 B hB).trans eK
          have cB : (mu 107 S).toNatClampNeg = B := by rw [p1]; exact nI_clamp (by omega)
          rw [cB, eK]
          have eU := un_eq K hK T hT
          by_cases c6 : unM (nI K) (nI T) = true
          · have c7 := eU.mpr c6
            rw [if_pos ⟨c5, c6⟩]
            simp only [r_MTo_taken_0, r_MTo_taken_1, r_MTo_taken_2, r_MTo_taken_5, r_MTo_taken_5n, r_MTo_taken_6, r_MTo_taken_6n, r_MTo_taken_7, r_MTo_taken_7n, r_MTo_taken_10, r_MTo_taken_11, r_MTo_taken_12, r_MTo_taken_14, r_MTo_taken_17, r_MTo_taken_20, r_MTo_taken_21, r_MTo_taken_22, r_MTo_taken_22n, r_MTo_taken_23, r_MTo_taken_26, r_MTo_taken_29, r_MTo_taken_31, r_MTo_taken_32, r_MTo_taken_33, r_MTo_taken_36, r_MTo_taken_36n, r_MTo_taken_37, r_MTo_taken_40, r_MTo_taken_43, r_MTo_taken_45, r_MTo_taken_47, r_MTo_taken_48, r_MTo_taken_51, r_MTo_taken_54, r_MTo_taken_56, r_MTo_taken_59, r_MTo_taken_61, sL_0, sL_1, sL_2, mk_i, mk_r, mk_f, mk_n, mk_u, mk_l, List.set_cons_succ, List.set_cons_zero, Nat.reduceAdd, ckS_0, ckS_1, ckS_2, ckS_3, ckS_4, Option.bind_some, Option.isSome_some, psh, if_true, if_false, i10, not_true_eq_false, not_false_eq_true, Bool.false_eq_true, and_self, and_true, true_and, eq_self, qI_0_9, qI_0_10, qI_16_2, qI_16_3, qI_16_4, qI_16_5, qR_0_0, qRd_0_0, qR_0_1, qRd_0_1, qR_0_2, qRd_0_2, qR_0_3, qRd_0_3, qR_0_4, qRd_0_4, qR_0_5, qRd_0_5, qR_0_6, qRd_0_6, qR_0_7, qRd_0_7, qR_0_8, qRd_0_8, qR_16_0, qRd_16_0, qR_16_1, qRd_16_1, qO_0, qO_16, eS, e_isWithin, c2', qS.1.1, qS.1.2.1, e_isEmpty qS, c4, p2, e_kindOf hn b1 hB, e5, e_isUnderC hE hK hT, c7]
          · have c7 : ¬ fnU T 8 (some K) = some T := fun z => c6 (eU.mp z)
            rw [if_neg (fun z => c6 z.2)]
            simp only [r_MTo_taken_0, r_MTo_taken_1, r_MTo_taken_2, r_MTo_taken_5, r_MTo_taken_5n, r_MTo_taken_6, r_MTo_taken_6n, r_MTo_taken_7, r_MTo_taken_7n, r_MTo_taken_10, r_MTo_taken_11, r_MTo_taken_12, r_MTo_taken_14, r_MTo_taken_17, r_MTo_taken_20, r_MTo_taken_21, r_MTo_taken_22, r_MTo_taken_22n, r_MTo_taken_23, r_MTo_taken_26, r_MTo_taken_29, r_MTo_taken_31, r_MTo_taken_32, r_MTo_taken_33, r_MTo_taken_36, r_MTo_taken_36n, r_MTo_taken_37, r_MTo_taken_40, r_MTo_taken_43, r_MTo_taken_45, r_MTo_taken_47, r_MTo_taken_48, r_MTo_taken_51, r_MTo_taken_54, r_MTo_taken_56, r_MTo_taken_59, r_MTo_taken_61, sL_0, sL_1, sL_2, mk_i, mk_r, mk_f, mk_n, mk_u, mk_l, List.set_cons_succ, List.set_cons_zero, Nat.reduceAdd, ckS_0, ckS_1, ckS_2, ckS_3, ckS_4, Option.bind_some, Option.isSome_some, psh, if_true, if_false, i10, not_true_eq_false, not_false_eq_true, Bool.false_eq_true, and_self, and_true, true_and, eq_self, qI_0_9, qI_0_10, qI_16_2, qI_16_3, qI_16_4, qI_16_5, qR_0_0, qRd_0_0, qR_0_1, qRd_0_1, qR_0_2, qRd_0_2, qR_0_3, qRd_0_3, qR_0_4, qRd_0_4, qR_0_5, qRd_0_5, qR_0_6, qRd_0_6, qR_0_7, qRd_0_7, qR_0_8, qRd_0_8, qR_16_0, qRd_16_0, qR_16_1, qRd_16_1, qO_0, qO_16, eS, e_isWithin, c2', qS.1.1, qS.1.2.1, e_isEmpty qS, c4, p2, e_kindOf hn b1 hB, e5, e_isUnderC hE hK hT, c7]
        · have c5 : ¬ 0 ≤ mu 107 S := by rw [p1]; exact m2_neg hT'
          rw [if_neg (fun z => c5 z.1)]
          simp only [r_MTo_taken_0, r_MTo_taken_1, r_MTo_taken_2, r_MTo_taken_5, r_MTo_taken_5n, r_MTo_taken_6, r_MTo_taken_6n, r_MTo_taken_7, r_MTo_taken_7n, r_MTo_taken_10, r_MTo_taken_11, r_MTo_taken_12, r_MTo_taken_14, r_MTo_taken_17, r_MTo_taken_20, r_MTo_taken_21, r_MTo_taken_22, r_MTo_taken_22n, r_MTo_taken_23, r_MTo_taken_26, r_MTo_taken_29, r_MTo_taken_31, r_MTo_taken_32, r_MTo_taken_33, r_MTo_taken_36, r_MTo_taken_36n, r_MTo_taken_37, r_MTo_taken_40, r_MTo_taken_43, r_MTo_taken_45, r_MTo_taken_47, r_MTo_taken_48, r_MTo_taken_51, r_MTo_taken_54, r_MTo_taken_56, r_MTo_taken_59, r_MTo_taken_61, sL_0, sL_1, sL_2, mk_i, mk_r, mk_f, mk_n, mk_u, mk_l, List.set_cons_succ, List.set_cons_zero, Nat.reduceAdd, ckS_0, ckS_1, ckS_2, ckS_3, ckS_4, Option.bind_some, Option.isSome_some, psh, if_true, if_false, i10, not_true_eq_false, not_false_eq_true, Bool.false_eq_true, and_self, and_true, true_and, eq_self, qI_0_9, qI_0_10, qI_16_2, qI_16_3, qI_16_4, qI_16_5, qR_0_0, qRd_0_0, qR_0_1, qRd_0_1, qR_0_2, qRd_0_2, qR_0_3, qRd_0_3, qR_0_4, qRd_0_4, qR_0_5, qRd_0_5, qR_0_6, qRd_0_6, qR_0_7, qRd_0_7, qR_0_8, qRd_0_8, qR_16_0, qRd_16_0, qR_16_1, qRd_16_1, qO_0, qO_16, eS, e_isWithin, c2', qS.1.1, qS.1.2.1, e_isEmpty qS, c4, p2, e_kindNo, e_isUnderN hE hT]
    · rw [if_neg (fun z => c2 z.2)]
      simp only [r_MTo_taken_0, r_MTo_taken_1, r_MTo_taken_2, r_MTo_taken_5, r_MTo_taken_5n, r_MTo_taken_6, r_MTo_taken_6n, r_MTo_taken_7, r_MTo_taken_7n, r_MTo_taken_10, r_MTo_taken_11, r_MTo_taken_12, r_MTo_taken_14, r_MTo_taken_17, r_MTo_taken_20, r_MTo_taken_21, r_MTo_taken_22, r_MTo_taken_22n, r_MTo_taken_23, r_MTo_taken_26, r_MTo_taken_29, r_MTo_taken_31, r_MTo_taken_32, r_MTo_taken_33, r_MTo_taken_36, r_MTo_taken_36n, r_MTo_taken_37, r_MTo_taken_40, r_MTo_taken_43, r_MTo_taken_45, r_MTo_taken_47, r_MTo_taken_48, r_MTo_taken_51, r_MTo_taken_54, r_MTo_taken_56, r_MTo_taken_59, r_MTo_taken_61, sL_0, sL_1, sL_2, mk_i, mk_r, mk_f, mk_n, mk_u, mk_l, List.set_cons_succ, List.set_cons_zero, Nat.reduceAdd, ckS_0, ckS_1, ckS_2, ckS_3, ckS_4, Option.bind_some, Option.isSome_some, psh, if_true, if_false, i10, not_true_eq_false, not_false_eq_true, Bool.false_eq_true, and_self, and_true, true_and, eq_self, qI_0_9, qI_0_10, qI_16_2, qI_16_3, qI_16_4, qI_16_5, qR_0_0, qRd_0_0, qR_0_1, qRd_0_1, qR_0_2, qRd_0_2, qR_0_3, qRd_0_3, qR_0_4, qRd_0_4, qR_0_5, qRd_0_5, qR_0_6, qRd_0_6, qR_0_7, qRd_0_7, qR_0_8, qRd_0_8, qR_16_0, qRd_16_0, qR_16_1, qRd_16_1, qO_0, qO_16, eS, e_isWithin, c2]
  · rw [if_neg (fun z => c1 z.1)]
    simp only [r_MTo_taken_0, r_MTo_taken_1, r_MTo_taken_2, r_MTo_taken_5, r_MTo_taken_5n, r_MTo_taken_6, r_MTo_taken_6n, r_MTo_taken_7, r_MTo_taken_7n, r_MTo_taken_10, r_MTo_taken_11, r_MTo_taken_12, r_MTo_taken_14, r_MTo_taken_17, r_MTo_taken_20, r_MTo_taken_21, r_MTo_taken_22, r_MTo_taken_22n, r_MTo_taken_23, r_MTo_taken_26, r_MTo_taken_29, r_MTo_taken_31, r_MTo_taken_32, r_MTo_taken_33, r_MTo_taken_36, r_MTo_taken_36n, r_MTo_taken_37, r_MTo_taken_40, r_MTo_taken_43, r_MTo_taken_45, r_MTo_taken_47, r_MTo_taken_48, r_MTo_taken_51, r_MTo_taken_54, r_MTo_taken_56, r_MTo_taken_59, r_MTo_taken_61, sL_0, sL_1, sL_2, mk_i, mk_r, mk_f, mk_n, mk_u, mk_l, List.set_cons_succ, List.set_cons_zero, Nat.reduceAdd, ckS_0, ckS_1, ckS_2, ckS_3, ckS_4, Option.bind_some, Option.isSome_some, psh, if_true, if_false, i10, not_true_eq_false, not_false_eq_true, Bool.false_eq_true, and_self, and_true, true_and, eq_self, qI_0_9, qI_0_10, qR_0_0, qRd_0_0, qR_0_1, qRd_0_1, qR_0_2, qRd_0_2, qR_0_3, qRd_0_3, qR_0_4, qRd_0_4, qR_0_5, qRd_0_5, qR_0_6, qRd_0_6, qR_0_7, qRd_0_7, qR_0_8, qRd_0_8, qO_0, e_shelfNo c1]
theorem x_takM {s k : Int32} (hg : gOk ivG mu) (q : RShf mu la ro) : Rr X (d + 2) MRm_taken 0 [.ref 81, .int s, .int k] [] (Wd mu la ro et) = some (some (.int (tkR mu s k)), Wd mu la ro et) := by
  obtain ⟨n, hn, ⟨b1, b2, b3⟩, hs⟩ := q
  unfold tkR
  by_cases c1 : 0 ≤ s ∧ s ≤ 5
  · obtain ⟨S, hS, rfl⟩ := i_06 c1
    have cS : (nI S).toNatClampNeg = S := nI_clamp (by omega)
    have iS := ix (j := S) (N := 6) hS (by decide)
    have c1' : 0 ≤ nI S ∧ nI S ≤ 5 := c1
    by_cases c2 : 0 ≤ k ∧ k ≤ 7
    · obtain ⟨T, hT, rfl⟩ := i_08 c2
      have c2' : 0 ≤ nI T ∧ nI T ≤ 7 := c2
      rw [if_pos ⟨c1, c2⟩, cS]
      by_cases c3 : mu 107 S = -1
      · rw [if_pos c3]
        simp only [r_MRm_taken_0, r_MRm_taken_1, r_MRm_taken_4, r_MRm_taken_7, r_MRm_taken_8, r_MRm_taken_9, r_MRm_taken_11, r_MRm_taken_14, r_MRm_taken_17, r_MRm_taken_18, r_MRm_taken_19, r_MRm_taken_20, r_MRm_taken_23, r_MRm_taken_24, r_MRm_taken_25, r_MRm_taken_26, r_MRm_taken_29, r_MRm_taken_31, r_MRm_taken_32, r_MRm_taken_33, r_MRm_taken_36, r_MRm_taken_37, r_MRm_taken_38, r_MRm_taken_41, r_MRm_taken_42, r_MRm_taken_45, r_MRm_taken_46, r_MRm_taken_49, r_MRm_taken_50, r_MRm_taken_51, r_MRm_taken_52, r_MRm_taken_53, r_MRm_taken_56, r_MRm_taken_59, r_MRm_taken_60, r_MRm_taken_63, r_MRm_taken_64, r_MRm_taken_67, r_MRm_taken_68, r_MRm_taken_69, r_MRm_taken_70, r_MRm_taken_73, r_MRm_taken_75, sL_0, sL_1, sL_2, mk_i, mk_r, mk_f, mk_n, mk_u, mk_l, List.set_cons_succ, List.set_cons_zero, Nat.reduceAdd, ckS_0, ckS_1, ckS_2, ckS_3, ckS_4, Option.bind_some, Option.isSome_some, psh, if_true, if_false, i10, not_true_eq_false, not_false_eq_true, Bool.false_eq_true, and_self, and_true, true_and, eq_self, qI_81_0, qI_81_2, qI_81_3, qI_81_9, qI_81_10, qI_81_11, qI_81_12, qI_81_13, qI_81_18, qI_81_19, qI_81_20, qI_81_21, qI_81_29, qI_81_30, qI_81_31, qI_81_32, qI_81_33, qI_81_34, qI_81_35, qI_81_39, qI_81_40, qI_81_41, qI_81_42, qI_81_43, qI_81_44, qI_81_45, qI_81_46, qI_81_47, qI_81_51, qI_81_53, qR_81_1, qRd_81_1, qR_81_4, qRd_81_4, qR_81_5, qRd_81_5, qR_81_6, qRd_81_6, qR_81_7, qRd_81_7, qR_81_8, qRd_81_8, qR_81_14, qRd_81_14, qR_81_15, qRd_81_15, qR_81_16, qRd_81_16, qR_81_17, qRd_81_17, qR_81_22, qRd_81_22, qR_81_23, qRd_81_23, qR_81_24, qRd_81_24, qR_81_25, qRd_81_25, qR_81_26, qRd_81_26, qR_81_27, qRd_81_27, qR_81_28, qRd_81_28, qR_81_36, qRd_81_36, qR_81_37, qRd_81_37, qR_81_38, qRd_81_38, qR_81_48, qRd_81_48, qR_81_49, qRd_81_49, qR_81_50, qRd_81_50, qR_81_52, qRd_81_52, qR_81_54, qRd_81_54, qR_81_55, qRd_81_55, qR_81_56, qRd_81_56, qR_81_57, qRd_81_57, qR_81_58, qRd_81_58, qA_107, qAd_107, qO_81, qL_107, qLd_107, e_isShelf, e_in, c1', c2', cS, iS, c3]
      · rw [if_neg c3]
        rcases hs S hS with ⟨p1, p2, p3⟩ | ⟨B, hB, p1, p2, p3⟩ | ⟨T', N, hT', hN, p1, p2, p3, p4, p5⟩
        · exact absurd p1 c3
        · obtain ⟨K, hK, eK⟩ := kd_of (B := B) hg
          have c5 : 0 ≤ mu 107 S := by rw [p1]; exact nI_pos' (by omega)
          have c5' : ¬ nI B < 0 := nI_pos (by omega)
          have cB : (nI B).toNatClampNeg = B := nI_clamp (by omega)
          have iB : ¬ 50 ≤ B := by omega
          have c3' : ¬ nI B = -1 := nI_nm (by omega)
          by_cases c6 : unM (nI K) (nI T) = true
          · rw [if_pos ⟨c5, by rw [p1, cB, eK]; exact c6⟩, p1, cB, eK]
            simp only [r_MRm_taken_0, r_MRm_taken_1, r_MRm_taken_4, r_MRm_taken_7, r_MRm_taken_8, r_MRm_taken_9, r_MRm_taken_11, r_MRm_taken_14, r_MRm_taken_17, r_MRm_taken_18, r_MRm_taken_19, r_MRm_taken_20, r_MRm_taken_23, r_MRm_taken_24, r_MRm_taken_25, r_MRm_taken_26, r_MRm_taken_29, r_MRm_taken_31, r_MRm_taken_32, r_MRm_taken_33, r_MRm_taken_36, r_MRm_taken_37, r_MRm_taken_38, r_MRm_taken_41, r_MRm_taken_42, r_MRm_taken_45, r_MRm_taken_46, r_MRm_taken_49, r_MRm_taken_50, r_MRm_taken_51, r_MRm_taken_52, r_MRm_taken_53, r_MRm_taken_56, r_MRm_taken_59, r_MRm_taken_60, r_MRm_taken_63, r_MRm_taken_64, r_MRm_taken_67, r_MRm_taken_68, r_MRm_taken_69, r_MRm_taken_70, r_MRm_taken_73, r_MRm_taken_75, sL_0, sL_1, sL_2, mk_i, mk_r, mk_f, mk_n, mk_u, mk_l, List.set_cons_succ, List.set_cons_zero, Nat.reduceAdd, ckS_0, ckS_1, ckS_2, ckS_3, ckS_4, Option.bind_some, Option.isSome_some, psh, if_true, if_false, i10, not_true_eq_false, not_false_eq_true, Bool.false_eq_true, and_self, and_true, true_and, eq_self, qI_81_0, qI_81_2, qI_81_3, qI_81_9, qI_81_10, qI_81_11, qI_81_12, qI_81_13, qI_81_18, qI_81_19, qI_81_20, qI_81_21, qI_81_29, qI_81_30, qI_81_31, qI_81_32, qI_81_33, qI_81_34, qI_81_35, qI_81_39, qI_81_40, qI_81_41, qI_81_42, qI_81_43, qI_81_44, qI_81_45, qI_81_46, qI_81_47, qI_81_51, qI_81_53, qR_81_1, qRd_81_1, qR_81_4, qRd_81_4, qR_81_5, qRd_81_5, qR_81_6, qRd_81_6, qR_81_7, qRd_81_7, qR_81_8, qRd_81_8, qR_81_14, qRd_81_14, qR_81_15, qRd_81_15, qR_81_16, qRd_81_16, qR_81_17, qRd_81_17, qR_81_22, qRd_81_22, qR_81_23, qRd_81_23, qR_81_24, qRd_81_24, qR_81_25, qRd_81_25, qR_81_26, qRd_81_26, qR_81_27, qRd_81_27, qR_81_28, qRd_81_28, qR_81_36, qRd_81_36, qR_81_37, qRd_81_37, qR_81_38, qRd_81_38, qR_81_48, qRd_81_48, qR_81_49, qRd_81_49, qR_81_50, qRd_81_50, qR_81_52, qRd_81_52, qR_81_54, qRd_81_54, qR_81_55, qRd_81_55, qR_81_56, qRd_81_56, qR_81_57, qRd_81_57, qR_81_58, qRd_81_58, qA_105, qAd_105, qA_107, qAd_107, qO_81, qL_105, qLd_105, qL_107, qLd_107, e_isShelf, e_in, c1', c2', cS, iS, p1, c3', c5', cB, iB, or_self, eK, e_isUnderM hK hT, c6]
          · rw [if_neg (fun z => c6 (by have := z.2; rw [p1, cB, eK] at this; exact this))]
            simp only [r_MRm_taken_0, r_MRm_taken_1, r_MRm_taken_4, r_MRm_taken_7, r_MRm_taken_8, r_MRm_taken_9, r_MRm_taken_11, r_MRm_taken_14, r_MRm_taken_17, r_MRm_taken_18, r_MRm_taken_19, r_MRm_taken_20, r_MRm_taken_23, r_MRm_taken_24, r_MRm_taken_25, r_MRm_taken_26, r_MRm_taken_29, r_MRm_taken_31, r_MRm_taken_32, r_MRm_taken_33, r_MRm_taken_36, r_MRm_taken_37, r_MRm_taken_38, r_MRm_taken_41, r_MRm_taken_42, r_MRm_taken_45, r_MRm_taken_46, r_MRm_taken_49, r_MRm_taken_50, r_MRm_taken_51, r_MRm_taken_52, r_MRm_taken_53, r_MRm_taken_56, r_MRm_taken_59, r_MRm_taken_60, r_MRm_taken_63, r_MRm_taken_64, r_MRm_taken_67, r_MRm_taken_68, r_MRm_taken_69, r_MRm_taken_70, r_MRm_taken_73, r_MRm_taken_75, sL_0, sL_1, sL_2, mk_i, mk_r, mk_f, mk_n, mk_u, mk_l, List.set_cons_succ, List.set_cons_zero, Nat.reduceAdd, ckS_0, ckS_1, ckS_2, ckS_3, ckS_4, Option.bind_some, Option.isSome_some, psh, if_true, if_false, i10, not_true_eq_false, not_false_eq_true, Bool.false_eq_true, and_self, and_true, true_and, eq_self, qI_81_0, qI_81_2, qI_81_3, qI_81_9, qI_81_10, qI_81_11, qI_81_12, qI_81_13, qI_81_18, qI_81_19, qI_81_20, qI_81_21, qI_81_29, qI_81_30, qI_81_31, qI_81_32, qI_81_33, qI_81_34, qI_81_35, qI_81_39, qI_81_40, qI_81_41, qI_81_42, qI_81_43, qI_81_44, qI_81_45, qI_81_46, qI_81_47, qI_81_51, qI_81_53, qR_81_1, qRd_81_1, qR_81_4, qRd_81_4, qR_81_5, qRd_81_5, qR_81_6, qRd_81_6, qR_81_7, qRd_81_7, qR_81_8, qRd_81_8, qR_81_14, qRd_81_14, qR_81_15, qRd_81_15, qR_81_16, qRd_81_16, qR_81_17, qRd_81_17, qR_81_22, qRd_81_22, qR_81_23, qRd_81_23, qR_81_24, qRd_81_24, qR_81_25, qRd_81_25, qR_81_26, qRd_81_26, qR_81_27, qRd_81_27, qR_81_28, qRd_81_28, qR_81_36, qRd_81_36, qR_81_37, qRd_81_37, qR_81_38, qRd_81_38, qR_81_48, qRd_81_48, qR_81_49, qRd_81_49, qR_81_50, qRd_81_50, qR_81_52, qRd_81_52, qR_81_54, qRd_81_54, qR_81_55, qRd_81_55, qR_81_56, qRd_81_56, qR_81_57, qRd_81_57, qR_81_58, qRd_81_58, qA_105, qAd_105, qA_107, qAd_107, qO_81, qL_105, qLd_105, qL_107, qLd_107, e_isShelf, e_in, c1', c2', cS, iS, p1, c3', c5', cB, iB, or_self, eK, e_isUnderM hK hT, c6]
        · have c5 : ¬ 0 ≤ mu 107 S := by rw [p1]; exact m2_neg hT'
          have c6 := Int32.not_le.mp c5
          rw [if_neg (fun z => c5 z.1)]
          simp only [r_MRm_taken_0, r_MRm_taken_1, r_MRm_taken_4, r_MRm_taken_7, r_MRm_taken_8, r_MRm_taken_9, r_MRm_taken_11, r_MRm_taken_14, r_MRm_taken_17, r_MRm_taken_18, r_MRm_taken_19, r_MRm_taken_20, r_MRm_taken_23, r_MRm_taken_24, r_MRm_taken_25, r_MRm_taken_26, r_MRm_taken_29, r_MRm_taken_31, r_MRm_taken_32, r_MRm_taken_33, r_MRm_taken_36, r_MRm_taken_37, r_MRm_taken_38, r_MRm_taken_41, r_MRm_taken_42, r_MRm_taken_45, r_MRm_taken_46, r_MRm_taken_49, r_MRm_taken_50, r_MRm_taken_51, r_MRm_taken_52, r_MRm_taken_53, r_MRm_taken_56, r_MRm_taken_59, r_MRm_taken_60, r_MRm_taken_63, r_MRm_taken_64, r_MRm_taken_67, r_MRm_taken_68, r_MRm_taken_69, r_MRm_taken_70, r_MRm_taken_73, r_MRm_taken_75, sL_0, sL_1, sL_2, mk_i, mk_r, mk_f, mk_n, mk_u, mk_l, List.set_cons_succ, List.set_cons_zero, Nat.reduceAdd, ckS_0, ckS_1, ckS_2, ckS_3, ckS_4, Option.bind_some, Option.isSome_some, psh, if_true, if_false, i10, not_true_eq_false, not_false_eq_true, Bool.false_eq_true, and_self, and_true, true_and, eq_self, qI_81_0, qI_81_2, qI_81_3, qI_81_9, qI_81_10, qI_81_11, qI_81_12, qI_81_13, qI_81_18, qI_81_19, qI_81_20, qI_81_21, qI_81_29, qI_81_30, qI_81_31, qI_81_32, qI_81_33, qI_81_34, qI_81_35, qI_81_39, qI_81_40, qI_81_41, qI_81_42, qI_81_43, qI_81_44, qI_81_45, qI_81_46, qI_81_47, qI_81_51, qI_81_53, qR_81_1, qRd_81_1, qR_81_4, qRd_81_4, qR_81_5, qRd_81_5, qR_81_6, qRd_81_6, qR_81_7, qRd_81_7, qR_81_8, qRd_81_8, qR_81_14, qRd_81_14, qR_81_15, qRd_81_15, qR_81_16, qRd_81_16, qR_81_17, qRd_81_17, qR_81_22, qRd_81_22, qR_81_23, qRd_81_23, qR_81_24, qRd_81_24, qR_81_25, qRd_81_25, qR_81_26, qRd_81_26, qR_81_27, qRd_81_27, qR_81_28, qRd_81_28, qR_81_36, qRd_81_36, qR_81_37, qRd_81_37, qR_81_38, qRd_81_38, qR_81_48, qRd_81_48, qR_81_49, qRd_81_49, qR_81_50, qRd_81_50, qR_81_52, qRd_81_52, qR_81_54, qRd_81_54, qR_81_55, qRd_81_55, qR_81_56, qRd_81_56, qR_81_57, qRd_81_57, qR_81_58, qRd_81_58, qA_107, qAd_107, qO_81, qL_107, qLd_107, e_isShelf, e_in, c1', c2', cS, iS, c3, c6]
    · rw [if_neg (fun z => c2 z.2)]
      simp only [r_MRm_taken_0, r_MRm_taken_1, r_MRm_taken_4, r_MRm_taken_7, r_MRm_taken_8, r_MRm_taken_9, r_MRm_taken_11, r_MRm_taken_14, r_MRm_taken_17, r_MRm_taken_18, r_MRm_taken_19, r_MRm_taken_20, r_MRm_taken_23, r_MRm_taken_24, r_MRm_taken_25, r_MRm_taken_26, r_MRm_taken_29, r_MRm_taken_31, r_MRm_taken_32, r_MRm_taken_33, r_MRm_taken_36, r_MRm_taken_37, r_MRm_taken_38, r_MRm_taken_41, r_MRm_taken_42, r_MRm_taken_45, r_MRm_taken_46, r_MRm_taken_49, r_MRm_taken_50, r_MRm_taken_51, r_MRm_taken_52, r_MRm_taken_53, r_MRm_taken_56, r_MRm_taken_59, r_MRm_taken_60, r_MRm_taken_63, r_MRm_taken_64, r_MRm_taken_67, r_MRm_taken_68, r_MRm_taken_69, r_MRm_taken_70, r_MRm_taken_73, r_MRm_taken_75, sL_0, sL_1, sL_2, mk_i, mk_r, mk_f, mk_n, mk_u, mk_l, List.set_cons_succ, List.set_cons_zero, Nat.reduceAdd, ckS_0, ckS_1, ckS_2, ckS_3, ckS_4, Option.bind_some, Option.isSome_some, psh, if_true, if_false, i10, not_true_eq_false, not_false_eq_true, Bool.false_eq_true, and_self, and_true, true_and, eq_self, qI_81_0, qI_81_2, qI_81_3, qI_81_9, qI_81_10, qI_81_11, qI_81_12, qI_81_13, qI_81_18, qI_81_19, qI_81_20, qI_81_21, qI_81_29, qI_81_30, qI_81_31, qI_81_32, qI_81_33, qI_81_34, qI_81_35, qI_81_39, qI_81_40, qI_81_41, qI_81_42, qI_81_43, qI_81_44, qI_81_45, qI_81_46, qI_81_47, qI_81_51, qI_81_53, qR_81_1, qRd_81_1, qR_81_4, qRd_81_4, qR_81_5, qRd_81_5, qR_81_6, qRd_81_6, qR_81_7, qRd_81_7, qR_81_8, qRd_81_8, qR_81_14, qRd_81_14, qR_81_15, qRd_81_15, qR_81_16, qRd_81_16, qR_81_17, qRd_81_17, qR_81_22, qRd_81_22, qR_81_23, qRd_81_23, qR_81_24, qRd_81_24, qR_81_25, qRd_81_25, qR_81_26, qRd_81_26, qR_81_27, qRd_81_27, qR_81_28, qRd_81_28, qR_81_36, qRd_81_36, qR_81_37, qRd_81_37, qR_81_38, qRd_81_38, qR_81_48, qRd_81_48, qR_81_49, qRd_81_49, qR_81_50, qRd_81_50, qR_81_52, qRd_81_52, qR_81_54, qRd_81_54, qR_81_55, qRd_81_55, qR_81_56, qRd_81_56, qR_81_57, qRd_81_57, qR_81_58, qRd_81_58, qO_81, e_isShelf, e_in, c1', c2]
  · rw [if_neg (fun z => c1 z.1)]
    simp only [r_MRm_taken_0, r_MRm_taken_1, r_MRm_taken_4, r_MRm_taken_7, r_MRm_taken_8, r_MRm_taken_9, r_MRm_taken_11, r_MRm_taken_14, r_MRm_taken_17, r_MRm_taken_18, r_MRm_taken_19, r_MRm_taken_20, r_MRm_taken_23, r_MRm_taken_24, r_MRm_taken_25, r_MRm_taken_26, r_MRm_taken_29, r_MRm_taken_31, r_MRm_taken_32, r_MRm_taken_33, r_MRm_taken_36, r_MRm_taken_37, r_MRm_taken_38, r_MRm_taken_41, r_MRm_taken_42, r_MRm_taken_45, r_MRm_taken_46, r_MRm_taken_49, r_MRm_taken_50, r_MRm_taken_51, r_MRm_taken_52, r_MRm_taken_53, r_MRm_taken_56, r_MRm_taken_59, r_MRm_taken_60, r_MRm_taken_63, r_MRm_taken_64, r_MRm_taken_67, r_MRm_taken_68, r_MRm_taken_69, r_MRm_taken_70, r_MRm_taken_73, r_MRm_taken_75, sL_0, sL_1, sL_2, mk_i, mk_r, mk_f, mk_n, mk_u, mk_l, List.set_cons_succ, List.set_cons_zero, Nat.reduceAdd, ckS_0, ckS_1, ckS_2, ckS_3, ckS_4, Option.bind_some, Option.isSome_some, psh, if_true, if_false, i10, not_true_eq_false, not_false_eq_true, Bool.false_eq_true, and_self, and_true, true_and, eq_self, qI_81_0, qI_81_2, qI_81_3, qI_81_9, qI_81_10, qI_81_11, qI_81_12, qI_81_13, qI_81_18, qI_81_19, qI_81_20, qI_81_21, qI_81_29, qI_81_30, qI_81_31, qI_81_32, qI_81_33, qI_81_34, qI_81_35, qI_81_39, qI_81_40, qI_81_41, qI_81_42, qI_81_43, qI_81_44, qI_81_45, qI_81_46, qI_81_47, qI_81_51, qI_81_53, qR_81_1, qRd_81_1, qR_81_4, qRd_81_4, qR_81_5, qRd_81_5, qR_81_6, qRd_81_6, qR_81_7, qRd_81_7, qR_81_8, qRd_81_8, qR_81_14, qRd_81_14, qR_81_15, qRd_81_15, qR_81_16, qRd_81_16, qR_81_17, qRd_81_17, qR_81_22, qRd_81_22, qR_81_23, qRd_81_23, qR_81_24, qRd_81_24, qR_81_25, qRd_81_25, qR_81_26, qRd_81_26, qR_81_27, qRd_81_27, qR_81_28, qRd_81_28, qR_81_36, qRd_81_36, qR_81_37, qRd_81_37, qR_81_38, qRd_81_38, qR_81_48, qRd_81_48, qR_81_49, qRd_81_49, qR_81_50, qRd_81_50, qR_81_52, qRd_81_52, qR_81_54, qRd_81_54, qR_81_55, qRd_81_55, qR_81_56, qRd_81_56, qR_81_57, qRd_81_57, qR_81_58, qRd_81_58, qO_81, e_isShelf, c1]
end
