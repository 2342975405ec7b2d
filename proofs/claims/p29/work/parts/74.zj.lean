-- ===== by hand: a floor's text
/-- further lines -/
noncomputable def rdL : Nat → Mu → Nat → PS → Mu × PS × Nat
  | 0, mu, n, s => (mu, s, n)
  | k + 1, mu, n, s => if (noF s && decide (bt mu s.1 = 59)) = true then rdL k (lnF mu n (hS s)).1 (n + 1) (lnF mu n (hS s)).2 else (mu, s, n)
noncomputable def m0 (mu : Mu) : Mu := up2 mu 94 4 0
noncomputable def rdF (mu : Mu) : Mu × PS × Nat := rdL 121 (lnF (m0 mu) 0 (0, none, 0, [])).1 1 (lnF (m0 mu) 0 (0, none, 0, [])).2
noncomputable def endS (mu : Mu) (s : PS) : PS := if (noF s && decide (s.1 < Tt mu)) = true then wrS s else s
noncomputable def cpA (m : Mu) (p k : Nat) : Mu := fun c j => if (c = 92 ∨ c = 93) ∧ 130 * p ≤ j ∧ j < 130 * p + k then m c (520 + (j - 130 * p)) else m c j
noncomputable def cpB (m : Mu) (p k : Nat) : Mu := fun c j => if (c = 95 ∨ c = 96) ∧ 61 * p ≤ j ∧ j < 61 * p + k then m c (244 + (j - 61 * p)) else m c j
abbrev LI (mu : Mu) (n : Nat) (s : PS) : Prop := tOK mu ∧ mu 94 4 = nI n ∧ (∀ j, s.2.1 = some j → j ≤ Tt mu) ∧ s.1 ≤ Tt mu ∧ n ≤ 61 ∧ (noF s = true → s.2.2.1 ≤ 6 ∧ s.2.2.2.length ≤ s.1 ∧ 2 * n ≤ s.1 + 1)
section
variable {mu : Mu} {n : Nat} {s : PS}
theorem lnF_81 (j : Nat) : (lnF mu n s).1 81 j = mu 81 j := by
  unfold lnF
  split <;> simp [up2_e]
theorem lnF_82 (j : Nat) : (lnF mu n s).1 82 j = mu 82 j := by
  unfold lnF
  split <;> simp [up2_e]
theorem lnF_94 : (lnF mu n s).1 94 4 = nI (n + 1) := by
  unfold lnF
  split <;> simp only [up2_s]
theorem lnF_bt : bt (lnF mu n s).1 = bt mu := by
  refine funext fun k => ?_
  unfold bt
  rw [lnF_81, lnF_82]
theorem lnF_Tt : Tt (lnF mu n s).1 = Tt mu := by
  unfold Tt
  rw [lnF_81]
theorem LI_ei (hT : tOK mu) (h0 : Pre mu 7 s) (hn : 2 * n ≤ s.1) : (∀ j, (eiS mu s).2.1 = some j → j ≤ Tt mu) ∧ (eiS mu s).1 ≤ Tt mu ∧ (noF (eiS mu s) = true → (eiS mu s).2.2.1 ≤ 6 ∧ (eiS mu s).2.2.2.length ≤ (eiS mu s).1 ∧ 2 * (n + 1) ≤ (eiS mu s).1 + 1) := by
  obtain ⟨⟨r1, r2⟩, ⟨r3, r4⟩, r5, code, r6, r7, r8⟩ := Gd_ei hT s h0
  refine ⟨r5, r2, fun h => ⟨r4, ?_, by have := (r8 h).2.1; omega⟩⟩
  rw [if_pos h] at r7
  have := h0.2.2.2.1
  rw [r6, List.length_append]
  omega
theorem LI_ln (hT : tOK mu) (h0 : Pre mu 7 s) (hn : 2 * n ≤ s.1) : LI (lnF mu n s).1 (n + 1) (lnF mu n s).2 := by
  have hT2 := Tt_le hT
  have h1 := h0.2.1
  refine ⟨by obtain ⟨T, a, b⟩ := hT; exact ⟨T, a, by rw [lnF_81]; exact b⟩, lnF_94, ?_⟩
  rw [lnF_Tt]
  have e := LI_ei hT h0 hn
  unfold lnF
  split
  · rename_i c
    rw [Bool.and_eq_true] at c
    have P2 := Pre_63 hT h0 c.1 (by rw [of_decide_eq_true c.2]; decide)
    have e2 := LI_ei (n := n) hT P2 (by have := (e.2.2 c.1).2.2; show 2 * n ≤ (eiS mu s).1 + 1; omega)
    exact ⟨e2.1, e2.2.1, by omega, e2.2.2⟩
  · exact ⟨e.1, e.2.1, by omega, e.2.2⟩
theorem LI_59 (h : LI mu n s) (h1 : noF s = true) (h2 : bt mu s.1 = 59) : Pre mu 7 (hS s) ∧ 2 * n ≤ (hS s).1 ∧ n < 61 := by
  obtain ⟨hT, a1, a2, a3, a4, a5⟩ := h
  have hT2 := Tt_le hT
  obtain ⟨b1, b2, b3⟩ := a5 h1
  have hlt := bt_lt (mu := mu) (k := s.1) (by rw [h2]; decide)
  exact ⟨⟨h1, by show s.1 + 1 ≤ _; omega, b1, by show s.2.2.2.length ≤ s.1 + 1; omega, by show 7 ≤ 7 + _; omega⟩, by show 2 * n ≤ s.1 + 1; omega, by omega⟩
theorem LI_rd : ∀ (k : Nat) (mu : Mu) (n : Nat) (s : PS), LI mu n s → LI (rdL k mu n s).1 (rdL k mu n s).2.2 (rdL k mu n s).2.1
  | 0, _, _, _, h => h
  | k + 1, mu, n, s, h => by
    rw [rdL]
    split
    · rename_i c
      rw [Bool.and_eq_true] at c
      obtain ⟨p1, p2, p3⟩ := LI_59 h c.1 (of_decide_eq_true c.2)
      exact LI_rd k _ _ _ (LI_ln h.1 p1 p2)
    · exact h
theorem Pre_0 (hT : tOK mu) : Pre (m0 mu) 7 (0, none, 0, []) := ⟨rfl, Nat.zero_le _, by decide, Nat.le_refl _, by decide⟩
theorem LI_0 (hT : tOK mu) : LI (rdF mu).1 (rdF mu).2.2 (rdF mu).2.1 := LI_rd 121 _ _ _ (LI_ln (tOK_up (by decide) hT) (Pre_0 hT) (Nat.le_refl _))
theorem pm_init : up2 (up2 (up2 (up2 (up2 mu 81 18 0) 81 19 (-1)) 81 20 0) 81 21 0) 94 4 0 = pm (m0 mu) (0, none, 0, []) := by
  refine funext fun c => funext fun j => ?_
  unfold m0 pm
  by_cases h : c = 81
  · subst h
    by_cases h1 : j = 18
    · subst h1; simp [up2_e]; rfl
    by_cases h2 : j = 19
    · subst h2; simp [up2_e]; rfl
    by_cases h3 : j = 20
    · subst h3; simp [up2_e]; rfl
    by_cases h4 : j = 21
    · subst h4; simp [up2_e]; rfl
    simp [up2_e, h1, h2, h3, h4]
  · by_cases h9 : c = 92
    · subst h9; simp [up2_e]
    · by_cases h8 : c = 93
      · subst h8; simp [up2_e]
      · simp [up2_e, h, h9, h8]
theorem cpA_0 {m : Mu} {p : Nat} : cpA m p 0 = m := funext fun c => funext fun j => if_neg (by omega)
theorem cpB_0 {m : Mu} {p : Nat} : cpB m p 0 = m := funext fun c => funext fun j => if_neg (by omega)
theorem cpA_o {m : Mu} {p k c j : Nat} (h1 : ¬ c = 92) (h2 : ¬ c = 93) : cpA m p k c j = m c j := if_neg (fun q => q.1.elim h1 h2)
theorem cpB_o {m : Mu} {p k c j : Nat} (h1 : ¬ c = 95) (h2 : ¬ c = 96) : cpB m p k c j = m c j := if_neg (fun q => q.1.elim h1 h2)
theorem cpA_s {m : Mu} {p k : Nat} : up2 (up2 (cpA m p k) 92 (130 * p + k) (m 92 (520 + k))) 93 (130 * p + k) (m 93 (520 + k)) = cpA m p (k + 1) := by
  refine funext fun c => funext fun j => ?_
  rw [up2_e, up2_e]
  unfold cpA
  by_cases h1 : c = 93
  · subst h1
    by_cases h2 : j = 130 * p + k
    · subst h2
      simp [Nat.add_sub_cancel_left]
    · by_cases h3 : 130 * p ≤ j ∧ j < 130 * p + k
      · have h4 : 130 * p ≤ j ∧ j < 130 * p + (k + 1) := by omega
        simp only [h2, h3, h4, and_self, and_false, or_true, if_true, if_false, true_and]
      · have h4 : ¬ (130 * p ≤ j ∧ j < 130 * p + (k + 1)) := by omega
        simp only [h2, h3, h4, and_false, if_false]
  · by_cases h0 : c = 92
    · subst h0
      by_cases h2 : j = 130 * p + k
      · subst h2
        simp [Nat.add_sub_cancel_left]
      · by_cases h3 : 130 * p ≤ j ∧ j < 130 * p + k
        · have h4 : 130 * p ≤ j ∧ j < 130 * p + (k + 1) := by omega
          simp only [h1, h2, h3, h4, and_self, and_false, true_or, if_true, if_false, false_and, true_and]
        · have h4 : ¬ (130 * p ≤ j ∧ j < 130 * p + (k + 1)) := by omega
          simp only [h1, h2, h3, h4, and_false, if_false, false_and]
    · simp only [h0, h1, or_self, false_and, if_false]
theorem cpB_s {m : Mu} {p k : Nat} : up2 (up2 (cpB m p k) 95 (61 * p + k) (m 95 (244 + k))) 96 (61 * p + k) (m 96 (244 + k)) = cpB m p (k + 1) := by
  refine funext fun c => funext fun j => ?_
  rw [up2_e, up2_e]
  unfold cpB
  by_cases h1 : c = 96
  · subst h1
    by_cases h2 : j = 61 * p + k
    · subst h2
      simp [Nat.add_sub_cancel_left]
    · by_cases h3 : 61 * p ≤ j ∧ j < 61 * p + k
      · have h4 : 61 * p ≤ j ∧ j < 61 * p + (k + 1) := by omega
        simp only [h2, h3, h4, and_self, and_false, or_true, if_true, if_false, true_and]
      · have h4 : ¬ (61 * p ≤ j ∧ j < 61 * p + (k + 1)) := by omega
        simp only [h2, h3, h4, and_false, if_false]
  · by_cases h0 : c = 95
    · subst h0
      by_cases h2 : j = 61 * p + k
      · subst h2
        simp [Nat.add_sub_cancel_left]
      · by_cases h3 : 61 * p ≤ j ∧ j < 61 * p + k
        · have h4 : 61 * p ≤ j ∧ j < 61 * p + (k + 1) := by omega
          simp only [h1, h2, h3, h4, and_self, and_false, true_or, if_true, if_false, false_and, true_and]
        · have h4 : ¬ (61 * p ≤ j ∧ j < 61 * p + (k + 1)) := by omega
          simp only [h1, h2, h3, h4, and_false, if_false, false_and]
    · simp only [h0, h1, or_self, false_and, if_false]
end
section
variable {X : Tok} {d : Nat} {mu : Mu} {la : La} {ro : Ro} {et : Nat → Option va_E} {s : PS} {n : Nat}
theorem rd_loop {u : Value} : ∀ (k : Nat) (mu : Mu) (n : Nat) (s : PS), LI mu n s → Tt mu - s.1 < k → Rr X (d + 53) MRm_readText 31 [.ref 81, u, mkU] [] (Wd (pm mu s) la ro et) = Rr X (d + 53) MRm_readText 64 [.ref 81, u, mkU] [] (Wd (pm (rdL k mu n s).1 (rdL k mu n s).2.1) la ro et)
  | 0, _, _, _, _, h => absurd h (by omega)
  | k + 1, mu, n, s, h, hk => by
    have hT := h.1
    have hT2 := Tt_le hT
    have hl : s.1 ≤ 120 := by have := h.2.2.2.1; omega
    rw [rdL]
    by_cases c1 : noF s = true
    · by_cases c2 : bt mu s.1 = 59
      · rw [if_pos (by rw [c1, decide_eq_true c2]; rfl)]
        obtain ⟨p1, p2, p3⟩ := LI_59 h c1 c2
        have el := e_line (X := X) (d := d) (la := la) (ro := ro) (et := et) hT p3 h.2.1 p1
        have L := LI_ln hT p1 p2
        have hr := Gd_ei hT _ p1
        have nx := rd_loop (u := u) k _ _ _ L (by
          rw [lnF_Tt]
          have h1 : (hS s).1 ≤ (lnF mu n (hS s)).2.1 := by
            unfold lnF
            split
            · rename_i c
              rw [Bool.and_eq_true] at c
              have P2 := Pre_63 hT p1 c.1 (by rw [of_decide_eq_true c.2]; decide)
              have := (Gd_ei hT _ P2).1.1
              have h3 : (eiS mu (hS s)).1 + 1 ≤ (eiS mu (hS (eiS mu (hS s)))).1 := this
              have := hr.1.1
              show (hS s).1 ≤ (eiS mu (hS (eiS mu (hS s)))).1
              omega
            · exact hr.1.1
          have h2 : (hS s).1 = s.1 + 1 := rfl
          have := p1.2.1
          omega)
        have t59 : (bt mu s.1 = 59) = True := eq_true c2
        rw [← nx, r_MRm_readText_31]
        simp only [r_MRm_readText_32, r_MRm_readText_35, r_MRm_readText_38, r_MRm_readText_39, r_MRm_readText_42, r_MRm_readText_44, r_MRm_readText_47, r_MRm_readText_48, r_MRm_readText_48i, r_MRm_readText_49, r_MRm_readText_52, r_MRm_readText_53, r_MRm_readText_54, r_MRm_readText_57, r_MRm_readText_58, r_MRm_readText_61, sL_0, sL_1, sL_2, mk_i, mk_r, mk_f, mk_n, mk_u, mk_l, List.set_cons_succ, List.set_cons_zero, Nat.reduceAdd, ckS_0, ckS_1, ckS_2, ckS_3, ckS_4, Option.bind_some, Option.isSome_some, psh, if_true, if_false, i10, not_true_eq_false, not_false_eq_true, Bool.false_eq_true, and_self, and_true, true_and, eq_self, qI_81_0, qI_81_2, qI_81_3, qI_81_9, qI_81_10, qI_81_11, qI_81_12, qI_81_13, qI_81_18, qI_81_19, qI_81_20, qI_81_21, qI_81_29, qI_81_30, qI_81_31, qI_81_32, qI_81_33, qI_81_34, qI_81_35, qI_81_39, qI_81_40, qI_81_41, qI_81_42, qI_81_43, qI_81_44, qI_81_45, qI_81_46, qI_81_47, qI_81_51, qI_81_53, qR_81_1, qRd_81_1, qR_81_4, qRd_81_4, qR_81_5, qRd_81_5, qR_81_6, qRd_81_6, qR_81_7, qRd_81_7, qR_81_8, qRd_81_8, qR_81_14, qRd_81_14, qR_81_15, qRd_81_15, qR_81_16, qRd_81_16, qR_81_17, qRd_81_17, qR_81_22, qRd_81_22, qR_81_23, qRd_81_23, qR_81_24, qRd_81_24, qR_81_25, qRd_81_25, qR_81_26, qRd_81_26, qR_81_27, qRd_81_27, qR_81_28, qRd_81_28, qR_81_36, qRd_81_36, qR_81_37, qRd_81_37, qR_81_38, qRd_81_38, qR_81_48, qRd_81_48, qR_81_49, qRd_81_49, qR_81_50, qRd_81_50, qR_81_52, qRd_81_52, qR_81_54, qRd_81_54, qR_81_55, qRd_81_55, qR_81_56, qRd_81_56, qR_81_57, qRd_81_57, qR_81_58, qRd_81_58, qO_81, pm_19, fge1 c1, e_look hl hT, t59, pm_18, nI_1, up_h, el]
      · rw [if_neg (by rw [c1, decide_eq_false c2]; decide)]
        have f59 : (bt mu s.1 = 59) = False := eq_false c2
        rw [r_MRm_readText_31]
        simp only [r_MRm_readText_32, r_MRm_readText_35, r_MRm_readText_38, r_MRm_readText_39, r_MRm_readText_42, r_MRm_readText_44, r_MRm_readText_47, r_MRm_readText_48, r_MRm_readText_48i, r_MRm_readText_49, r_MRm_readText_52, r_MRm_readText_53, r_MRm_readText_54, r_MRm_readText_57, r_MRm_readText_58, r_MRm_readText_61, sL_0, sL_1, sL_2, mk_i, mk_r, mk_f, mk_n, mk_u, mk_l, List.set_cons_succ, List.set_cons_zero, Nat.reduceAdd, ckS_0, ckS_1, ckS_2, ckS_3, ckS_4, Option.bind_some, Option.isSome_some, psh, if_true, if_false, i10, not_true_eq_false, not_false_eq_true, Bool.false_eq_true, and_self, and_true, true_and, eq_self, qI_81_0, qI_81_2, qI_81_3, qI_81_9, qI_81_10, qI_81_11, qI_81_12, qI_81_13, qI_81_18, qI_81_19, qI_81_20, qI_81_21, qI_81_29, qI_81_30, qI_81_31, qI_81_32, qI_81_33, qI_81_34, qI_81_35, qI_81_39, qI_81_40, qI_81_41, qI_81_42, qI_81_43, qI_81_44, qI_81_45, qI_81_46, qI_81_47, qI_81_51, qI_81_53, qR_81_1, qRd_81_1, qR_81_4, qRd_81_4, qR_81_5, qRd_81_5, qR_81_6, qRd_81_6, qR_81_7, qRd_81_7, qR_81_8, qRd_81_8, qR_81_14, qRd_81_14, qR_81_15, qRd_81_15, qR_81_16, qRd_81_16, qR_81_17, qRd_81_17, qR_81_22, qRd_81_22, qR_81_23, qRd_81_23, qR_81_24, qRd_81_24, qR_81_25, qRd_81_25, qR_81_26, qRd_81_26, qR_81_27, qRd_81_27, qR_81_28, qRd_81_28, qR_81_36, qRd_81_36, qR_81_37, qRd_81_37, qR_81_38, qRd_81_38, qR_81_48, qRd_81_48, qR_81_49, qRd_81_49, qR_81_50, qRd_81_50, qR_81_52, qRd_81_52, qR_81_54, qRd_81_54, qR_81_55, qRd_81_55, qR_81_56, qRd_81_56, qR_81_57, qRd_81_57, qR_81_58, qRd_81_58, qO_81, pm_19, fge1 c1, e_look hl hT, f59]
    · rw [if_neg (by rw [Bool.and_eq_true]; exact fun q => c1 q.1)]
      rw [r_MRm_readText_31]
      simp only [r_MRm_readText_32, r_MRm_readText_35, r_MRm_readText_38, r_MRm_readText_39, r_MRm_readText_42, r_MRm_readText_44, r_MRm_readText_47, r_MRm_readText_48, r_MRm_readText_48i, r_MRm_readText_49, r_MRm_readText_52, r_MRm_readText_53, r_MRm_readText_54, r_MRm_readText_57, r_MRm_readText_58, r_MRm_readText_61, sL_0, sL_1, sL_2, mk_i, mk_r, mk_f, mk_n, mk_u, mk_l, List.set_cons_succ, List.set_cons_zero, Nat.reduceAdd, ckS_0, ckS_1, ckS_2, ckS_3, ckS_4, Option.bind_some, Option.isSome_some, psh, if_true, if_false, i10, not_true_eq_false, not_false_eq_true, Bool.false_eq_true, and_self, and_true, true_and, eq_self, qI_81_0, qI_81_2, qI_81_3, qI_81_9, qI_81_10, qI_81_11, qI_81_12, qI_81_13, qI_81_18, qI_81_19, qI_81_20, qI_81_21, qI_81_29, qI_81_30, qI_81_31, qI_81_32, qI_81_33, qI_81_34, qI_81_35, qI_81_39, qI_81_40, qI_81_41, qI_81_42, qI_81_43, qI_81_44, qI_81_45, qI_81_46, qI_81_47, qI_81_51, qI_81_53, qR_81_1, qRd_81_1, qR_81_4, qRd_81_4, qR_81_5, qRd_81_5, qR_81_6, qRd_81_6, qR_81_7, qRd_81_7, qR_81_8, qRd_81_8, qR_81_14, qRd_81_14, qR_81_15, qRd_81_15, qR_81_16, qRd_81_16, qR_81_17, qRd_81_17, qR_81_22, qRd_81_22, qR_81_23, qRd_81_23, qR_81_24, qRd_81_24, qR_81_25, qRd_81_25, qR_81_26, qRd_81_26, qR_81_27, qRd_81_27, qR_81_28, qRd_81_28, qR_81_36, qRd_81_36, qR_81_37, qRd_81_37, qR_81_38, qRd_81_38, qR_81_48, qRd_81_48, qR_81_49, qRd_81_49, qR_81_50, qRd_81_50, qR_81_52, qRd_81_52, qR_81_54, qRd_81_54, qR_81_55, qRd_81_55, qR_81_56, qRd_81_56, qR_81_57, qRd_81_57, qR_81_58, qRd_81_58, qO_81, pm_19, fge0 c1 h.2.2.1 hT]
theorem cpA_loop {m : Mu} {P len : Nat} (hP : P < 4) (hlen : len ≤ 130) (h21 : m 81 21 = nI len) (hb : ∀ j, j < len → (m 92 (520 + j)).toInt8.toInt32 = m 92 (520 + j)) : ∀ (k j : Nat), j + k = len → Rr X d MRm_readText 105 [.ref 81, .int (nI P), .int (nI j)] [] (Wd (cpA m P j) la ro et) = Rr X d MRm_readText 163 [.ref 81, .int (nI P), .int (nI len)] [] (Wd (cpA m P len) la ro et) := by
  intro k
  induction k with
  | zero =>
    intro j hj
    have : j = len := by omega
    subst this
    have h1 : nI j ≤ nI j := nI_le (Nat.le_refl _) (by omega)
    rw [r_MRm_readText_105]
    simp only [r_MRm_readText_106, r_MRm_readText_107, r_MRm_readText_110, sL_0, sL_1, sL_2, mk_i, mk_r, mk_f, mk_n, mk_u, mk_l, List.set_cons_succ, List.set_cons_zero, Nat.reduceAdd, ckS_0, ckS_1, ckS_2, ckS_3, ckS_4, Option.bind_some, Option.isSome_some, psh, if_true, if_false, i10, not_true_eq_false, not_false_eq_true, Bool.false_eq_true, and_self, and_true, true_and, eq_self, qI_81_0, qI_81_2, qI_81_3, qI_81_9, qI_81_10, qI_81_11, qI_81_12, qI_81_13, qI_81_18, qI_81_19, qI_81_20, qI_81_21, qI_81_29, qI_81_30, qI_81_31, qI_81_32, qI_81_33, qI_81_34, qI_81_35, qI_81_39, qI_81_40, qI_81_41, qI_81_42, qI_81_43, qI_81_44, qI_81_45, qI_81_46, qI_81_47, qI_81_51, qI_81_53, qR_81_1, qRd_81_1, qR_81_4, qRd_81_4, qR_81_5, qRd_81_5, qR_81_6, qRd_81_6, qR_81_7, qRd_81_7, qR_81_8, qRd_81_8, qR_81_14, qRd_81_14, qR_81_15, qRd_81_15, qR_81_16, qRd_81_16, qR_81_17, qRd_81_17, qR_81_22, qRd_81_22, qR_81_23, qRd_81_23, qR_81_24, qRd_81_24, qR_81_25, qRd_81_25, qR_81_26, qRd_81_26, qR_81_27, qRd_81_27, qR_81_28, qRd_81_28, qR_81_36, qRd_81_36, qR_81_37, qRd_81_37, qR_81_38, qRd_81_38, qR_81_48, qRd_81_48, qR_81_49, qRd_81_49, qR_81_50, qRd_81_50, qR_81_52, qRd_81_52, qR_81_54, qRd_81_54, qR_81_55, qRd_81_55, qR_81_56, qRd_81_56, qR_81_57, qRd_81_57, qR_81_58, qRd_81_58, qO_81, cpA_o (show ¬ 81 = 92 by decide) (show ¬ 81 = 93 by decide), h21, h1]
  | succ k ih =>
    intro j hj
    have h1 : ¬ nI len ≤ nI j := nI_ge (by omega) (by omega)
    have e1 : (130 : Int32) * nI P + nI j = nI (130 * P + j) := e_130 P j
    have e2 : (520 : Int32) + nI j = nI (520 + j) := nI_add 520 j
    have c1 : (nI (130 * P + j)).toNatClampNeg = 130 * P + j := nI_clamp (by omega)
    have c2 : (nI (520 + j)).toNatClampNeg = 520 + j := nI_clamp (by omega)
    have i1 := ix (j := 130 * P + j) (N := 650) (by omega) (by omega)
    have i2 := ix (j := 520 + j) (N := 650) (by omega) (by omega)
    have g1 : cpA m P j 92 (520 + j) = m 92 (520 + j) := if_neg (by omega)
    have g2 : ∀ v, up2 (cpA m P j) 92 (130 * P + j) v 93 (520 + j) = m 93 (520 + j) := fun v => (up2_a (by decide)).trans (if_neg (by omega))
    have nx := ih (j + 1) (by omega)
    rw [← cpA_s] at nx
    rw [r_MRm_readText_105]
    simp only [r_MRm_readText_106, r_MRm_readText_107, r_MRm_readText_110, r_MRm_readText_113, r_MRm_readText_114, r_MRm_readText_117, r_MRm_readText_120, r_MRm_readText_121, r_MRm_readText_122, r_MRm_readText_123, r_MRm_readText_124, r_MRm_readText_125, r_MRm_readText_128, r_MRm_readText_131, r_MRm_readText_132, r_MRm_readText_133, r_MRm_readText_134, r_MRm_readText_135, r_MRm_readText_136, r_MRm_readText_139, r_MRm_readText_142, r_MRm_readText_143, r_MRm_readText_144, r_MRm_readText_145, r_MRm_readText_146, r_MRm_readText_147, r_MRm_readText_150, r_MRm_readText_153, r_MRm_readText_154, r_MRm_readText_155, r_MRm_readText_156, r_MRm_readText_157, r_MRm_readText_160, sL_0, sL_1, sL_2, mk_i, mk_r, mk_f, mk_n, mk_u, mk_l, List.set_cons_succ, List.set_cons_zero, Nat.reduceAdd, ckS_0, ckS_1, ckS_2, ckS_3, ckS_4, Option.bind_some, Option.isSome_some, psh, if_true, if_false, i10, not_true_eq_false, not_false_eq_true, Bool.false_eq_true, and_self, and_true, true_and, eq_self, qI_81_0, qI_81_2, qI_81_3, qI_81_9, qI_81_10, qI_81_11, qI_81_12, qI_81_13, qI_81_18, qI_81_19, qI_81_20, qI_81_21, qI_81_29, qI_81_30, qI_81_31, qI_81_32, qI_81_33, qI_81_34, qI_81_35, qI_81_39, qI_81_40, qI_81_41, qI_81_42, qI_81_43, qI_81_44, qI_81_45, qI_81_46, qI_81_47, qI_81_51, qI_81_53, qR_81_1, qRd_81_1, qR_81_4, qRd_81_4, qR_81_5, qRd_81_5, qR_81_6, qRd_81_6, qR_81_7, qRd_81_7, qR_81_8, qRd_81_8, qR_81_14, qRd_81_14, qR_81_15, qRd_81_15, qR_81_16, qRd_81_16, qR_81_17, qRd_81_17, qR_81_22, qRd_81_22, qR_81_23, qRd_81_23, qR_81_24, qRd_81_24, qR_81_25, qRd_81_25, qR_81_26, qRd_81_26, qR_81_27, qRd_81_27, qR_81_28, qRd_81_28, qR_81_36, qRd_81_36, qR_81_37, qRd_81_37, qR_81_38, qRd_81_38, qR_81_48, qRd_81_48, qR_81_49, qRd_81_49, qR_81_50, qRd_81_50, qR_81_52, qRd_81_52, qR_81_54, qRd_81_54, qR_81_55, qRd_81_55, qR_81_56, qRd_81_56, qR_81_57, qRd_81_57, qR_81_58, qRd_81_58, qA_92, qAd_92, qA_93, qAd_93, qO_81, qL_92, qLd_92, qL_93, qLd_93, cpA_o (show ¬ 81 = 92 by decide) (show ¬ 81 = 93 by decide), h21, h1, e1, e2, c1, c2, i1, i2, g1, g2, hb j (by omega), nI_1]
    exact nx
theorem cpB_loop {m : Mu} {P n : Nat} (hP : P < 4) (hn : n ≤ 61) (h94 : m 94 P = nI n) (hb : ∀ j, j < n → (m 95 (244 + j)).toInt16.toInt32 = m 95 (244 + j) ∧ (m 96 (244 + j)).toInt16.toInt32 = m 96 (244 + j)) : ∀ (k j : Nat), j + k = n → Rr X d MRm_readText 177 [.ref 81, .int (nI P), .int (nI j)] [] (Wd (cpB m P j) la ro et) = Rr X d MRm_readText 235 [.ref 81, .int (nI P), .int (nI n)] [] (Wd (cpB m P n) la ro et) := by
  have cP : (nI P).toNatClampNeg = P := nI_clamp (by omega)
  have iP := ix (j := P) (N := 5) (by omega) (by omega)
  intro k
  induction k with
  | zero =>
    intro j hj
    have : j = n := by omega
    subst this
    have h1 : nI j ≤ nI j := nI_le (Nat.le_refl _) (by omega)
    rw [r_MRm_readText_177]
    simp only [r_MRm_readText_178, r_MRm_readText_179, r_MRm_readText_182, r_MRm_readText_183, r_MRm_readText_184, sL_0, sL_1, sL_2, mk_i, mk_r, mk_f, mk_n, mk_u, mk_l, List.set_cons_succ, List.set_cons_zero, Nat.reduceAdd, ckS_0, ckS_1, ckS_2, ckS_3, ckS_4, Option.bind_some, Option.isSome_some, psh, if_true, if_false, i10, not_true_eq_false, not_false_eq_true, Bool.false_eq_true, and_self, and_true, true_and, eq_self, qI_81_0, qI_81_2, qI_81_3, qI_81_9, qI_81_10, qI_81_11, qI_81_12, qI_81_13, qI_81_18, qI_81_19, qI_81_20, qI_81_21, qI_81_29, qI_81_30, qI_81_31, qI_81_32, qI_81_33, qI_81_34, qI_81_35, qI_81_39, qI_81_40, qI_81_41, qI_81_42, qI_81_43, qI_81_44, qI_81_45, qI_81_46, qI_81_47, qI_81_51, qI_81_53, qR_81_1, qRd_81_1, qR_81_4, qRd_81_4, qR_81_5, qRd_81_5, qR_81_6, qRd_81_6, qR_81_7, qRd_81_7, qR_81_8, qRd_81_8, qR_81_14, qRd_81_14, qR_81_15, qRd_81_15, qR_81_16, qRd_81_16, qR_81_17, qRd_81_17, qR_81_22, qRd_81_22, qR_81_23, qRd_81_23, qR_81_24, qRd_81_24, qR_81_25, qRd_81_25, qR_81_26, qRd_81_26, qR_81_27, qRd_81_27, qR_81_28, qRd_81_28, qR_81_36, qRd_81_36, qR_81_37, qRd_81_37, qR_81_38, qRd_81_38, qR_81_48, qRd_81_48, qR_81_49, qRd_81_49, qR_81_50, qRd_81_50, qR_81_52, qRd_81_52, qR_81_54, qRd_81_54, qR_81_55, qRd_81_55, qR_81_56, qRd_81_56, qR_81_57, qRd_81_57, qR_81_58, qRd_81_58, qA_94, qAd_94, qO_81, qL_94, qLd_94, cpB_o (show ¬ 94 = 95 by decide) (show ¬ 94 = 96 by decide), cP, iP, h94, h1]
  | succ k ih =>
    intro j hj
    have h1 : ¬ nI n ≤ nI j := nI_ge (by omega) (by omega)
    have e1 : (61 : Int32) * nI P + nI j = nI (61 * P + j) := e_61 P j
    have e2 : (244 : Int32) + nI j = nI (244 + j) := nI_add 244 j
    have c1 : (nI (61 * P + j)).toNatClampNeg = 61 * P + j := nI_clamp (by omega)
    have c2 : (nI (244 + j)).toNatClampNeg = 244 + j := nI_clamp (by omega)
    have i1 := ix (j := 61 * P + j) (N := 305) (by omega) (by omega)
    have i2 := ix (j := 244 + j) (N := 305) (by omega) (by omega)
    have g1 : cpB m P j 95 (244 + j) = m 95 (244 + j) := if_neg (by omega)
    have g2 : ∀ v, up2 (cpB m P j) 95 (61 * P + j) v 96 (244 + j) = m 96 (244 + j) := fun v => (up2_a (by decide)).trans (if_neg (by omega))
    have nx := ih (j + 1) (by omega)
    rw [← cpB_s] at nx
    rw [r_MRm_readText_177]
    simp only [r_MRm_readText_178, r_MRm_readText_179, r_MRm_readText_182, r_MRm_readText_183, r_MRm_readText_184, r_MRm_readText_187, r_MRm_readText_188, r_MRm_readText_191, r_MRm_readText_193, r_MRm_readText_194, r_MRm_readText_195, r_MRm_readText_196, r_MRm_readText_197, r_MRm_readText_198, r_MRm_readText_201, r_MRm_readText_204, r_MRm_readText_205, r_MRm_readText_206, r_MRm_readText_207, r_MRm_readText_208, r_MRm_readText_209, r_MRm_readText_212, r_MRm_readText_214, r_MRm_readText_215, r_MRm_readText_216, r_MRm_readText_217, r_MRm_readText_218, r_MRm_readText_219, r_MRm_readText_222, r_MRm_readText_225, r_MRm_readText_226, r_MRm_readText_227, r_MRm_readText_228, r_MRm_readText_229, r_MRm_readText_232, sL_0, sL_1, sL_2, mk_i, mk_r, mk_f, mk_n, mk_u, mk_l, List.set_cons_succ, List.set_cons_zero, Nat.reduceAdd, ckS_0, ckS_1, ckS_2, ckS_3, ckS_4, Option.bind_some, Option.isSome_some, psh, if_true, if_false, i10, not_true_eq_false, not_false_eq_true, Bool.false_eq_true, and_self, and_true, true_and, eq_self, qI_81_0, qI_81_2, qI_81_3, qI_81_9, qI_81_10, qI_81_11, qI_81_12, qI_81_13, qI_81_18, qI_81_19, qI_81_20, qI_81_21, qI_81_29, qI_81_30, qI_81_31, qI_81_32, qI_81_33, qI_81_34, qI_81_35, qI_81_39, qI_81_40, qI_81_41, qI_81_42, qI_81_43, qI_81_44, qI_81_45, qI_81_46, qI_81_47, qI_81_51, qI_81_53, qR_81_1, qRd_81_1, qR_81_4, qRd_81_4, qR_81_5, qRd_81_5, qR_81_6, qRd_81_6, qR_81_7, qRd_81_7, qR_81_8, qRd_81_8, qR_81_14, qRd_81_14, qR_81_15, qRd_81_15, qR_81_16, qRd_81_16, qR_81_17, qRd_81_17, qR_81_22, qRd_81_22, qR_81_23, qRd_81_23, qR_81_24, qRd_81_24, qR_81_25, qRd_81_25, qR_81_26, qRd_81_26, qR_81_27, qRd_81_27, qR_81_28, qRd_81_28, qR_81_36, qRd_81_36, qR_81_37, qRd_81_37, qR_81_38, qRd_81_38, qR_81_48, qRd_81_48, qR_81_49, qRd_81_49, qR_81_50, qRd_81_50, qR_81_52, qRd_81_52, qR_81_54, qRd_81_54, qR_81_55, qRd_81_55, qR_81_56, qRd_81_56, qR_81_57, qRd_81_57, qR_81_58, qRd_81_58, qA_94, qAd_94, qA_95, qAd_95, qA_96, qAd_96, qO_81, qL_94, qLd_94, qL_95, qLd_95, qL_96, qLd_96, cpB_o (show ¬ 94 = 95 by decide) (show ¬ 94 = 96 by decide), cP, iP, h94, h1, e1, e2, c1, c2, i1, i2, g1, g2, (hb j (by omega)).1, (hb j (by omega)).2, nI_1]
    exact nx
end
