-- ===== by hand: floor's contract; the contracts by hand, all
section
variable {X : Tok} {d : Nat} {mu mu' : Mu} {la la' : La} {ro ro' : Ro} {et : Nat → Option va_E} {s : PS} {n : Nat}
abbrev wFl : WS := [(81, 19), (81, 20), (81, 21), (81, 22), (81, 3), (81, 30), (92, 0), (93, 0), (94, 0), (95, 0), (96, 0)]
theorem frm_pm : frm wFl mu la ro (pm mu s) la ro := by
  refine ⟨fun a k h1 h2 => ?_, fun _ _ => rfl, fun _ _ _ => rfl, fun _ => rfl⟩
  have n92 : ¬ a = 92 := fun q => by subst q; cases h1
  have n93 : ¬ a = 93 := fun q => by subst q; cases h1
  by_cases c : a = 81
  · subst c
    have k18 : ¬ k = 18 := fun q => by subst q; cases h2
    have k19 : ¬ k = 19 := fun q => by subst q; cases h2
    have k20 : ¬ k = 20 := fun q => by subst q; cases h2
    have k21 : ¬ k = 21 := fun q => by subst q; cases h2
    unfold pm
    simp [k18, k19, k20, k21]
  · exact pm_o c n92 n93
theorem gOk_pm (hg : gOk ivG mu) (hs : s.1 ≤ 120) : gOk ivG (pm mu s) := by
  intro a k
  by_cases c : a = 81
  · subst c
    refine ⟨by rw [ivF_ok (by decide)]; exact top_ok _, ?_⟩
    by_cases h1 : k = 18
    · subst h1
      show (0 : Int) ≤ (nI s.1).toInt ∧ (nI s.1).toInt ≤ 120
      rw [nI_toInt (by omega)]
      omega
    by_cases h2 : k = 19
    · subst h2; exact top_ok _
    by_cases h3 : k = 20
    · subst h3; exact top_ok _
    by_cases h4 : k = 21
    · subst h4; exact top_ok _
    have e : pm mu s 81 k = mu 81 k := by unfold pm; simp [h1, h2, h3, h4]
    rw [e]
    exact (hg 81 k).2
  · by_cases c2 : a = 92
    · subst c2; exact ⟨top_ok _, by rw [ivR_ok (by decide)]; exact top_ok _⟩
    · by_cases c3 : a = 93
      · subst c3; exact ⟨top_ok _, by rw [ivR_ok (by decide)]; exact top_ok _⟩
      · rw [pm_o c c2 c3]; exact hg a k
theorem frm_lnF : frm wFl mu la ro (lnF mu n s).1 la ro := by
  unfold lnF
  split
  · exact frm_t (frm_t (frm_t (frm_up (.inl (by decide))) (frm_up (.inl (by decide)))) (frm_up (.inl (by decide)))) (frm_up (.inl (by decide)))
  · exact frm_t (frm_t (frm_up (.inl (by decide))) (frm_up (.inl (by decide)))) (frm_up (.inl (by decide)))
theorem gOk_lnF (hg : gOk ivG mu) : gOk ivG (lnF mu n s).1 := by
  unfold lnF
  split
  · exact gOk_r (gOk_r (gOk_r (gOk_r hg (by decide) (top_ok _)) (by decide) (top_ok _)) (by decide) (top_ok _)) (by decide) (top_ok _)
  · exact gOk_r (gOk_r (gOk_r hg (by decide) (top_ok _)) (by decide) (top_ok _)) (by decide) (top_ok _)
theorem frm_rdL : ∀ (k : Nat) (mu : Mu) (n : Nat) (s : PS), frm wFl mu la ro (rdL k mu n s).1 la ro
  | 0, _, _, _ => frm_r _ _ _ _
  | k + 1, mu, n, s => by
    rw [rdL]
    split
    · exact frm_t frm_lnF (frm_rdL k _ _ _)
    · exact frm_r _ _ _ _
theorem gOk_rdL : ∀ (k : Nat) (mu : Mu) (n : Nat) (s : PS), gOk ivG mu → gOk ivG (rdL k mu n s).1
  | 0, _, _, _, hg => hg
  | k + 1, mu, n, s, hg => by
    rw [rdL]
    split
    · exact gOk_rdL k _ _ _ (gOk_lnF hg)
    · exact hg
theorem frm_rdF : frm wFl mu la ro (rdF mu).1 la ro := frm_t (frm_t (frm_up (k := 4) (.inl (by decide))) frm_lnF) (frm_rdL 121 _ _ _)
theorem gOk_rdF (hg : gOk ivG mu) : gOk ivG (rdF mu).1 := gOk_rdL 121 _ _ _ (gOk_lnF (gOk_r hg (by decide) (top_ok _)))
theorem frm_cpA {m : Mu} {p k : Nat} : frm wFl m la ro (cpA m p k) la ro :=
  ⟨fun a j h1 h2 => cpA_o (fun q => by subst q; cases h1) (fun q => by subst q; cases h1), fun _ _ => rfl, fun _ _ _ => rfl, fun _ => rfl⟩
theorem frm_cpB {m : Mu} {p k : Nat} : frm wFl m la ro (cpB m p k) la ro :=
  ⟨fun a j h1 h2 => cpB_o (fun q => by subst q; cases h1) (fun q => by subst q; cases h1), fun _ _ => rfl, fun _ _ _ => rfl, fun _ => rfl⟩
theorem gOk_cpA {m : Mu} {p k : Nat} (hg : gOk ivG m) : gOk ivG (cpA m p k) := by
  intro a j
  by_cases c1 : a = 92
  · subst c1; exact ⟨top_ok _, by rw [ivR_ok (by decide)]; exact top_ok _⟩
  by_cases c2 : a = 93
  · subst c2; exact ⟨top_ok _, by rw [ivR_ok (by decide)]; exact top_ok _⟩
  rw [cpA_o c1 c2]
  exact hg a j
theorem gOk_cpB {m : Mu} {p k : Nat} (hg : gOk ivG m) : gOk ivG (cpB m p k) := by
  intro a j
  by_cases c1 : a = 95
  · subst c1; exact ⟨top_ok _, by rw [ivR_ok (by decide)]; exact top_ok _⟩
  by_cases c2 : a = 96
  · subst c2; exact ⟨top_ok _, by rw [ivR_ok (by decide)]; exact top_ok _⟩
  rw [cpB_o c1 c2]
  exact hg a j
theorem gOk_2 (hg : gOk ivG mu) : gOk ivG (up2 mu 81 2 0) := gOk_f hg (by decide)
theorem frm_rtm : frm wFl mu la ro (rtm mu) la ro := frm_t (frm_t frm_rdF (frm_up (k := 2) (.inr (by decide)))) frm_pm
theorem gOk_rtm (hg : gOk ivG mu) : gOk ivG (rtm mu) := gOk_pm (gOk_2 (gOk_rdF hg)) (rt_h (g_tOK hg))
theorem frm_rtM {p : Nat} : frm wFl mu la ro (rtM mu p) la ro := by
  unfold rtM
  split
  · exact frm_t (frm_t (frm_t frm_rtm frm_cpA) (frm_up (.inl (by decide)))) frm_cpB
  · exact frm_rtm
theorem gOk_rtM {p : Nat} (hg : gOk ivG mu) : gOk ivG (rtM mu p) := by
  unfold rtM
  split
  · exact gOk_cpB (gOk_r (gOk_cpA (gOk_rtm hg)) (by decide) (top_ok _))
  · exact gOk_rtm hg
/-- places of floors ahead of the new one stand -/
abbrev Lw (mu mu' : Mu) : Prop := (∀ j, j < 520 → mu' 92 j = mu 92 j ∧ mu' 93 j = mu 93 j) ∧ (∀ j, j < 4 → mu' 94 j = mu 94 j) ∧ (∀ j, j < 244 → mu' 95 j = mu 95 j ∧ mu' 96 j = mu 96 j)
theorem Lw_t {m2 : Mu} (h : Lw mu mu') (g : Lw mu' m2) : Lw mu m2 := ⟨fun j hj => ⟨(g.1 j hj).1.trans (h.1 j hj).1, (g.1 j hj).2.trans (h.1 j hj).2⟩, fun j hj => (g.2.1 j hj).trans (h.2.1 j hj), fun j hj => ⟨(g.2.2 j hj).1.trans (h.2.2 j hj).1, (g.2.2 j hj).2.trans (h.2.2 j hj).2⟩⟩
theorem Lw_lnF : Lw mu (lnF mu n s).1 := by
  unfold lnF
  split
  · refine ⟨fun j hj => ⟨?_, ?_⟩, fun j hj => ?_, fun j hj => ⟨?_, ?_⟩⟩
    · simp [up2_e]
    · simp [up2_e]
    · simp [up2_e, show ¬ j = 4 by omega]
    · simp [up2_e, show ¬ j = 244 + n by omega]
    · simp [up2_e, show ¬ j = 244 + n by omega]
  · refine ⟨fun j hj => ⟨?_, ?_⟩, fun j hj => ?_, fun j hj => ⟨?_, ?_⟩⟩
    · simp [up2_e]
    · simp [up2_e]
    · simp [up2_e, show ¬ j = 4 by omega]
    · simp [up2_e, show ¬ j = 244 + n by omega]
    · simp [up2_e, show ¬ j = 244 + n by omega]
theorem Lw_r : Lw mu mu := ⟨fun _ _ => ⟨rfl, rfl⟩, fun _ _ => rfl, fun _ _ => ⟨rfl, rfl⟩⟩
theorem Lw_rdL : ∀ (k : Nat) (mu : Mu) (n : Nat) (s : PS), Lw mu (rdL k mu n s).1
  | 0, _, _, _ => Lw_r
  | k + 1, mu, n, s => by
    rw [rdL]
    split
    · exact Lw_t Lw_lnF (Lw_rdL k _ _ _)
    · exact Lw_r
theorem Lw_m0 : Lw mu (m0 mu) := by
  unfold m0
  refine ⟨fun j hj => ⟨?_, ?_⟩, fun j hj => ?_, fun j hj => ⟨?_, ?_⟩⟩
  · simp [up2_e]
  · simp [up2_e]
  · simp [up2_e, show ¬ j = 4 by omega]
  · simp [up2_e]
  · simp [up2_e]
theorem Lw_rdF : Lw mu (rdF mu).1 := Lw_t (Lw_t Lw_m0 Lw_lnF) (Lw_rdL 121 _ _ _)
theorem Lw_rtm : Lw mu (rtm mu) := by
  refine Lw_t Lw_rdF ⟨fun j hj => ⟨?_, ?_⟩, fun j hj => ?_, fun j hj => ⟨?_, ?_⟩⟩
  · unfold rtm pm; simp [show ¬ 520 ≤ j by omega, up2_e]
  · unfold rtm pm; simp [show ¬ 520 ≤ j by omega, up2_e]
  · unfold rtm; rw [pm_o (by decide) (by decide) (by decide), up2_a (by decide)]
  · unfold rtm; rw [pm_o (by decide) (by decide) (by decide), up2_a (by decide)]
  · unfold rtm; rw [pm_o (by decide) (by decide) (by decide), up2_a (by decide)]
theorem JFl_Lw (h : Lw mu mu') (hj : JFl mu) : JFl mu' := by
  intro p hp
  obtain ⟨n, h1, h2, h3⟩ := hj p hp
  exact ⟨n, h1, (h.2.1 p hp).trans h2, lnsOk_e2 (fun i hi => h.1 _ (by omega)) (fun i hi => h.2.2 _ (by omega)) n 0 0 (by omega) h3⟩
theorem JFl_rtM {P : Nat} (hT : tOK mu) (hP : P < 4) (hj : JFl mu) : JFl (rtM mu P) := by
  have j1 := JFl_Lw (Lw_rtm (mu := mu)) hj
  unfold rtM
  by_cases c : noF (rtS mu) = true
  · rw [if_pos c]
    obtain ⟨k1, ⟨t, e, k2, k3, k5⟩, k6⟩ := rt_len hT c
    have l5 := (LI_0 hT).2.2.2.2.1
    have g95 : ∀ j, rtm mu 95 j = (rdF mu).1 95 j := fun j => by unfold rtm; rw [pm_o (by decide) (by decide) (by decide), up2_a (by decide)]
    have g96 : ∀ j, rtm mu 96 j = (rdF mu).1 96 j := fun j => by unfold rtm; rw [pm_o (by decide) (by decide) (by decide), up2_a (by decide)]
    have g92 : ∀ i, i < (rtS mu).2.2.2.length → ∀ q, (rtS mu).2.2.2[i]? = some q → rtm mu 92 (520 + i) = q.1 ∧ rtm mu 93 (520 + i) = q.2 := fun i hi q hq => by
      unfold rtm pm
      simp only [Nat.reduceEqDiff, if_false, if_true, Nat.le_add_right, Nat.add_sub_cancel_left, hq, and_self]
    generalize (rtS mu).2.2.2 = L at *
    generalize rtm mu = m at *
    generalize (rdF mu).2.2 = n at *
    intro p hp
    by_cases q : p = P
    · subst q
      refine ⟨n, l5, ?_, ?_⟩
      · rw [cpB_o (by decide) (by decide), up2_s]
      · refine lns_of (t := t) (e := e) (L := L) (by omega) (fun i hi => ?_) k3 (fun i hi q hq => ?_) n 0 (by omega)
        · obtain ⟨a1, a2⟩ := k2 i hi
          constructor
          · unfold cpB
            rw [if_pos ⟨.inl rfl, by omega, by omega⟩, up2_a (by decide), cpA_o (by decide) (by decide), show 61 * p + i - 61 * p = i by omega, g95]
            exact a1
          · unfold cpB
            rw [if_pos ⟨.inr rfl, by omega, by omega⟩, up2_a (by decide), cpA_o (by decide) (by decide), show 61 * p + i - 61 * p = i by omega, g96]
            exact a2
        · obtain ⟨b1, b2⟩ := g92 i hi q hq
          constructor
          · rw [cpB_o (by decide) (by decide), up2_a (by decide)]
            unfold cpA
            rw [if_pos ⟨.inl rfl, by omega, by omega⟩, show 130 * p + i - 130 * p = i by omega]
            exact b1
          · rw [cpB_o (by decide) (by decide), up2_a (by decide)]
            unfold cpA
            rw [if_pos ⟨.inr rfl, by omega, by omega⟩, show 130 * p + i - 130 * p = i by omega]
            exact b2
    · obtain ⟨n', h1, h2, h3⟩ := j1 p hp
      refine ⟨n', h1, ?_, lnsOk_e2 (fun i hi => ?_) (fun i hi => ?_) n' 0 0 (by omega) h3⟩
      · rw [cpB_o (by decide) (by decide), up2_k q, cpA_o (by decide) (by decide)]
        exact h2
      · constructor
        · rw [cpB_o (by decide) (by decide), up2_a (by decide)]
          exact if_neg (by omega)
        · rw [cpB_o (by decide) (by decide), up2_a (by decide)]
          exact if_neg (by omega)
      · constructor
        · unfold cpB
          rw [if_neg (by omega), up2_a (by decide), cpA_o (by decide) (by decide)]
        · unfold cpB
          rw [if_neg (by omega), up2_a (by decide), cpA_o (by decide) (by decide)]
  · rw [if_neg c]
    exact j1
theorem g_floors (hg : gOk ivG mu) : ∃ P, P ≤ 4 ∧ mu 81 29 = nI P := by
  have h : (0 : Int) ≤ (mu 81 29).toInt ∧ (mu 81 29).toInt ≤ 4 := (hg 81 29).2
  refine ⟨(mu 81 29).toInt.toNat, by omega, Int32.toInt_inj.mp ?_⟩
  rw [nI_toInt (by omega)]
  omega
theorem rtM_29 {P : Nat} : rtM mu P 81 29 = mu 81 29 := by
  have h : ∀ k mu n s, (rdL k mu n s).1 81 29 = mu 81 29 := by
    intro k
    induction k with
    | zero => intro _ _ _; rfl
    | succ k ih =>
      intro mu n s
      rw [rdL]
      split
      · rw [ih, lnF_81]
      · rfl
  have e : rtm mu 81 29 = mu 81 29 := by
    unfold rtm pm
    simp only [if_true, Nat.reduceEqDiff, if_false]
    rw [up2_k (by decide)]
    unfold rdF
    rw [h, lnF_81]
    unfold m0
    rw [up2_a (by decide)]
  unfold rtM
  split
  · rw [cpB_o (by decide) (by decide), up2_a (by decide), cpA_o (by decide) (by decide), e]
  · exact e
noncomputable def flR (mu : Mu) : Int32 := if mu 81 29 = 4 then -3 else if noF (rtS mu) = true then mu 81 29 else -100 - fI' (rtS mu).2.1
noncomputable def flM (mu : Mu) : Mu := if mu 81 29 = 4 then mu else if noF (rtS mu) = true then up2 (rtM mu (mu 81 29).toNatClampNeg) 81 29 (mu 81 29 + 1) else rtM mu (mu 81 29).toNatClampNeg
theorem rt_fault (hT : tOK mu) : ∀ j, (rtS mu).2.1 = some j → j ≤ 120 := by
  have L := LI_0 hT
  have hT2 := Tt_le L.1
  intro j hj
  unfold rtS endS at hj
  split at hj
  · rename_i c
    rw [Bool.and_eq_true] at c
    have e : (wrS (rdF mu).2.1).2.1 = some (rdF mu).2.1.1 := by unfold wrS; rw [noF_n c.1]
    rw [e] at hj
    cases hj
    have := L.2.2.2.1
    omega
  · have := L.2.2.1 j hj
    omega
theorem e_floor (hg : gOk ivG mu) : Rr X (d + 54) MRm_floor 0 [.ref 81, mkU] [] (Wd mu la ro et) = some (some (.int (flR mu)), Wd (flM mu) la ro et) := by
  obtain ⟨P, hP, eP⟩ := g_floors hg
  have hT := g_tOK hg
  unfold flR flM
  by_cases c : mu 81 29 = 4
  · rw [if_pos c, if_pos c]
    simp only [r_MRm_floor_0, r_MRm_floor_1, r_MRm_floor_4, r_MRm_floor_5, r_MRm_floor_8, r_MRm_floor_10, r_MRm_floor_11, sL_0, sL_1, sL_2, mk_i, mk_r, mk_f, mk_n, mk_u, mk_l, List.set_cons_succ, List.set_cons_zero, Nat.reduceAdd, ckS_0, ckS_1, ckS_2, ckS_3, ckS_4, Option.bind_some, Option.isSome_some, psh, if_true, if_false, i10, not_true_eq_false, not_false_eq_true, Bool.false_eq_true, and_self, and_true, true_and, eq_self, qI_81_0, qI_81_2, qI_81_3, qI_81_9, qI_81_10, qI_81_11, qI_81_12, qI_81_13, qI_81_18, qI_81_19, qI_81_20, qI_81_21, qI_81_29, qI_81_30, qI_81_31, qI_81_32, qI_81_33, qI_81_34, qI_81_35, qI_81_39, qI_81_40, qI_81_41, qI_81_42, qI_81_43, qI_81_44, qI_81_45, qI_81_46, qI_81_47, qI_81_51, qI_81_53, qR_81_1, qRd_81_1, qR_81_4, qRd_81_4, qR_81_5, qRd_81_5, qR_81_6, qRd_81_6, qR_81_7, qRd_81_7, qR_81_8, qRd_81_8, qR_81_14, qRd_81_14, qR_81_15, qRd_81_15, qR_81_16, qRd_81_16, qR_81_17, qRd_81_17, qR_81_22, qRd_81_22, qR_81_23, qRd_81_23, qR_81_24, qRd_81_24, qR_81_25, qRd_81_25, qR_81_26, qRd_81_26, qR_81_27, qRd_81_27, qR_81_28, qRd_81_28, qR_81_36, qRd_81_36, qR_81_37, qRd_81_37, qR_81_38, qRd_81_38, qR_81_48, qRd_81_48, qR_81_49, qRd_81_49, qR_81_50, qRd_81_50, qR_81_52, qRd_81_52, qR_81_54, qRd_81_54, qR_81_55, qRd_81_55, qR_81_56, qRd_81_56, qR_81_57, qRd_81_57, qR_81_58, qRd_81_58, qO_81, c]
  · rw [if_neg c, if_neg c]
    have hP4 : P < 4 := by
      rcases Nat.lt_or_ge P 4 with q | q
      · exact q
      · exact absurd (by rw [eP, show P = 4 by omega]; rfl) c
    have c' : ¬ nI P = 4 := by rwa [eP] at c
    have er := e_readText (X := X) (d := d) (la := la) (ro := ro) (et := et) hT hP4
    have cP : (nI P).toNatClampNeg = P := nI_clamp (by omega)
    have r29 : rtM mu P 81 29 = nI P := rtM_29.trans eP
    rw [eP, cP]
    by_cases c2 : noF (rtS mu) = true
    · rw [if_pos c2, if_pos c2]
      have f0 : (fI' (rtS mu).2.1 < 0) = True := flt1 c2
      have e1 : up2 (rtM mu P) 81 29 (nI (P + 1)) 81 29 - 1 = nI P := by rw [up2_s, nI_pred]
      simp only [r_MRm_floor_0, r_MRm_floor_1, r_MRm_floor_4, r_MRm_floor_5, r_MRm_floor_8, r_MRm_floor_10, r_MRm_floor_11, r_MRm_floor_12, r_MRm_floor_13, r_MRm_floor_16, r_MRm_floor_19, r_MRm_floor_20, r_MRm_floor_21, r_MRm_floor_24, r_MRm_floor_26, r_MRm_floor_27, r_MRm_floor_28, r_MRm_floor_29, r_MRm_floor_30, r_MRm_floor_30i, r_MRm_floor_31, r_MRm_floor_34, r_MRm_floor_35, r_MRm_floor_36, r_MRm_floor_39, r_MRm_floor_40, r_MRm_floor_43, r_MRm_floor_44, r_MRm_floor_45, sL_0, sL_1, sL_2, mk_i, mk_r, mk_f, mk_n, mk_u, mk_l, List.set_cons_succ, List.set_cons_zero, Nat.reduceAdd, ckS_0, ckS_1, ckS_2, ckS_3, ckS_4, Option.bind_some, Option.isSome_some, psh, if_true, if_false, i10, not_true_eq_false, not_false_eq_true, Bool.false_eq_true, and_self, and_true, true_and, eq_self, qI_81_0, qI_81_2, qI_81_3, qI_81_9, qI_81_10, qI_81_11, qI_81_12, qI_81_13, qI_81_18, qI_81_19, qI_81_20, qI_81_21, qI_81_29, qI_81_30, qI_81_31, qI_81_32, qI_81_33, qI_81_34, qI_81_35, qI_81_39, qI_81_40, qI_81_41, qI_81_42, qI_81_43, qI_81_44, qI_81_45, qI_81_46, qI_81_47, qI_81_51, qI_81_53, qR_81_1, qRd_81_1, qR_81_4, qRd_81_4, qR_81_5, qRd_81_5, qR_81_6, qRd_81_6, qR_81_7, qRd_81_7, qR_81_8, qRd_81_8, qR_81_14, qRd_81_14, qR_81_15, qRd_81_15, qR_81_16, qRd_81_16, qR_81_17, qRd_81_17, qR_81_22, qRd_81_22, qR_81_23, qRd_81_23, qR_81_24, qRd_81_24, qR_81_25, qRd_81_25, qR_81_26, qRd_81_26, qR_81_27, qRd_81_27, qR_81_28, qRd_81_28, qR_81_36, qRd_81_36, qR_81_37, qRd_81_37, qR_81_38, qRd_81_38, qR_81_48, qRd_81_48, qR_81_49, qRd_81_49, qR_81_50, qRd_81_50, qR_81_52, qRd_81_52, qR_81_54, qRd_81_54, qR_81_55, qRd_81_55, qR_81_56, qRd_81_56, qR_81_57, qRd_81_57, qR_81_58, qRd_81_58, qO_81, eP, c', er, f0, r29, nI_1, e1]
    · rw [if_neg c2, if_neg c2]
      have f0 : (fI' (rtS mu).2.1 < 0) = False := by
        unfold noF at c2
        cases e : (rtS mu).2.1 with
        | none => rw [e] at c2; exact absurd rfl c2
        | some j => exact eq_false (nI_pos (by have := rt_fault hT j e; omega))
      simp only [r_MRm_floor_0, r_MRm_floor_1, r_MRm_floor_4, r_MRm_floor_5, r_MRm_floor_8, r_MRm_floor_10, r_MRm_floor_11, r_MRm_floor_12, r_MRm_floor_13, r_MRm_floor_16, r_MRm_floor_19, r_MRm_floor_20, r_MRm_floor_21, r_MRm_floor_24, r_MRm_floor_26, r_MRm_floor_27, r_MRm_floor_28, r_MRm_floor_29, r_MRm_floor_30, r_MRm_floor_30i, r_MRm_floor_31, r_MRm_floor_34, r_MRm_floor_35, r_MRm_floor_36, r_MRm_floor_39, r_MRm_floor_40, r_MRm_floor_43, r_MRm_floor_44, r_MRm_floor_45, sL_0, sL_1, sL_2, mk_i, mk_r, mk_f, mk_n, mk_u, mk_l, List.set_cons_succ, List.set_cons_zero, Nat.reduceAdd, ckS_0, ckS_1, ckS_2, ckS_3, ckS_4, Option.bind_some, Option.isSome_some, psh, if_true, if_false, i10, not_true_eq_false, not_false_eq_true, Bool.false_eq_true, and_self, and_true, true_and, eq_self, qI_81_0, qI_81_2, qI_81_3, qI_81_9, qI_81_10, qI_81_11, qI_81_12, qI_81_13, qI_81_18, qI_81_19, qI_81_20, qI_81_21, qI_81_29, qI_81_30, qI_81_31, qI_81_32, qI_81_33, qI_81_34, qI_81_35, qI_81_39, qI_81_40, qI_81_41, qI_81_42, qI_81_43, qI_81_44, qI_81_45, qI_81_46, qI_81_47, qI_81_51, qI_81_53, qR_81_1, qRd_81_1, qR_81_4, qRd_81_4, qR_81_5, qRd_81_5, qR_81_6, qRd_81_6, qR_81_7, qRd_81_7, qR_81_8, qRd_81_8, qR_81_14, qRd_81_14, qR_81_15, qRd_81_15, qR_81_16, qRd_81_16, qR_81_17, qRd_81_17, qR_81_22, qRd_81_22, qR_81_23, qRd_81_23, qR_81_24, qRd_81_24, qR_81_25, qRd_81_25, qR_81_26, qRd_81_26, qR_81_27, qRd_81_27, qR_81_28, qRd_81_28, qR_81_36, qRd_81_36, qR_81_37, qRd_81_37, qR_81_38, qRd_81_38, qR_81_48, qRd_81_48, qR_81_49, qRd_81_49, qR_81_50, qRd_81_50, qR_81_52, qRd_81_52, qR_81_54, qRd_81_54, qR_81_55, qRd_81_55, qR_81_56, qRd_81_56, qR_81_57, qRd_81_57, qR_81_58, qRd_81_58, qO_81, eP, c', er, f0]
theorem hand_floor : ctrT ivG JB X et h6 := by
  intro d av mu la ro hd ha hg hr hj
  have := ap1 ha
  subst this
  obtain ⟨d, rfl⟩ : ∃ e, d = e + 54 := ⟨d - 54, by have : 120 ≤ d := hd; omega⟩
  show Fin X (d + 54) MRm_floor 0 [.ref 81, mkU] [] mu la ro et _
  obtain ⟨P, hP, eP⟩ := g_floors hg
  have hT := g_tOK hg
  have cP : (nI P).toNatClampNeg = P := nI_clamp (by omega)
  have key : frm wFl mu la ro (flM mu) la ro ∧ gOk ivG (flM mu) ∧ JFl (flM mu) := by
    unfold flM
    split
    · exact ⟨frm_r _ _ _ _, hg, hj.2.2⟩
    · rename_i c
      have hP4 : P < 4 := by
        rcases Nat.lt_or_ge P 4 with q | q
        · exact q
        · exact absurd (by rw [eP, show P = 4 by omega]; rfl) c
      rw [eP, cP]
      have j1 := JFl_rtM hT hP4 hj.2.2
      split
      · refine ⟨frm_t frm_rtM (frm_up (k := 29) (.inr (by decide))), gOk_f (gOk_rtM hg) ?_, JFl_f (w := [(81, 30)]) (la := la) (ro := ro) (la' := la) (ro' := ro) (by decide) (frm_up (k := 29) (.inr (by decide))) j1⟩
        rw [nI_1]
        have e : (nI (P + 1)).toInt = ((P + 1 : Nat) : Int) := nI_toInt (by omega)
        show (0 : Int) ≤ (nI (P + 1)).toInt ∧ (nI (P + 1)).toInt ≤ 4
        omega
      · exact ⟨frm_rtM, gOk_rtM hg, j1⟩
  obtain ⟨k1, k2, k3⟩ := key
  exact ⟨_, _, _, _, e_floor hg, k2, hr, ⟨JFm_f (by decide) k1 hj.1, JCh_f (by decide) k1 hj.2.1, k3⟩, k1, resT _⟩
end
