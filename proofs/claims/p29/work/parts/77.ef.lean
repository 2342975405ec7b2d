-- ===== floor, both sides
/-- a floor of the class holds these parts -/
def FlC (mu : Mu) (a : Nat) (P : List Pt) : Prop := mu a 4 = nI P.length ∧ ∀ i p, P[i]? = some p → mu (a + 1) i = p.1 ∧ mu (a + 2) i = p.2.1 ∧ mu (a + 3) i = p.2.2.1 ∧ ∀ v, p.2.2.2 = some v → mu (a + 4) i = v
/-- a floor of the model holds these lines -/
def FlM (mu : Mu) (F : Nat) (ls : List Ln) : Prop := mu 94 F = nI ls.length ∧ rowsOk mu (61 * F) 0 0 ls ∧ ∀ i c, (cdL ls)[i]? = some c → mu 92 (130 * F + i) = c.1 ∧ mu 93 (130 * F + i) = c.2
/-- the first n floors of both sides are worth the same -/
def RFs (mu : Mu) (n : Nat) : Prop := ∀ F, F < n → ∃ ls, lnsOkC 0 ls ∧ ((ptL ls).length ≤ 121 ∧ (cdL ls).length ≤ 130 ∧ ls.length ≤ 61) ∧ FlC mu (49 + 5 * F) (ptL ls) ∧ FlM mu F ls
abbrev wFlC : WS := [(1, 2), (1, 3), (0, 11), (49, 5), (50, 0), (51, 0), (52, 0), (53, 0), (54, 5), (55, 0), (56, 0), (57, 0), (58, 0), (59, 5), (60, 0), (61, 0), (62, 0), (63, 0), (64, 5), (65, 0), (66, 0), (67, 0), (68, 0)]
section
variable {X : Tok} {d : Nat} {mu mu' : Mu} {la la' : La} {ro ro' : Ro} {et : Nat → Option va_E} {a h F : Nat} {P : List Pt}
theorem bt_f (h2 : mu' 81 2 = mu 81 2) (h82 : ∀ j, mu' 82 j = mu 82 j) : bt mu' = bt mu := by
  refine funext fun h => ?_
  unfold bt
  rw [h2, h82]
theorem Tt_f (h2 : mu' 81 2 = mu 81 2) : Tt mu' = Tt mu := by
  unfold Tt
  rw [h2]
theorem rtS_c (hb : bt mu' = bt mu) (ht : Tt mu' = Tt mu) : rtS mu' = rtS mu := by
  rw [rtS_e, rtS_e, rdS_c hb, lnS_c hb]
  unfold endS
  rw [ht]
theorem fm_FlC (ha : 49 ≤ a) : FlC (fm mu a P) a P := by
  refine ⟨by unfold fm; rw [if_pos rfl, if_pos rfl], fun i p hp => ⟨?_, ?_, ?_, fun v hv => ?_⟩⟩
  · unfold fm; rw [if_neg (by omega), if_pos rfl, hp]
  · unfold fm; rw [if_neg (by omega), if_neg (by omega), if_pos rfl, hp]
  · unfold fm; rw [if_neg (by omega), if_neg (by omega), if_neg (by omega), if_pos rfl, hp]
  · unfold fm; rw [if_neg (by omega), if_neg (by omega), if_neg (by omega), if_neg (by omega), if_pos rfl, hp]; dsimp only; rw [hv]; rfl
theorem FlC_c (h : ∀ c j, a ≤ c → c ≤ a + 4 → mu' c j = mu c j) (q : FlC mu a P) : FlC mu' a P := by
  obtain ⟨q1, q2⟩ := q
  refine ⟨(h a 4 (by omega) (by omega)).trans q1, fun i p hp => ?_⟩
  obtain ⟨t1, t2, t3, t4⟩ := q2 i p hp
  exact ⟨(h _ _ (by omega) (by omega)).trans t1, (h _ _ (by omega) (by omega)).trans t2, (h _ _ (by omega) (by omega)).trans t3, fun v hv => (h _ _ (by omega) (by omega)).trans (t4 v hv)⟩
theorem fw_in (h : F < 4) : wIn wFlC (49 + 5 * F) (4 + 1) = true ∧ wIn wFlC (49 + 5 * F + 1) 0 = true ∧ wIn wFlC (49 + 5 * F + 2) 0 = true ∧ wIn wFlC (49 + 5 * F + 3) 0 = true ∧ wIn wFlC (49 + 5 * F + 4) 0 = true := by
  match F, h with
  | 0, _ => decide
  | 1, _ => decide
  | 2, _ => decide
  | 3, _ => decide
theorem fw_iv (h : F < 4) : (ivL ivG (49 + 5 * F) 0 = (iLo, iHi) ∧ ivL ivG (49 + 5 * F) (4 + 1) = (iLo, iHi)) ∧ (ivL ivG (49 + 5 * F + 1) 0 = (iLo, iHi) ∧ ivR ivG (49 + 5 * F + 1) = true) ∧ (ivL ivG (49 + 5 * F + 2) 0 = (iLo, iHi) ∧ ivR ivG (49 + 5 * F + 2) = true) ∧ (ivL ivG (49 + 5 * F + 3) 0 = (iLo, iHi) ∧ ivR ivG (49 + 5 * F + 3) = true) ∧ (ivL ivG (49 + 5 * F + 4) 0 = (iLo, iHi) ∧ ivR ivG (49 + 5 * F + 4) = true) := by
  match F, h with
  | 0, _ => decide
  | 1, _ => decide
  | 2, _ => decide
  | 3, _ => decide
theorem frm_fm (hF : F < 4) : frm wFlC mu la ro (fm mu (49 + 5 * F) P) la ro := by
  obtain ⟨w0, w1, w2, w3, w4⟩ := fw_in hF
  refine ⟨fun c k h1 h2 => ?_, fun _ _ => rfl, fun _ _ _ => rfl, fun _ => rfl⟩
  unfold fm
  by_cases c0 : c = 49 + 5 * F
  · rw [if_pos c0]
    by_cases j4 : k = 4
    · rw [c0, j4, w0] at h2; cases h2
    · rw [if_neg j4]
  rw [if_neg c0]
  by_cases c1 : c = 49 + 5 * F + 1
  · rw [c1, w1] at h1; cases h1
  rw [if_neg c1]
  by_cases c2 : c = 49 + 5 * F + 2
  · rw [c2, w2] at h1; cases h1
  rw [if_neg c2]
  by_cases c3 : c = 49 + 5 * F + 3
  · rw [c3, w3] at h1; cases h1
  rw [if_neg c3]
  by_cases c4 : c = 49 + 5 * F + 4
  · rw [c4, w4] at h1; cases h1
  rw [if_neg c4]
theorem gOk_fm (hF : F < 4) (hg : gOk ivG mu) : gOk ivG (fm mu (49 + 5 * F) P) := by
  obtain ⟨⟨v0, u0⟩, ⟨v1, u1⟩, ⟨v2, u2⟩, ⟨v3, u3⟩, ⟨v4, u4⟩⟩ := fw_iv hF
  intro c k
  by_cases c0 : c = 49 + 5 * F
  · subst c0
    by_cases j4 : k = 4
    · subst j4
      exact ⟨by rw [v0]; exact top_ok _, by rw [u0]; exact top_ok _⟩
    · have e : fm mu (49 + 5 * F) P (49 + 5 * F) k = mu (49 + 5 * F) k := by unfold fm; rw [if_pos rfl, if_neg j4]
      rw [e]
      exact hg _ k
  by_cases c1 : c = 49 + 5 * F + 1
  · subst c1; exact ⟨by rw [v1]; exact top_ok _, by rw [ivR_ok u1]; exact top_ok _⟩
  by_cases c2 : c = 49 + 5 * F + 2
  · subst c2; exact ⟨by rw [v2]; exact top_ok _, by rw [ivR_ok u2]; exact top_ok _⟩
  by_cases c3 : c = 49 + 5 * F + 3
  · subst c3; exact ⟨by rw [v3]; exact top_ok _, by rw [ivR_ok u3]; exact top_ok _⟩
  by_cases c4 : c = 49 + 5 * F + 4
  · subst c4; exact ⟨by rw [v4]; exact top_ok _, by rw [ivR_ok u4]; exact top_ok _⟩
  have e : fm mu (49 + 5 * F) P c k = mu c k := by unfold fm; rw [if_neg c0, if_neg c1, if_neg c2, if_neg c3, if_neg c4]
  rw [e]
  exact hg c k
theorem ro_fl (hr : rOk ro) (h : F < 4) : va_rf (ro 4 F) = .ref (49 + 5 * F) := by rw [hr.2.1 F h]; rfl
/-- the class's memory behind floor: the tape is clear -/
noncomputable def clC (mu : Mu) : Mu := up2 (up2 mu 1 1 0) 1 2 0
theorem clC_fr : frm wFlC mu la ro (clC mu) la ro := frm_t (frm_up (k := 1) (.inr (by decide))) (frm_up (k := 2) (.inr (by decide)))
theorem clC_g (hg : gOk ivG mu) : gOk ivG (clC mu) := gOk_up (gOk_up hg (top_ok _) (top_ok _)) (top_ok _) (top_ok _)
theorem clC_o {c j : Nat} (h : ¬ c = 1) : clC mu c j = mu c j := by
  unfold clC
  rw [up2_a h, up2_a h]
set_option maxHeartbeats 4000000 in
theorem e_floorC (hg : gOk ivG mu) (hr : rOk ro) (hR : RT mu) (hF : F ≤ 4) (h0 : mu 0 10 = nI F) : ∃ mu', Rr X (d + 71) MTo_floor 0 [.ref 0, mkU] [] (Wd mu la ro et) = some (some (.int (if F = 4 then -3 else if noF (rtS mu) = true then nI F else -100 - fI' (rtS mu).2.1)), Wd mu' la ro et) ∧ gOk ivG mu' ∧ frm wFlC mu la ro mu' la ro ∧ (F = 4 → mu' = mu) ∧ (F < 4 → mu' 1 1 = 0 ∧ (mu' 0 10 = if noF (rtS mu) = true then nI (F + 1) else nI F) ∧ (∀ c j, 49 ≤ c → c < 49 + 5 * F → mu' c j = mu c j) ∧ (noF (rtS mu) = true → ∃ ls, (ptL ls).length ≤ 121 ∧ (rtS mu).2.2.2 = cdL ls ∧ lnsOkC 0 ls ∧ (∀ m, bt m = bt mu → rowsOk (rdF m).1 244 0 0 ls ∧ ls.length = (rdF m).2.2) ∧ FlC mu' (49 + 5 * F) (ptL ls))) := by
  have z0 : ¬ nI F < 0 := nI_pos (by omega)
  by_cases c4 : F = 4
  · subst c4
    have z1 : Int32.ofNat 4 ≤ nI 4 := nI_le (a := 4) (b := 4) (Nat.le_refl _) (by omega)
    refine ⟨mu, ?_, hg, frm_r _ _ _ _, fun _ => rfl, fun q => absurd q (by omega)⟩
    rw [if_pos rfl]
    simp only [r_MTo_floor_0, r_MTo_floor_1, r_MTo_floor_4, r_MTo_floor_7, r_MTo_floor_8, r_MTo_floor_11, r_MTo_floor_12, r_MTo_floor_15, r_MTo_floor_16, r_MTo_floor_19, r_MTo_floor_20, r_MTo_floor_23, r_MTo_floor_24, r_MTo_floor_27, r_MTo_floor_28, r_MTo_floor_28n, r_MTo_floor_31, r_MTo_floor_33, sL_0, sL_1, sL_2, mk_i, mk_r, mk_f, mk_n, mk_u, mk_l, List.set_cons_succ, List.set_cons_zero, Nat.reduceAdd, ckS_0, ckS_1, ckS_2, ckS_3, ckS_4, Option.bind_some, Option.isSome_some, psh, if_true, if_false, i10, not_true_eq_false, not_false_eq_true, Bool.false_eq_true, and_self, and_true, true_and, eq_self, qI_0_9, qI_0_10, qR_0_0, qRd_0_0, qR_0_1, qRd_0_1, qR_0_2, qRd_0_2, qR_0_3, qRd_0_3, qR_0_4, qRd_0_4, qR_0_5, qRd_0_5, qR_0_6, qRd_0_6, qR_0_7, qRd_0_7, qR_0_8, qRd_0_8, qQ_4, qQd_4, qO_0, qL_4, qLd_4, h0, z0, z1]
  · have hF4 : F < 4 := by omega
    have qa := flA_of hF4
    have z1 : ¬ Int32.ofNat 4 ≤ nI F := nI_ge (a := F) (b := 4) hF4 (by omega)
    have cF : (nI F).toNatClampNeg = F := nI_clamp (by omega)
    have iF : ¬ 4 ≤ F := by omega
    have eF := ro_fl hr hF4
    have rw0 : up2 mu 1 2 0 = tp mu 0 := rfl
    have t0 : tp mu 0 0 10 = nI F := h0
    obtain ⟨Q, b, h, e, q1, q2, q3, q4⟩ := e_readFrom (X := X) (mu := mu) (la := la) (ro := ro) (et := et) hR qa (d + 1)
    have e : Rr X (d + 70) MFl_readFrom 0 [.ref (49 + 5 * F), .ref 1, mkU, mkU] [] (Wd (tp mu 0) la ro et) = some (some (.int b), Wd (tp (fm mu (49 + 5 * F) Q) h) la ro et) := e
    have ha := qa.1.2.2
    have t1 : tp (fm mu (49 + 5 * F) Q) h 0 10 = nI F := (fm_o ha (by decide)).trans h0
    have t2 : tp (fm mu (49 + 5 * F) Q) h 1 2 = nI h := tp_12
    have f1 : frm wFlC mu la ro (tp (fm mu (49 + 5 * F) Q) h) la ro := frm_t (frm_fm hF4) (frm_up (k := 2) (.inr (by decide)))
    have g1 : gOk ivG (tp (fm mu (49 + 5 * F) Q) h) := gOk_up (gOk_fm hF4 hg) (top_ok _) (top_ok _)
    have lo : ∀ c j, 49 ≤ c → c < 49 + 5 * F → tp (fm mu (49 + 5 * F) Q) h c j = mu c j := fun c j h1 h2 => by
      unfold tp fm
      rw [up2_a (by omega), if_neg (by omega), if_neg (by omega), if_neg (by omega), if_neg (by omega), if_neg (by omega)]
    rw [if_neg c4]
    by_cases c : noF (rtS mu) = true
    · obtain ⟨rfl, ls, rfl, l2, l3, l4⟩ := q3 c
      rw [if_pos c]
      refine ⟨clC (up2 (tp (fm mu (49 + 5 * F) (ptL ls)) h) 0 10 (nI (F + 1))), ?_, clC_g (gOk_up g1 (top_ok _) ?_), frm_t (frm_t f1 (frm_up (k := 10) (.inr (by decide)))) clC_fr, fun q => absurd q c4, fun _ => ⟨rfl, ?_, fun c j h1 h2 => ?_, fun _ => ⟨ls, q1, l2, l3, l4, ?_⟩⟩⟩
      · unfold clC
        simp only [r_MTo_floor_0, r_MTo_floor_1, r_MTo_floor_4, r_MTo_floor_7, r_MTo_floor_8, r_MTo_floor_11, r_MTo_floor_12, r_MTo_floor_15, r_MTo_floor_16, r_MTo_floor_19, r_MTo_floor_20, r_MTo_floor_23, r_MTo_floor_24, r_MTo_floor_27, r_MTo_floor_28, r_MTo_floor_28n, r_MTo_floor_31, r_MTo_floor_33, r_MTo_floor_34, r_MTo_floor_35, r_MTo_floor_38, r_MTo_floor_41, r_MTo_floor_43, r_MTo_floor_44, r_MTo_floor_45, r_MTo_floor_48, r_MTo_floor_49, r_MTo_floor_52, r_MTo_floor_53, r_MTo_floor_54, r_MTo_floor_57, r_MTo_floor_60, r_MTo_floor_63, r_MTo_floor_64, r_MTo_floor_67, r_MTo_floor_68, r_MTo_floor_69, r_MTo_floor_69i, r_MTo_floor_70, r_MTo_floor_73, r_MTo_floor_74, r_MTo_floor_75, r_MTo_floor_78, r_MTo_floor_81, r_MTo_floor_82, r_MTo_floor_83, r_MTo_floor_86, r_MTo_floor_89, r_MTo_floor_90, r_MTo_floor_91, r_MTo_floor_92, r_MTo_floor_95, r_MTo_floor_98, r_MTo_floor_99, r_MTa_rewind_0, r_MTa_rewind_1, r_MTa_rewind_2, r_MTa_rewind_5, r_MTa_clear_0, r_MTa_clear_1, r_MTa_clear_2, r_MTa_clear_5, r_MTa_clear_6, r_MTa_clear_7, r_MTa_clear_10, sL_0, sL_1, sL_2, mk_i, mk_r, mk_f, mk_n, mk_u, mk_l, List.set_cons_succ, List.set_cons_zero, Nat.reduceAdd, ckS_0, ckS_1, ckS_2, ckS_3, ckS_4, Option.bind_some, Option.isSome_some, psh, if_true, if_false, i10, not_true_eq_false, not_false_eq_true, Bool.false_eq_true, and_self, and_true, true_and, eq_self, qI_0_9, qI_0_10, qI_1_1, qI_1_2, qR_0_0, qRd_0_0, qR_0_1, qRd_0_1, qR_0_2, qRd_0_2, qR_0_3, qRd_0_3, qR_0_4, qRd_0_4, qR_0_5, qRd_0_5, qR_0_6, qRd_0_6, qR_0_7, qRd_0_7, qR_0_8, qRd_0_8, qR_1_0, qRd_1_0, qQ_4, qQd_4, qO_0, qO_1, qL_4, qLd_4, qa.1.1, h0, z0, z1, cF, iF, eF, rw0, t0, e, t1, nI_1, or_self]
      · have e2 : (nI (F + 1)).toInt = ((F + 1 : Nat) : Int) := nI_toInt (by omega)
        show (0 : Int) ≤ (nI (F + 1)).toInt ∧ (nI (F + 1)).toInt ≤ 4
        omega
      · rw [if_pos c, clC_o (by decide), up2_s]
      · rw [clC_o (by omega), up2_a (by omega), lo c j h1 h2]
      · refine FlC_c (mu := fm mu (49 + 5 * F) (ptL ls)) (fun c j h1 h2 => ?_) (fm_FlC ha)
        rw [clC_o (by omega), up2_a (by omega)]
        unfold tp
        rw [up2_a (by omega)]
    · have c' : noF (rtS mu) = false := Bool.eq_false_iff.mpr c
      obtain ⟨rfl, hf⟩ := q4 c'
      rw [if_neg c, hf]
      refine ⟨clC (tp (fm mu (49 + 5 * F) Q) h), ?_, clC_g g1, frm_t f1 clC_fr, fun q => absurd q c4, fun _ => ⟨rfl, ?_, fun c j h1 h2 => ?_, fun q => absurd q c⟩⟩
      · have ef : fI' (some h) = nI h := rfl
        unfold clC
        simp only [r_MTo_floor_0, r_MTo_floor_1, r_MTo_floor_4, r_MTo_floor_7, r_MTo_floor_8, r_MTo_floor_11, r_MTo_floor_12, r_MTo_floor_15, r_MTo_floor_16, r_MTo_floor_19, r_MTo_floor_20, r_MTo_floor_23, r_MTo_floor_24, r_MTo_floor_27, r_MTo_floor_28, r_MTo_floor_28n, r_MTo_floor_31, r_MTo_floor_33, r_MTo_floor_34, r_MTo_floor_35, r_MTo_floor_38, r_MTo_floor_41, r_MTo_floor_43, r_MTo_floor_44, r_MTo_floor_45, r_MTo_floor_48, r_MTo_floor_49, r_MTo_floor_52, r_MTo_floor_53, r_MTo_floor_54, r_MTo_floor_57, r_MTo_floor_60, r_MTo_floor_63, r_MTo_floor_64, r_MTo_floor_67, r_MTo_floor_68, r_MTo_floor_69, r_MTo_floor_69i, r_MTo_floor_70, r_MTo_floor_73, r_MTo_floor_74, r_MTo_floor_75, r_MTo_floor_78, r_MTo_floor_81, r_MTo_floor_82, r_MTo_floor_83, r_MTo_floor_86, r_MTo_floor_89, r_MTo_floor_90, r_MTo_floor_91, r_MTo_floor_92, r_MTo_floor_95, r_MTo_floor_98, r_MTo_floor_99, r_MTa_rewind_0, r_MTa_rewind_1, r_MTa_rewind_2, r_MTa_rewind_5, r_MTa_clear_0, r_MTa_clear_1, r_MTa_clear_2, r_MTa_clear_5, r_MTa_clear_6, r_MTa_clear_7, r_MTa_clear_10, sL_0, sL_1, sL_2, mk_i, mk_r, mk_f, mk_n, mk_u, mk_l, List.set_cons_succ, List.set_cons_zero, Nat.reduceAdd, ckS_0, ckS_1, ckS_2, ckS_3, ckS_4, Option.bind_some, Option.isSome_some, psh, if_true, if_false, i10, not_true_eq_false, not_false_eq_true, Bool.false_eq_true, and_self, and_true, true_and, eq_self, qI_0_9, qI_0_10, qI_1_1, qI_1_2, qR_0_0, qRd_0_0, qR_0_1, qRd_0_1, qR_0_2, qRd_0_2, qR_0_3, qRd_0_3, qR_0_4, qRd_0_4, qR_0_5, qRd_0_5, qR_0_6, qRd_0_6, qR_0_7, qRd_0_7, qR_0_8, qRd_0_8, qR_1_0, qRd_1_0, qQ_4, qQd_4, qO_0, qO_1, qL_4, qLd_4, qa.1.1, h0, z0, z1, cF, iF, eF, rw0, t0, e, t2, ef, or_self]
      · rw [if_neg c, clC_o (by decide), t1]
      · rw [clC_o (by omega), lo c j h1 h2]
-- the model's floor
theorem fl_key (hg : gOk ivG mu) (hj : JFl mu) : frm wFl mu la ro (flM mu) la ro ∧ gOk ivG (flM mu) ∧ JFl (flM mu) := by
  obtain ⟨P, hP, eP⟩ := g_floors hg
  have hT := g_tOK hg
  have cP : (nI P).toNatClampNeg = P := nI_clamp (by omega)
  unfold flM
  split
  · exact ⟨frm_r _ _ _ _, hg, hj⟩
  · rename_i c
    have hP4 : P < 4 := by
      rcases Nat.lt_or_ge P 4 with q | q
      · exact q
      · exact absurd (by rw [eP, show P = 4 by omega]; rfl) c
    rw [eP, cP]
    have j1 := JFl_rtM hT hP4 hj
    split
    · refine ⟨frm_t frm_rtM (frm_up (k := 29) (.inr (by decide))), gOk_f (gOk_rtM hg) ?_, JFl_f (w := [(81, 30)]) (la := la) (ro := ro) (la' := la) (ro' := ro) (by decide) (frm_up (k := 29) (.inr (by decide))) j1⟩
      rw [nI_1]
      have e : (nI (P + 1)).toInt = ((P + 1 : Nat) : Int) := nI_toInt (by omega)
      show (0 : Int) ≤ (nI (P + 1)).toInt ∧ (nI (P + 1)).toInt ≤ 4
      omega
    · exact ⟨frm_rtM, gOk_rtM hg, j1⟩
theorem rtm_2 : rtm mu 81 2 = 0 := by
  unfold rtm
  rw [pm_2, up2_s]
theorem rtM_2 {p : Nat} : rtM mu p 81 2 = 0 := by
  unfold rtM
  split
  · rw [cpB_o (by decide) (by decide), up2_a (by decide), cpA_o (by decide) (by decide)]
    exact rtm_2
  · exact rtm_2
/-- floors ahead of the new one stand -/
theorem rtM_lo {p : Nat} (hp : p < 4) : (∀ j, j < 130 * p → rtM mu p 92 j = mu 92 j ∧ rtM mu p 93 j = mu 93 j) ∧ (∀ j, j < p → rtM mu p 94 j = mu 94 j) ∧ (∀ j, j < 61 * p → rtM mu p 95 j = mu 95 j ∧ rtM mu p 96 j = mu 96 j) := by
  obtain ⟨l1, l2, l3⟩ := Lw_rtm (mu := mu)
  unfold rtM
  split
  · refine ⟨fun j hj => ⟨?_, ?_⟩, fun j hj => ?_, fun j hj => ⟨?_, ?_⟩⟩
    · rw [cpB_o (by decide) (by decide), up2_a (by decide)]
      exact (if_neg (by omega)).trans (l1 j (by omega)).1
    · rw [cpB_o (by decide) (by decide), up2_a (by decide)]
      exact (if_neg (by omega)).trans (l1 j (by omega)).2
    · rw [cpB_o (by decide) (by decide), up2_k (by omega), cpA_o (by decide) (by decide)]
      exact l2 j (by omega)
    · unfold cpB
      rw [if_neg (by omega), up2_a (by decide), cpA_o (by decide) (by decide)]
      exact (l3 j (by omega)).1
    · unfold cpB
      rw [if_neg (by omega), up2_a (by decide), cpA_o (by decide) (by decide)]
      exact (l3 j (by omega)).2
  · exact ⟨fun j hj => l1 j (by omega), fun j hj => l2 j (by omega), fun j hj => l3 j (by omega)⟩
theorem rtM_new {p : Nat} {ls : List Ln} (hp : p < 4) (c : noF (rtS mu) = true) (hl : (rtS mu).2.2.2 = cdL ls) (hn : ls.length = (rdF mu).2.2) (hn61 : (rdF mu).2.2 ≤ 61) (hr : rowsOk (rdF mu).1 244 0 0 ls) : FlM (rtM mu p) p ls := by
  have g95 : ∀ j, rtm mu 95 j = (rdF mu).1 95 j := fun j => by unfold rtm; rw [pm_o (by decide) (by decide) (by decide), up2_a (by decide)]
  have g96 : ∀ j, rtm mu 96 j = (rdF mu).1 96 j := fun j => by unfold rtm; rw [pm_o (by decide) (by decide) (by decide), up2_a (by decide)]
  unfold rtM
  rw [if_pos c]
  refine ⟨?_, ?_, fun i q hq => ?_⟩
  · rw [cpB_o (by decide) (by decide), up2_s, hn]
  · refine rowsOk_c ls 0 0 (fun j hj => ?_) hr
    rw [Nat.zero_add, hn] at hj
    constructor
    · unfold cpB
      rw [if_pos ⟨.inl rfl, by omega, by omega⟩, up2_a (by decide), cpA_o (by decide) (by decide), show 61 * p + j - 61 * p = j by omega, g95]
    · unfold cpB
      rw [if_pos ⟨.inr rfl, by omega, by omega⟩, up2_a (by decide), cpA_o (by decide) (by decide), show 61 * p + j - 61 * p = j by omega, g96]
  · have hi : i < (cdL ls).length := (List.getElem?_eq_some_iff.mp hq).1
    have e : rtm mu 92 (520 + i) = q.1 ∧ rtm mu 93 (520 + i) = q.2 := by
      unfold rtm pm
      simp only [Nat.reduceEqDiff, if_false, if_true, Nat.le_add_right, Nat.add_sub_cancel_left, hl, hq, and_self]
    constructor
    · rw [cpB_o (by decide) (by decide), up2_a (by decide)]
      unfold cpA
      rw [if_pos ⟨.inl rfl, by omega, by rw [hl]; omega⟩, show 130 * p + i - 130 * p = i by omega]
      exact e.1
    · rw [cpB_o (by decide) (by decide), up2_a (by decide)]
      unfold cpA
      rw [if_pos ⟨.inr rfl, by omega, by rw [hl]; omega⟩, show 130 * p + i - 130 * p = i by omega]
      exact e.2
theorem FlM_c {F : Nat} {ls : List Ln} (h1 : ∀ i, i < (cdL ls).length → mu' 92 (130 * F + i) = mu 92 (130 * F + i) ∧ mu' 93 (130 * F + i) = mu 93 (130 * F + i)) (h2 : mu' 94 F = mu 94 F) (h3 : ∀ i, i < ls.length → mu' 95 (61 * F + i) = mu 95 (61 * F + i) ∧ mu' 96 (61 * F + i) = mu 96 (61 * F + i)) (q : FlM mu F ls) : FlM mu' F ls := by
  obtain ⟨q1, q2, q3⟩ := q
  refine ⟨h2.trans q1, rowsOk_c ls 0 0 (fun j hj => h3 j (by omega)) q2, fun i c hc => ?_⟩
  have hi := (List.getElem?_eq_some_iff.mp hc).1
  exact ⟨(h1 i hi).1.trans (q3 i c hc).1, (h1 i hi).2.trans (q3 i c hc).2⟩
/-- both tapes alike, floors as many and worth the same -/
def RTF (mu : Mu) : Prop := RT mu ∧ ∃ F, F ≤ 4 ∧ mu 0 10 = nI F ∧ mu 81 29 = nI F ∧ RFs mu F
theorem fl_70 {c j : Nat} (f : frm wFl mu la ro mu' la' ro') (h : c < 70) : mu' c j = mu c j := by
  have q : ∀ k, wIn wFl c k = false := fun k => by
    cases e : wIn wFl c k with
    | false => rfl
    | true =>
      have := wIn_mem.mp e
      simp only [List.mem_cons, Prod.mk.injEq, List.not_mem_nil, or_false] at this
      omega
  exact f.1 c j (q 0) (q (j + 1))
set_option maxHeartbeats 2000000 in
theorem floor_all (hg : gOk ivG mu) (hr : rOk ro) (hj : JB mu la ro) (q : RTF mu) : ∃ (mu1 mu2 : Mu) (x : Int32), Rr X (d + 71) MTo_floor 0 [.ref 0, mkU] [] (Wd mu la ro et) = some (some (.int x), Wd mu1 la ro et) ∧ Rr X (d + 71) MRm_floor 0 [.ref 81, mkU] [] (Wd mu1 la ro et) = some (some (.int x), Wd mu2 la ro et) ∧ gOk ivG mu2 ∧ JB mu2 la ro ∧ RTF mu2 ∧ frm (wFlC ++ wFl) mu la ro mu2 la ro := by
  obtain ⟨hR, F, hF, h0, h29, hfs⟩ := q
  obtain ⟨mu1, e1, g1, f1, k1, k2⟩ := e_floorC (X := X) (d := d) (la := la) (et := et) hg hr hR hF h0
  have j1 : JB mu1 la ro := JS_B wFlC (by decide) _ _ _ _ _ _ f1 hj
  have m2 : mu1 81 2 = mu 81 2 := dis_f (a := 81) (k := 2) (w := wFlC) (D := [(81, 3)]) (by decide) f1 (by decide) (by decide)
  have m82 : ∀ j, mu1 82 j = mu 82 j := fun j => dis_r (a := 82) (k := j) (w := wFlC) (D := [(82, 0)]) (by decide) f1 (by decide) (by decide)
  have m29 : mu1 81 29 = nI F := (dis_f (a := 81) (k := 29) (w := wFlC) (D := [(81, 30)]) (by decide) f1 (by decide) (by decide)).trans h29
  have er : rtS mu1 = rtS mu := rtS_c (bt_f m2 m82) (Tt_f m2)
  have hT1 : tOK mu1 := g_tOK g1
  obtain ⟨a1, a2, a3⟩ := fl_key (la := la) (ro := ro) g1 j1.2.2
  have e2 := e_floor (X := X) (d := d + 17) (la := la) (ro := ro) (et := et) g1
  have n4 : (nI F = 4) = (F = 4) := propext (nI_eq (b := 4) (by omega) (by omega))
  have ex : flR mu1 = (if F = 4 then -3 else if noF (rtS mu) = true then nI F else -100 - fI' (rtS mu).2.1) := by
    unfold flR
    rw [m29, er]
    simp only [n4]
  rw [ex] at e2
  refine ⟨mu1, flM mu1, _, e1, e2, a2, ⟨JFm_f (by decide) a1 j1.1, JCh_f (by decide) a1 j1.2.1, a3⟩, ?_, frm_t (frm_s (by decide) f1) (frm_s (by decide) a1)⟩
  have u0 : ∀ c j, c < 70 → flM mu1 c j = mu1 c j := fun c j h => fl_70 a1 h
  by_cases c4 : F = 4
  · have ek := k1 c4
    subst ek
    have ef : flM mu1 = mu1 := by
      unfold flM
      rw [if_pos (by rw [m29, c4]; rfl)]
    rw [ef]
    exact ⟨hR, F, hF, h0, h29, hfs⟩
  · have hF4 : F < 4 := by omega
    obtain ⟨b1, b2, b3, b4⟩ := k2 hF4
    have cF : (nI F).toNatClampNeg = F := nI_clamp (by omega)
    have ef : flM mu1 = if noF (rtS mu) = true then up2 (rtM mu1 F) 81 29 (nI (F + 1)) else rtM mu1 F := by
      unfold flM
      rw [m29, if_neg (by rw [n4]; exact c4), er, cF, nI_1]
    obtain ⟨t1, t2, t3⟩ := rtM_lo (mu := mu1) hF4
    have t4 : flM mu1 81 2 = 0 := by
      rw [ef]
      split
      · rw [up2_k (by decide)]; exact rtM_2
      · exact rtM_2
    have w92 : ∀ c j, 82 ≤ c → flM mu1 c j = rtM mu1 F c j := fun c j h => by
      rw [ef]
      split
      · rw [up2_a (by omega)]
      · rfl
    have v92 : ∀ c j, 92 ≤ c → c ≤ 96 → mu1 c j = mu c j := fun c j h h' => by
      have : c = 92 ∨ c = 93 ∨ c = 94 ∨ c = 95 ∨ c = 96 := by omega
      rcases this with rfl | rfl | rfl | rfl | rfl
      · exact dis_r (w := wFlC) (D := [(92, 0)]) (by decide) f1 (by decide) (by decide)
      · exact dis_r (w := wFlC) (D := [(93, 0)]) (by decide) f1 (by decide) (by decide)
      · exact dis_r (w := wFlC) (D := [(94, 0)]) (by decide) f1 (by decide) (by decide)
      · exact dis_r (w := wFlC) (D := [(95, 0)]) (by decide) f1 (by decide) (by decide)
      · exact dis_r (w := wFlC) (D := [(96, 0)]) (by decide) f1 (by decide) (by decide)
    have old : RFs (flM mu1) F := fun f hf => by
      obtain ⟨ls, p1, ⟨p2, p3, p4⟩, p5, p6⟩ := hfs f hf
      refine ⟨ls, p1, ⟨p2, p3, p4⟩, FlC_c (fun c j h1 h2 => (u0 c j (by omega)).trans (b3 c j (by omega) (by omega))) p5, FlM_c (fun i hi => ?_) ?_ (fun i hi => ?_) p6⟩
      · rw [w92 92 _ (by omega), w92 93 _ (by omega), (t1 _ (by omega)).1, (t1 _ (by omega)).2, v92 92 _ (by omega) (by omega), v92 93 _ (by omega) (by omega)]
        exact ⟨rfl, rfl⟩
      · rw [w92 94 _ (by omega), t2 _ hf, v92 94 _ (by omega) (by omega)]
      · rw [w92 95 _ (by omega), w92 96 _ (by omega), (t3 _ (by omega)).1, (t3 _ (by omega)).2, v92 95 _ (by omega) (by omega), v92 96 _ (by omega) (by omega)]
        exact ⟨rfl, rfl⟩
    refine ⟨⟨0, by omega, (u0 1 1 (by omega)).trans b1, t4, fun i hi => absurd hi (by omega)⟩, ?_⟩
    have u10 := (u0 0 10 (by omega)).trans b2
    by_cases c : noF (rtS mu) = true
    · rw [if_pos c] at u10 ef
      obtain ⟨ls, p1, p2, p3, p4, p5⟩ := b4 c
      obtain ⟨p6, p7⟩ := p4 mu1 (bt_f m2 m82)
      have c1 : noF (rtS mu1) = true := by rw [er]; exact c
      have l61 := (LI_0 hT1).2.2.2.2.1
      have l120 := (rt_len hT1 c1).1
      refine ⟨F + 1, by omega, u10, by rw [ef]; exact up2_s _ _ _ _, fun f hf => ?_⟩
      by_cases q : f = F
      · subst q
        refine ⟨ls, p3, ⟨p1, by rw [← p2, ← er]; omega, by omega⟩, FlC_c (fun c j h1 h2 => u0 c j (by omega)) p5, ?_⟩
        have := rtM_new (mu := mu1) (ls := ls) hF4 c1 (by rw [er]; exact p2) p7 l61 p6
        exact FlM_c (fun i hi => ⟨w92 _ _ (by omega), w92 _ _ (by omega)⟩) (w92 _ _ (by omega)) (fun i hi => ⟨w92 _ _ (by omega), w92 _ _ (by omega)⟩) this
      · exact old f (by omega)
    · rw [if_neg c] at u10 ef
      have r29 : rtM mu1 F 81 29 = nI F := rtM_29.trans m29
      exact ⟨F, hF, u10, by rw [ef]; exact r29, old⟩
end
