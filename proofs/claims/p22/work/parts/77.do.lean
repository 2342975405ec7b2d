-- ===== the film, on both sides: frame, frames, cut exactly
section
variable {X : Tok} {d : Nat} {mu mu' : Mu} {la la' : La} {ro ro' : Ro} {et : Nat → Option va_E} {F : Nat} {t s : Nat → Int32} {a b : Int32}
noncomputable def latF (F : Nat) (t : Nat → Int32) : Int32 := if F = 0 then -1 else t (F - 1)
noncomputable def frOk (F : Nat) (t : Nat → Int32) (a b : Int32) : Bool := decide ((latF F t + 1 ≤ a ∧ a ≤ 400) ∧ (-9999 ≤ b ∧ b ≤ 9999))
def okF (F : Nat) (t : Nat → Int32) : Prop := ∀ i, i < F → 0 ≤ (t i).toInt ∧ (t i).toInt ≤ 400
def FC (mu : Mu) (F : Nat) (t s : Nat → Int32) : Prop := mu 11 2 = nI F ∧ ∀ i, i < F → mu 12 i = t i ∧ mu 13 i = s i
def FM (mu : Mu) (F : Nat) (t s : Nat → Int32) : Prop := mu 81 47 = nI F ∧ ∀ i, i < F → mu 102 i = t i ∧ mu 103 i = s i
/-- both sides have the same film -/
def RFm (mu : Mu) : Prop := ∃ F t s, F ≤ 40 ∧ okF F t ∧ FC mu F t s ∧ FM mu F t s
abbrev wFC : WS := [(11, 3), (12, 0), (13, 0)]
abbrev dFm : WS := [(11, 3), (12, 0), (13, 0), (81, 48), (102, 0), (103, 0)]
theorem FC_f {w : WS} (h : wDis w wFC = true) (f : frm w mu la ro mu' la' ro') (q : FC mu F t s) : FC mu' F t s :=
  ⟨(dis_f h f (by decide) (by decide)).trans q.1, fun i hi => ⟨(dis_r (a := 12) (k := i) h f (by decide) (by decide)).trans (q.2 i hi).1, (dis_r (a := 13) (k := i) h f (by decide) (by decide)).trans (q.2 i hi).2⟩⟩
theorem FM_f {w : WS} (h : wDis w wFr = true) (f : frm w mu la ro mu' la' ro') (q : FM mu F t s) : FM mu' F t s :=
  ⟨(dis_f h f (by decide) (by decide)).trans q.1, fun i hi => ⟨(dis_r (a := 102) (k := i) h f (by decide) (by decide)).trans (q.2 i hi).1, (dis_r (a := 103) (k := i) h f (by decide) (by decide)).trans (q.2 i hi).2⟩⟩
theorem RFm_f {w : WS} (h : wDis w dFm = true) (f : frm w mu la ro mu' la' ro') (q : RFm mu) : RFm mu' := by
  obtain ⟨F, t, s, h1, h2, h3, h4⟩ := q
  exact ⟨F, t, s, h1, h2, FC_f (wDis_s (by decide) h) f h3, FM_f (wDis_s (by decide) h) f h4⟩
theorem lat_b (ok : okF F t) : -1 ≤ (latF F t).toInt ∧ (latF F t).toInt ≤ 400 := by
  unfold latF
  split
  · decide
  · have := ok (F - 1) (by omega)
    omega
theorem lat_iff {lat : Int32} (h : -1 ≤ lat.toInt ∧ lat.toInt ≤ 400) : (lat + 1 ≤ a ∧ a ≤ 400) ↔ (¬ a ≤ lat ∧ (0 ≤ a ∧ a ≤ 400)) := by
  have e : (lat + 1).toInt = lat.toInt + 1 := by
    rw [Int32.toInt_add, show (1 : Int32).toInt = 1 from rfl]
    exact Int.bmod_eq_of_le (by omega) (by omega)
  have e0 : (0 : Int32).toInt = 0 := rfl
  have e4 : (400 : Int32).toInt = 400 := rfl
  simp only [Int32.le_iff_toInt_le, e, e0, e4]
  omega
theorem e_mayCome (hF : F ≤ 40) (ok : okF F t) (h : FC mu F t s) : Rr X (d + 1) MFi_mayCome 0 [.ref 11, .int a, .int b, mkU] [] (Wd mu la ro et) = some (some (.int (if frOk F t a b = true then 1 else 0)), Wd mu la ro et) := by
  have e1 : Rr X (d + 1) MFi_mayCome 0 [.ref 11, .int a, .int b, mkU] [] (Wd mu la ro et) = Rr X (d + 1) MFi_mayCome 31 [.ref 11, .int a, .int b, mkU] [.int (latF F t)] (Wd mu la ro et) := by
    unfold latF
    rcases Nat.eq_zero_or_pos F with rfl | hp
    · have h1 : mu 11 2 = 0 := h.1
      have z : (0 : Int32) ≤ 0 := by decide
      rw [if_pos rfl]
      simp only [r_MFi_mayCome_0, r_MFi_mayCome_1, r_MFi_mayCome_4, r_MFi_mayCome_7, r_MFi_mayCome_8, r_MFi_mayCome_11, r_MFi_mayCome_13, r_MFi_mayCome_16, r_MFi_mayCome_17, r_MFi_mayCome_20, r_MFi_mayCome_21, r_MFi_mayCome_24, r_MFi_mayCome_25, r_MFi_mayCome_26, r_MFi_mayCome_27, r_MFi_mayCome_30, sL_0, sL_1, sL_2, mk_i, mk_r, mk_f, mk_n, mk_u, mk_l, List.set_cons_succ, List.set_cons_zero, Nat.reduceAdd, ckS_0, ckS_1, ckS_2, ckS_3, ckS_4, Option.bind_some, Option.isSome_some, psh, if_true, if_false, i10, not_true_eq_false, not_false_eq_true, Bool.false_eq_true, and_self, and_true, true_and, eq_self, qI_11_2, qR_11_0, qRd_11_0, qR_11_1, qRd_11_1, qA_12, qAd_12, qO_11, qL_12, qLd_12, h1, z]
    · obtain ⟨G, rfl⟩ : ∃ G, F = G + 1 := ⟨F - 1, by omega⟩
      have h1 : ¬ nI (G + 1) ≤ 0 := nI_nle (by omega) (by omega)
      have h2 : ¬ 40 < nI (G + 1) := nI_nlt (a := 40) (b := G + 1) (by omega) (by omega)
      have cG : (nI G).toNatClampNeg = G := nI_clamp (by omega)
      have iG := ix (j := G) (N := 40) (by omega) (by decide)
      have hl := (h.2 G (by omega)).1
      rw [if_neg (by omega)]
      simp only [r_MFi_mayCome_0, r_MFi_mayCome_1, r_MFi_mayCome_4, r_MFi_mayCome_7, r_MFi_mayCome_8, r_MFi_mayCome_11, r_MFi_mayCome_13, r_MFi_mayCome_16, r_MFi_mayCome_17, r_MFi_mayCome_20, r_MFi_mayCome_21, r_MFi_mayCome_24, r_MFi_mayCome_25, r_MFi_mayCome_26, r_MFi_mayCome_27, r_MFi_mayCome_30, sL_0, sL_1, sL_2, mk_i, mk_r, mk_f, mk_n, mk_u, mk_l, List.set_cons_succ, List.set_cons_zero, Nat.reduceAdd, ckS_0, ckS_1, ckS_2, ckS_3, ckS_4, Option.bind_some, Option.isSome_some, psh, if_true, if_false, i10, not_true_eq_false, not_false_eq_true, Bool.false_eq_true, and_self, and_true, true_and, eq_self, qI_11_2, qR_11_0, qRd_11_0, qR_11_1, qRd_11_1, qA_12, qAd_12, qO_11, qL_12, qLd_12, h.1, h1, h2, nI_pred, cG, iG, hl, Nat.add_sub_cancel]
  rw [e1]
  have hl := lat_iff (a := a) (lat_b ok)
  by_cases c : frOk F t a b = true
  · have q := of_decide_eq_true c
    obtain ⟨q1, q2⟩ := hl.mp q.1
    have q3 := q.2
    rw [if_pos c]
    simp only [r_MFi_mayCome_31, r_MFi_mayCome_32, r_MFi_mayCome_33, r_MFi_mayCome_34, r_MFi_mayCome_37, r_MFi_mayCome_38, r_MFi_mayCome_39, r_MFi_mayCome_42, r_MFi_mayCome_45, r_MFi_mayCome_48, r_MFi_mayCome_49, r_MFi_mayCome_52, r_MFi_mayCome_55, r_MFi_mayCome_58, r_MFi_mayCome_61, r_MFi_mayCome_62, r_MFi_mayCome_65, r_MFi_mayCome_66, sL_0, sL_1, sL_2, mk_i, mk_r, mk_f, mk_n, mk_u, mk_l, List.set_cons_succ, List.set_cons_zero, Nat.reduceAdd, ckS_0, ckS_1, ckS_2, ckS_3, ckS_4, Option.bind_some, Option.isSome_some, psh, if_true, if_false, i10, not_true_eq_false, not_false_eq_true, Bool.false_eq_true, and_self, and_true, true_and, eq_self, e_isWithin, q1, q2, q3, or_true]
  · rw [if_neg c]
    by_cases c1 : a ≤ latF F t
    · simp only [r_MFi_mayCome_31, r_MFi_mayCome_32, r_MFi_mayCome_33, r_MFi_mayCome_34, r_MFi_mayCome_37, r_MFi_mayCome_38, r_MFi_mayCome_39, r_MFi_mayCome_42, r_MFi_mayCome_45, r_MFi_mayCome_48, r_MFi_mayCome_49, r_MFi_mayCome_52, r_MFi_mayCome_55, r_MFi_mayCome_58, r_MFi_mayCome_61, r_MFi_mayCome_62, r_MFi_mayCome_65, r_MFi_mayCome_66, sL_0, sL_1, sL_2, mk_i, mk_r, mk_f, mk_n, mk_u, mk_l, List.set_cons_succ, List.set_cons_zero, Nat.reduceAdd, ckS_0, ckS_1, ckS_2, ckS_3, ckS_4, Option.bind_some, Option.isSome_some, psh, if_true, if_false, i10, not_true_eq_false, not_false_eq_true, Bool.false_eq_true, and_self, and_true, true_and, eq_self, c1, true_or]
    · by_cases c2 : 0 ≤ a ∧ a ≤ 400
      · have c3 : ¬ (-9999 ≤ b ∧ b ≤ 9999) := fun q => c (decide_eq_true ⟨hl.mpr ⟨c1, c2⟩, q⟩)
        simp only [r_MFi_mayCome_31, r_MFi_mayCome_32, r_MFi_mayCome_33, r_MFi_mayCome_34, r_MFi_mayCome_37, r_MFi_mayCome_38, r_MFi_mayCome_39, r_MFi_mayCome_42, r_MFi_mayCome_45, r_MFi_mayCome_48, r_MFi_mayCome_49, r_MFi_mayCome_52, r_MFi_mayCome_55, r_MFi_mayCome_58, r_MFi_mayCome_61, r_MFi_mayCome_62, r_MFi_mayCome_65, r_MFi_mayCome_66, sL_0, sL_1, sL_2, mk_i, mk_r, mk_f, mk_n, mk_u, mk_l, List.set_cons_succ, List.set_cons_zero, Nat.reduceAdd, ckS_0, ckS_1, ckS_2, ckS_3, ckS_4, Option.bind_some, Option.isSome_some, psh, if_true, if_false, i10, not_true_eq_false, not_false_eq_true, Bool.false_eq_true, and_self, and_true, true_and, eq_self, e_isWithin, c1, c2, c3, true_or]
      · simp only [r_MFi_mayCome_31, r_MFi_mayCome_32, r_MFi_mayCome_33, r_MFi_mayCome_34, r_MFi_mayCome_37, r_MFi_mayCome_38, r_MFi_mayCome_39, r_MFi_mayCome_42, r_MFi_mayCome_45, r_MFi_mayCome_48, r_MFi_mayCome_49, r_MFi_mayCome_52, r_MFi_mayCome_55, r_MFi_mayCome_58, r_MFi_mayCome_61, r_MFi_mayCome_62, r_MFi_mayCome_65, r_MFi_mayCome_66, sL_0, sL_1, sL_2, mk_i, mk_r, mk_f, mk_n, mk_u, mk_l, List.set_cons_succ, List.set_cons_zero, Nat.reduceAdd, ckS_0, ckS_1, ckS_2, ckS_3, ckS_4, Option.bind_some, Option.isSome_some, psh, if_true, if_false, i10, not_true_eq_false, not_false_eq_true, Bool.false_eq_true, and_self, and_true, true_and, eq_self, e_isWithin, c1, c2, true_or]
noncomputable def adC (mu : Mu) (F : Nat) (a b : Int32) : Mu := up2 (up2 (up2 mu 12 F a) 13 F b) 11 2 (nI (F + 1))
theorem adC_fr : frm wFC mu la ro (adC mu F a b) la ro := frm_t (frm_t (frm_up (k := F) (.inl (by decide))) (frm_up (k := F) (.inl (by decide)))) (frm_up (k := 2) (.inr (by decide)))
theorem adC_g (hg : gOk ivG mu) : gOk ivG (adC mu F a b) := gOk_up (gOk_r (gOk_r hg (by decide) (top_ok _)) (by decide) (top_ok _)) (top_ok _) (top_ok _)
noncomputable def upN (t : Nat → Int32) (F : Nat) (a : Int32) : Nat → Int32 := fun i => if i = F then a else t i
theorem adC_FC (h : FC mu F t s) : FC (adC mu F a b) (F + 1) (upN t F a) (upN s F b) := by
  refine ⟨up2_s _ _ _ _, fun i hi => ?_⟩
  have e1 : adC mu F a b 12 i = if i = F then a else mu 12 i := by
    unfold adC
    rw [up2_e, if_neg (by omega), up2_e, if_neg (by omega), up2_e]
    simp
  have e2 : adC mu F a b 13 i = if i = F then b else mu 13 i := by
    unfold adC
    rw [up2_e, if_neg (by omega), up2_e]
    by_cases c : i = F
    · rw [if_pos ⟨rfl, c⟩, if_pos c]
    · rw [if_neg (fun q => c q.2), if_neg c, up2_e, if_neg (by omega)]
  rw [e1, e2]
  unfold upN
  by_cases c : i = F
  · rw [if_pos c, if_pos c, if_pos c, if_pos c]
    exact ⟨rfl, rfl⟩
  · rw [if_neg c, if_neg c, if_neg c, if_neg c]
    exact h.2 i (by omega)
theorem adF_FM (hF : F < 40) (h : FM mu F t s) : FM (addF mu a b) (F + 1) (upN t F a) (upN s F b) := by
  have cF : (mu 81 47).toNatClampNeg = F := by rw [h.1]; exact nI_clamp (by omega)
  refine ⟨?_, fun i hi => ?_⟩
  · unfold addF
    rw [up2_s, h.1, nI_1]
  have e1 : addF mu a b 102 i = if i = F then a else mu 102 i := by
    unfold addF
    rw [cF, up2_e, if_neg (by omega), up2_e, if_neg (by omega), up2_e]
    simp
  have e2 : addF mu a b 103 i = if i = F then b else mu 103 i := by
    unfold addF
    rw [cF, up2_e, if_neg (by omega), up2_e]
    by_cases c : i = F
    · rw [if_pos ⟨rfl, c⟩, if_pos c]
    · rw [if_neg (fun q => c q.2), if_neg c, up2_e, if_neg (by omega)]
  rw [e1, e2]
  unfold upN
  by_cases c : i = F
  · rw [if_pos c, if_pos c, if_pos c, if_pos c]
    exact ⟨rfl, rfl⟩
  · rw [if_neg c, if_neg c, if_neg c, if_neg c]
    exact h.2 i (by omega)
theorem okF_a (ok : okF F t) (h : frOk F t a b = true) : okF (F + 1) (upN t F a) := by
  intro i hi
  unfold upN
  by_cases c : i = F
  · rw [if_pos c]
    have q := (lat_iff (a := a) (lat_b ok)).mp (of_decide_eq_true h).1
    have q2 := q.2
    simp only [Int32.le_iff_toInt_le, show (0 : Int32).toInt = 0 from rfl, show (400 : Int32).toInt = 400 from rfl] at q2
    exact q2
  · rw [if_neg c]
    exact ok i (by omega)
theorem isFr_eq (hF : F ≤ 40) (h : FM mu F t s) : isFr mu a b = frOk F t a b := by
  unfold isFr frOk lowT latF
  rw [h.1]
  rcases Nat.eq_zero_or_pos F with rfl | hp
  · rw [if_pos nI_0, if_pos rfl, show (-1 : Int32) + 1 = 0 from rfl]
  · obtain ⟨G, rfl⟩ : ∃ G, F = G + 1 := ⟨F - 1, by omega⟩
    rw [if_neg (nI_ne0 (by omega) (by omega)), if_neg (by omega), nI_pred, nI_clamp (by omega), (h.2 G (by omega)).1, Nat.add_sub_cancel]
theorem e_appendC (hF : F ≤ 40) (h : FC mu F t s) : Rr X d MFi_append 0 [.ref 11, .int a, .int b] [] (Wd mu la ro et) = some (some (.int (if F < 40 then 1 else 0)), Wd (if F < 40 then adC mu F a b else mu) la ro et) := by
  have h1 : ¬ nI F < 0 := nI_pos (by omega)
  have cF : (nI F).toNatClampNeg = F := nI_clamp (by omega)
  by_cases c : F < 40
  · have h2 : nI F < 40 := nI_lt (a := F) (b := 40) c (by omega)
    have c6 : ¬ 40 ≤ F := by omega
    have e1 : up2 mu 12 F a 11 2 = nI F := h.1
    have e2 : up2 (up2 mu 12 F a) 13 F b 11 2 = nI F := h.1
    rw [if_pos c, if_pos c]
    simp only [r_MFi_append_0, r_MFi_append_1, r_MFi_append_4, r_MFi_append_7, r_MFi_append_8, r_MFi_append_11, r_MFi_append_13, r_MFi_append_16, r_MFi_append_17, r_MFi_append_18, r_MFi_append_19, r_MFi_append_22, r_MFi_append_23, r_MFi_append_26, r_MFi_append_27, r_MFi_append_28, r_MFi_append_29, r_MFi_append_32, r_MFi_append_33, r_MFi_append_36, r_MFi_append_37, r_MFi_append_38, r_MFi_append_39, r_MFi_append_39i, r_MFi_append_40, r_MFi_append_43, r_MFi_append_44, r_MFi_append_45, r_MFi_append_48, r_MFi_append_49, sL_0, sL_1, sL_2, mk_i, mk_r, mk_f, mk_n, mk_u, mk_l, List.set_cons_succ, List.set_cons_zero, Nat.reduceAdd, ckS_0, ckS_1, ckS_2, ckS_3, ckS_4, Option.bind_some, Option.isSome_some, psh, if_true, if_false, i10, not_true_eq_false, not_false_eq_true, Bool.false_eq_true, and_self, and_true, true_and, eq_self, qI_11_2, qR_11_0, qRd_11_0, qR_11_1, qRd_11_1, qA_12, qAd_12, qA_13, qAd_13, qO_11, qL_12, qLd_12, qL_13, qLd_13, h.1, e1, e2, h1, h2, cF, c6, nI_1, or_true, or_self]
    rfl
  · have h2 : ¬ nI F < 40 := nI_nlt (a := F) (b := 40) (by omega) (by omega)
    rw [if_neg c, if_neg c]
    simp only [r_MFi_append_0, r_MFi_append_1, r_MFi_append_4, r_MFi_append_7, r_MFi_append_8, r_MFi_append_11, r_MFi_append_13, r_MFi_append_16, r_MFi_append_17, r_MFi_append_18, r_MFi_append_19, r_MFi_append_22, r_MFi_append_23, r_MFi_append_26, r_MFi_append_27, r_MFi_append_28, r_MFi_append_29, r_MFi_append_32, r_MFi_append_33, r_MFi_append_36, r_MFi_append_37, r_MFi_append_38, r_MFi_append_39, r_MFi_append_39i, r_MFi_append_40, r_MFi_append_43, r_MFi_append_44, r_MFi_append_45, r_MFi_append_48, r_MFi_append_49, sL_0, sL_1, sL_2, mk_i, mk_r, mk_f, mk_n, mk_u, mk_l, List.set_cons_succ, List.set_cons_zero, Nat.reduceAdd, ckS_0, ckS_1, ckS_2, ckS_3, ckS_4, Option.bind_some, Option.isSome_some, psh, if_true, if_false, i10, not_true_eq_false, not_false_eq_true, Bool.false_eq_true, and_self, and_true, true_and, eq_self, qI_11_2, qR_11_0, qRd_11_0, qR_11_1, qRd_11_1, qA_12, qAd_12, qA_13, qAd_13, qO_11, qL_12, qLd_12, qL_13, qLd_13, h.1, h1, h2, true_or]
noncomputable def frR (F : Nat) (t : Nat → Int32) (a b : Int32) : Int32 := if frOk F t a b = true then (if F < 40 then nI F else -3) else -1
noncomputable def frC (mu : Mu) (F : Nat) (t : Nat → Int32) (a b : Int32) : Mu := if frOk F t a b = true then (if F < 40 then adC mu F a b else mu) else mu
noncomputable def frM (mu : Mu) (F : Nat) (t : Nat → Int32) (a b : Int32) : Mu := if frOk F t a b = true then (if F < 40 then addF mu a b else mu) else mu
theorem e_frameC (hF : F ≤ 40) (ok : okF F t) (h : FC mu F t s) : Rr X (d + 2) MTo_frame 0 [.ref 0, .int a, .int b] [] (Wd mu la ro et) = some (some (.int (frR F t a b)), Wd (frC mu F t a b) la ro et) := by
  have e1 := e_mayCome (X := X) (d := d) (la := la) (ro := ro) (et := et) (a := a) (b := b) hF ok h
  have e2 := e_appendC (X := X) (d := d + 1) (la := la) (ro := ro) (et := et) (a := a) (b := b) hF h
  unfold frR frC
  by_cases c1 : frOk F t a b = true
  · by_cases c2 : F < 40
    · have e3 : adC mu F a b 11 2 = nI (F + 1) := up2_s _ _ _ _
      simp only [c2, if_true] at e2
      simp only [r_MTo_frame_0, r_MTo_frame_1, r_MTo_frame_4, r_MTo_frame_5, r_MTo_frame_6, r_MTo_frame_9, r_MTo_frame_12, r_MTo_frame_13, r_MTo_frame_14, r_MTo_frame_15, r_MTo_frame_18, r_MTo_frame_19, r_MTo_frame_20, r_MTo_frame_23, r_MTo_frame_26, r_MTo_frame_27, r_MTo_frame_30, r_MTo_frame_33, r_MTo_frame_34, r_MTo_frame_35, r_MTo_frame_38, r_MTo_frame_40, sL_0, sL_1, sL_2, mk_i, mk_r, mk_f, mk_n, mk_u, mk_l, List.set_cons_succ, List.set_cons_zero, Nat.reduceAdd, ckS_0, ckS_1, ckS_2, ckS_3, ckS_4, Option.bind_some, Option.isSome_some, psh, if_true, if_false, i10, not_true_eq_false, not_false_eq_true, Bool.false_eq_true, and_self, and_true, true_and, eq_self, qI_0_9, qI_0_10, qI_11_2, qR_0_0, qRd_0_0, qR_0_1, qRd_0_1, qR_0_2, qRd_0_2, qR_0_3, qRd_0_3, qR_0_4, qRd_0_4, qR_0_5, qRd_0_5, qR_0_6, qRd_0_6, qR_0_7, qRd_0_7, qR_0_8, qRd_0_8, qR_11_0, qRd_11_0, qR_11_1, qRd_11_1, qO_0, qO_11, e1, e2, e3, c1, c2, nI_pred]
    · simp only [c2, if_false] at e2
      simp only [r_MTo_frame_0, r_MTo_frame_1, r_MTo_frame_4, r_MTo_frame_5, r_MTo_frame_6, r_MTo_frame_9, r_MTo_frame_12, r_MTo_frame_13, r_MTo_frame_14, r_MTo_frame_15, r_MTo_frame_18, r_MTo_frame_19, r_MTo_frame_20, r_MTo_frame_23, r_MTo_frame_26, r_MTo_frame_27, r_MTo_frame_30, r_MTo_frame_33, r_MTo_frame_34, r_MTo_frame_35, r_MTo_frame_38, r_MTo_frame_40, sL_0, sL_1, sL_2, mk_i, mk_r, mk_f, mk_n, mk_u, mk_l, List.set_cons_succ, List.set_cons_zero, Nat.reduceAdd, ckS_0, ckS_1, ckS_2, ckS_3, ckS_4, Option.bind_some, Option.isSome_some, psh, if_true, if_false, i10, not_true_eq_false, not_false_eq_true, Bool.false_eq_true, and_self, and_true, true_and, eq_self, qI_0_9, qI_0_10, qI_11_2, qR_0_0, qRd_0_0, qR_0_1, qRd_0_1, qR_0_2, qRd_0_2, qR_0_3, qRd_0_3, qR_0_4, qRd_0_4, qR_0_5, qRd_0_5, qR_0_6, qRd_0_6, qR_0_7, qRd_0_7, qR_0_8, qRd_0_8, qR_11_0, qRd_11_0, qR_11_1, qRd_11_1, qO_0, qO_11, e1, e2, c1, c2]
  · simp only [r_MTo_frame_0, r_MTo_frame_1, r_MTo_frame_4, r_MTo_frame_5, r_MTo_frame_6, r_MTo_frame_9, r_MTo_frame_12, r_MTo_frame_13, r_MTo_frame_14, r_MTo_frame_15, r_MTo_frame_18, r_MTo_frame_19, r_MTo_frame_20, r_MTo_frame_23, r_MTo_frame_26, r_MTo_frame_27, r_MTo_frame_30, r_MTo_frame_33, r_MTo_frame_34, r_MTo_frame_35, r_MTo_frame_38, r_MTo_frame_40, sL_0, sL_1, sL_2, mk_i, mk_r, mk_f, mk_n, mk_u, mk_l, List.set_cons_succ, List.set_cons_zero, Nat.reduceAdd, ckS_0, ckS_1, ckS_2, ckS_3, ckS_4, Option.bind_some, Option.isSome_some, psh, if_true, if_false, i10, not_true_eq_false, not_false_eq_true, Bool.false_eq_true, and_self, and_true, true_and, eq_self, qI_0_9, qI_0_10, qI_11_2, qR_0_0, qRd_0_0, qR_0_1, qRd_0_1, qR_0_2, qRd_0_2, qR_0_3, qRd_0_3, qR_0_4, qRd_0_4, qR_0_5, qRd_0_5, qR_0_6, qRd_0_6, qR_0_7, qRd_0_7, qR_0_8, qRd_0_8, qR_11_0, qRd_11_0, qR_11_1, qRd_11_1, qO_0, qO_11, e1, c1]
theorem e_frameM (hF : F ≤ 40) (h : FM mu F t s) : Rr X (d + 2) MRm_frame 0 [.ref 81, .int a, .int b] [] (Wd mu la ro et) = some (some (.int (frR F t a b)), Wd (frM mu F t a b) la ro et) := by
  have e1 := e_isFrame (X := X) (d := d) (la := la) (ro := ro) (et := et) (t := a) (s := b) (fr_idx h.1 hF)
  rw [isFr_eq hF h] at e1
  unfold frR frM
  by_cases c1 : frOk F t a b = true
  · by_cases c2 : F < 40
    · have h3 : ¬ nI F = 40 := fun q => absurd ((nI_eq (b := 40) (by omega) (by omega)).mp q) (by omega)
      have h4 : ¬ (mu 81 47 < 0 ∨ 40 ≤ (mu 81 47).toNatClampNeg) := by rw [h.1]; exact nI_in c2 (by decide)
      have e2 := e_addFrame (X := X) (d := d) (la := la) (ro := ro) (et := et) (t := a) (s := b) h4
      have e3 : addF mu a b 81 47 = nI (F + 1) := by
        unfold addF
        rw [up2_s, h.1, nI_1]
      simp only [r_MRm_frame_0, r_MRm_frame_1, r_MRm_frame_2, r_MRm_frame_3, r_MRm_frame_6, r_MRm_frame_9, r_MRm_frame_10, r_MRm_frame_11, r_MRm_frame_12, r_MRm_frame_15, r_MRm_frame_17, r_MRm_frame_20, r_MRm_frame_22, r_MRm_frame_23, r_MRm_frame_24, r_MRm_frame_25, r_MRm_frame_26, r_MRm_frame_29, r_MRm_frame_30, r_MRm_frame_33, r_MRm_frame_34, r_MRm_frame_35, sL_0, sL_1, sL_2, mk_i, mk_r, mk_f, mk_n, mk_u, mk_l, List.set_cons_succ, List.set_cons_zero, Nat.reduceAdd, ckS_0, ckS_1, ckS_2, ckS_3, ckS_4, Option.bind_some, Option.isSome_some, psh, if_true, if_false, i10, not_true_eq_false, not_false_eq_true, Bool.false_eq_true, and_self, and_true, true_and, eq_self, qI_81_0, qI_81_2, qI_81_3, qI_81_9, qI_81_10, qI_81_11, qI_81_12, qI_81_13, qI_81_18, qI_81_19, qI_81_20, qI_81_21, qI_81_29, qI_81_30, qI_81_31, qI_81_32, qI_81_33, qI_81_34, qI_81_35, qI_81_39, qI_81_40, qI_81_41, qI_81_42, qI_81_43, qI_81_44, qI_81_45, qI_81_46, qI_81_47, qI_81_51, qI_81_53, qR_81_1, qRd_81_1, qR_81_4, qRd_81_4, qR_81_5, qRd_81_5, qR_81_6, qRd_81_6, qR_81_7, qRd_81_7, qR_81_8, qRd_81_8, qR_81_14, qRd_81_14, qR_81_15, qRd_81_15, qR_81_16, qRd_81_16, qR_81_17, qRd_81_17, qR_81_22, qRd_81_22, qR_81_23, qRd_81_23, qR_81_24, qRd_81_24, qR_81_25, qRd_81_25, qR_81_26, qRd_81_26, qR_81_27, qRd_81_27, qR_81_28, qRd_81_28, qR_81_36, qRd_81_36, qR_81_37, qRd_81_37, qR_81_38, qRd_81_38, qR_81_48, qRd_81_48, qR_81_49, qRd_81_49, qR_81_50, qRd_81_50, qR_81_52, qRd_81_52, qR_81_54, qRd_81_54, qR_81_55, qRd_81_55, qR_81_56, qRd_81_56, qR_81_57, qRd_81_57, qR_81_58, qRd_81_58, qO_81, e1, e2, e3, h.1, h3, c1, c2, nI_pred]
    · have h3 : nI F = 40 := by rw [show F = 40 by omega]; rfl
      simp only [r_MRm_frame_0, r_MRm_frame_1, r_MRm_frame_2, r_MRm_frame_3, r_MRm_frame_6, r_MRm_frame_9, r_MRm_frame_10, r_MRm_frame_11, r_MRm_frame_12, r_MRm_frame_15, r_MRm_frame_17, r_MRm_frame_20, r_MRm_frame_22, r_MRm_frame_23, r_MRm_frame_24, r_MRm_frame_25, r_MRm_frame_26, r_MRm_frame_29, r_MRm_frame_30, r_MRm_frame_33, r_MRm_frame_34, r_MRm_frame_35, sL_0, sL_1, sL_2, mk_i, mk_r, mk_f, mk_n, mk_u, mk_l, List.set_cons_succ, List.set_cons_zero, Nat.reduceAdd, ckS_0, ckS_1, ckS_2, ckS_3, ckS_4, Option.bind_some, Option.isSome_some, psh, if_true, if_false, i10, not_true_eq_false, not_false_eq_true, Bool.false_eq_true, and_self, and_true, true_and, eq_self, qI_81_0, qI_81_2, qI_81_3, qI_81_9, qI_81_10, qI_81_11, qI_81_12, qI_81_13, qI_81_18, qI_81_19, qI_81_20, qI_81_21, qI_81_29, qI_81_30, qI_81_31, qI_81_32, qI_81_33, qI_81_34, qI_81_35, qI_81_39, qI_81_40, qI_81_41, qI_81_42, qI_81_43, qI_81_44, qI_81_45, qI_81_46, qI_81_47, qI_81_51, qI_81_53, qR_81_1, qRd_81_1, qR_81_4, qRd_81_4, qR_81_5, qRd_81_5, qR_81_6, qRd_81_6, qR_81_7, qRd_81_7, qR_81_8, qRd_81_8, qR_81_14, qRd_81_14, qR_81_15, qRd_81_15, qR_81_16, qRd_81_16, qR_81_17, qRd_81_17, qR_81_22, qRd_81_22, qR_81_23, qRd_81_23, qR_81_24, qRd_81_24, qR_81_25, qRd_81_25, qR_81_26, qRd_81_26, qR_81_27, qRd_81_27, qR_81_28, qRd_81_28, qR_81_36, qRd_81_36, qR_81_37, qRd_81_37, qR_81_38, qRd_81_38, qR_81_48, qRd_81_48, qR_81_49, qRd_81_49, qR_81_50, qRd_81_50, qR_81_52, qRd_81_52, qR_81_54, qRd_81_54, qR_81_55, qRd_81_55, qR_81_56, qRd_81_56, qR_81_57, qRd_81_57, qR_81_58, qRd_81_58, qO_81, e1, h.1, h3, c1, c2]
  · simp only [r_MRm_frame_0, r_MRm_frame_1, r_MRm_frame_2, r_MRm_frame_3, r_MRm_frame_6, r_MRm_frame_9, r_MRm_frame_10, r_MRm_frame_11, r_MRm_frame_12, r_MRm_frame_15, r_MRm_frame_17, r_MRm_frame_20, r_MRm_frame_22, r_MRm_frame_23, r_MRm_frame_24, r_MRm_frame_25, r_MRm_frame_26, r_MRm_frame_29, r_MRm_frame_30, r_MRm_frame_33, r_MRm_frame_34, r_MRm_frame_35, sL_0, sL_1, sL_2, mk_i, mk_r, mk_f, mk_n, mk_u, mk_l, List.set_cons_succ, List.set_cons_zero, Nat.reduceAdd, ckS_0, ckS_1, ckS_2, ckS_3, ckS_4, Option.bind_some, Option.isSome_some, psh, if_true, if_false, i10, not_true_eq_false, not_false_eq_true, Bool.false_eq_true, and_self, and_true, true_and, eq_self, qI_81_0, qI_81_2, qI_81_3, qI_81_9, qI_81_10, qI_81_11, qI_81_12, qI_81_13, qI_81_18, qI_81_19, qI_81_20, qI_81_21, qI_81_29, qI_81_30, qI_81_31, qI_81_32, qI_81_33, qI_81_34, qI_81_35, qI_81_39, qI_81_40, qI_81_41, qI_81_42, qI_81_43, qI_81_44, qI_81_45, qI_81_46, qI_81_47, qI_81_51, qI_81_53, qR_81_1, qRd_81_1, qR_81_4, qRd_81_4, qR_81_5, qRd_81_5, qR_81_6, qRd_81_6, qR_81_7, qRd_81_7, qR_81_8, qRd_81_8, qR_81_14, qRd_81_14, qR_81_15, qRd_81_15, qR_81_16, qRd_81_16, qR_81_17, qRd_81_17, qR_81_22, qRd_81_22, qR_81_23, qRd_81_23, qR_81_24, qRd_81_24, qR_81_25, qRd_81_25, qR_81_26, qRd_81_26, qR_81_27, qRd_81_27, qR_81_28, qRd_81_28, qR_81_36, qRd_81_36, qR_81_37, qRd_81_37, qR_81_38, qRd_81_38, qR_81_48, qRd_81_48, qR_81_49, qRd_81_49, qR_81_50, qRd_81_50, qR_81_52, qRd_81_52, qR_81_54, qRd_81_54, qR_81_55, qRd_81_55, qR_81_56, qRd_81_56, qR_81_57, qRd_81_57, qR_81_58, qRd_81_58, qO_81, e1, c1]
theorem wk_C (f : frm wFC mu la ro mu' la' ro') : frm dFm mu la ro mu' la' ro' := frm_s (by decide) f
theorem wk_M (f : frm wFr mu la ro mu' la' ro') : frm dFm mu la ro mu' la' ro' := frm_s (by decide) f
theorem frame_all (hg : gOk ivG mu) (hj : JB mu la ro) (q : RFm mu) : ∃ (mu1 mu2 : Mu) (x : Int32), Rr X (d + 2) MTo_frame 0 [.ref 0, .int a, .int b] [] (Wd mu la ro et) = some (some (.int x), Wd mu1 la ro et) ∧ Rr X (d + 2) MRm_frame 0 [.ref 81, .int a, .int b] [] (Wd mu1 la ro et) = some (some (.int x), Wd mu2 la ro et) ∧ gOk ivG mu2 ∧ JB mu2 la ro ∧ RFm mu2 ∧ frm dFm mu la ro mu2 la ro := by
  obtain ⟨F, t, s, hF, ok, hC, hM⟩ := q
  have f1 : frm wFC mu la ro (frC mu F t a b) la ro := by
    unfold frC
    split
    · split
      · exact adC_fr
      · exact frm_r _ _ _ _
    · exact frm_r _ _ _ _
  have g1 : gOk ivG (frC mu F t a b) := by
    unfold frC
    split
    · split
      · exact adC_g hg
      · exact hg
    · exact hg
  have j1 : JB (frC mu F t a b) la ro := JS_B wFC (by decide) _ _ _ _ _ _ f1 hj
  have hM1 : FM (frC mu F t a b) F t s := FM_f (by decide) f1 hM
  refine ⟨frC mu F t a b, frM (frC mu F t a b) F t a b, frR F t a b, e_frameC hF ok hC, e_frameM hF hM1, ?_⟩
  by_cases c1 : frOk F t a b = true
  · by_cases c2 : F < 40
    · have e1 : frC mu F t a b = adC mu F a b := by unfold frC; rw [if_pos c1, if_pos c2]
      rw [e1] at f1 g1 j1 hM1
      have e2 : frM (frC mu F t a b) F t a b = addF (adC mu F a b) a b := by unfold frM; rw [if_pos c1, if_pos c2, e1]
      have f2 := frm_addF (mu := adC mu F a b) (la := la) (ro := ro) (t := a) (s := b)
      rw [e2]
      exact ⟨gOk_addF g1 hM1.1 c2, JB_fr j1 f2 (JFm_addF j1.1 hM1.1 c2 ((isFr_eq hF hM1).trans c1)), ⟨F + 1, upN t F a, upN s F b, c2, okF_a ok c1, FC_f (by decide) f2 (adC_FC hC), adF_FM c2 hM1⟩, frm_t (wk_C f1) (wk_M f2)⟩
    · have e1 : frC mu F t a b = mu := by unfold frC; rw [if_pos c1, if_neg c2]
      have e2 : frM (frC mu F t a b) F t a b = mu := by unfold frM; rw [if_pos c1, if_neg c2, e1]
      rw [e2]
      exact ⟨hg, hj, ⟨F, t, s, hF, ok, hC, hM⟩, frm_r _ _ _ _⟩
  · have e1 : frC mu F t a b = mu := by unfold frC; rw [if_neg c1]
    have e2 : frM (frC mu F t a b) F t a b = mu := by unfold frM; rw [if_neg c1, e1]
    rw [e2]
    exact ⟨hg, hj, ⟨F, t, s, hF, ok, hC, hM⟩, frm_r _ _ _ _⟩
-- cut
theorem cut_all (hg : gOk ivG mu) (hj : JB mu la ro) (q : RFm mu) : ∃ (mu1 mu2 : Mu) (x : Int32), Rr X d MTo_cut 0 [.ref 0, mkU] [] (Wd mu la ro et) = some (some (.int x), Wd mu1 la ro et) ∧ Rr X d MRm_cut 0 [.ref 81, mkU] [] (Wd mu1 la ro et) = some (some (.int x), Wd mu2 la ro et) ∧ gOk ivG mu2 ∧ JB mu2 la ro ∧ RFm mu2 ∧ frm dFm mu la ro mu2 la ro := by
  obtain ⟨F, t, s, hF, ok, hC, hM⟩ := q
  have f1 : frm wFC mu la ro (up2 mu 11 2 0) la ro := frm_up (k := 2) (.inr (by decide))
  have f2 : frm wFr (up2 mu 11 2 0) la ro (up2 (up2 mu 11 2 0) 81 47 0) la ro := frm_up (k := 47) (.inr (by decide))
  have g1 : gOk ivG (up2 mu 11 2 0) := gOk_up hg (top_ok _) (top_ok _)
  have e1 : up2 mu 11 2 0 81 47 = nI F := hM.1
  refine ⟨up2 mu 11 2 0, up2 (up2 mu 11 2 0) 81 47 0, nI F, ?_, ?_, gOk_up g1 (top_ok _) (by decide), JB_fr (JS_B wFC (by decide) _ _ _ _ _ _ f1 hj) f2 ⟨0, by omega, up2_s _ _ _ _, fun i hi => absurd hi (by omega), fun i hi => absurd hi (by omega)⟩, ⟨0, t, s, by omega, fun i hi => absurd hi (by omega), ⟨rfl, fun i hi => absurd hi (by omega)⟩, up2_s _ _ _ _, fun i hi => absurd hi (by omega)⟩, frm_t (wk_C f1) (wk_M f2)⟩
  · simp only [r_MTo_cut_0, r_MTo_cut_1, r_MTo_cut_4, r_MTo_cut_7, r_MTo_cut_8, r_MTo_cut_9, r_MTo_cut_12, r_MTo_cut_13, r_MTo_cut_16, r_MTo_cut_17, sL_0, sL_1, sL_2, mk_i, mk_r, mk_f, mk_n, mk_u, mk_l, List.set_cons_succ, List.set_cons_zero, Nat.reduceAdd, ckS_0, ckS_1, ckS_2, ckS_3, ckS_4, Option.bind_some, Option.isSome_some, psh, if_true, if_false, qI_0_9, qI_0_10, qI_11_2, qR_0_0, qRd_0_0, qR_0_1, qRd_0_1, qR_0_2, qRd_0_2, qR_0_3, qRd_0_3, qR_0_4, qRd_0_4, qR_0_5, qRd_0_5, qR_0_6, qRd_0_6, qR_0_7, qRd_0_7, qR_0_8, qRd_0_8, qR_11_0, qRd_11_0, qR_11_1, qRd_11_1, qO_0, qO_11, hC.1]
  · simp only [r_MRm_cut_0, r_MRm_cut_1, r_MRm_cut_4, r_MRm_cut_5, r_MRm_cut_6, r_MRm_cut_7, r_MRm_cut_10, r_MRm_cut_11, sL_0, sL_1, sL_2, mk_i, mk_r, mk_f, mk_n, mk_u, mk_l, List.set_cons_succ, List.set_cons_zero, Nat.reduceAdd, ckS_0, ckS_1, ckS_2, ckS_3, ckS_4, Option.bind_some, Option.isSome_some, psh, if_true, if_false, qI_81_0, qI_81_2, qI_81_3, qI_81_9, qI_81_10, qI_81_11, qI_81_12, qI_81_13, qI_81_18, qI_81_19, qI_81_20, qI_81_21, qI_81_29, qI_81_30, qI_81_31, qI_81_32, qI_81_33, qI_81_34, qI_81_35, qI_81_39, qI_81_40, qI_81_41, qI_81_42, qI_81_43, qI_81_44, qI_81_45, qI_81_46, qI_81_47, qI_81_51, qI_81_53, qR_81_1, qRd_81_1, qR_81_4, qRd_81_4, qR_81_5, qRd_81_5, qR_81_6, qRd_81_6, qR_81_7, qRd_81_7, qR_81_8, qRd_81_8, qR_81_14, qRd_81_14, qR_81_15, qRd_81_15, qR_81_16, qRd_81_16, qR_81_17, qRd_81_17, qR_81_22, qRd_81_22, qR_81_23, qRd_81_23, qR_81_24, qRd_81_24, qR_81_25, qRd_81_25, qR_81_26, qRd_81_26, qR_81_27, qRd_81_27, qR_81_28, qRd_81_28, qR_81_36, qRd_81_36, qR_81_37, qRd_81_37, qR_81_38, qRd_81_38, qR_81_48, qRd_81_48, qR_81_49, qRd_81_49, qR_81_50, qRd_81_50, qR_81_52, qRd_81_52, qR_81_54, qRd_81_54, qR_81_55, qRd_81_55, qR_81_56, qRd_81_56, qR_81_57, qRd_81_57, qR_81_58, qRd_81_58, qO_81, e1]
end
