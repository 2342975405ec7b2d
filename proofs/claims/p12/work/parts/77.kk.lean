-- ===== a going from its start to its end: the class's roll, the model's
def fR (r : Nat) : Option Nat := if r = 9 then none else some r
noncomputable def ntM (m : Mu) (R j : Nat) (x y z : Int32) : Mu := up2 (up2 (up2 m R j x) (R + 1) j y) (R + 2) j z
section
variable {X : Tok} {d : Nat} {mu m m' : Mu} {la : La} {ro : Ro} {et : Nat → Option va_E} {N n S r F a R nt i j c : Nat} {g s w x y z k ca cb cc cd pc t fl : Int32} {T T' T0 G : Nat → Int32} {f : Option Nat} {LS : Nat → List Ln}
theorem r_lay27 {y0 : Nat} {y1 : Int32} {L st : List Value} (hc : ckS st = true) : Rr X (d + 1) MTo_lay 27 L (.null :: .int y1 :: .ref y0 :: .ref 6 :: st) (Wd mu la ro et) = (Rr X d MMo_rule 0 [.ref 6, .ref y0, .int y1, .null] [] (Wd mu la ro et)).bind fun q => Rr X (d + 1) MTo_lay 30 L (psh q.1 st) q.2 := R_iv (av := [.null, .int y1, .ref y0]) d_MTo_lay_27 fc_9_174 (by decide) (ckS_le hc) rfl (Nat.le_of_ble_eq_true rfl) (Nat.le_of_ble_eq_true rfl)
theorem e_lay (hr : rOk ro) (hN : N ≤ 6) (hn : n ≤ 4) (h9 : m 0 9 = nI N) (h0 : m 0 10 = nI n) (hG : Grd N n g S r) : Rr X (d + 3) MTo_lay 0 [.ref 0, .int g, .int k, mkU] [] (Wd m la ro et) = some (none, Wd (ruM m (19 + 5 * S) k) la (upR ro 6 5 (flN r)) et) := by
  obtain ⟨hS, hr', rfl⟩ := hG
  obtain ⟨e1, e2⟩ := g_dv (r := r) (S := S) (by omega) (by omega)
  have qa := snA_of (show S < 6 by omega)
  have eS := e_stoneAt (X := X) (d := d + 1) (mu := m) (la := la) (et := et) hr hN h9 hS
  have eF := e_floorR (X := X) (d := d + 1) (mu := m) (la := la) (et := et) hr hn h0 hr'
  have eR := c_rule (X := X) (d := d + 1) (m := m) (la := la) (ro := ro) (et := et) (k := k) qa (by omega) (g := flN r)
  unfold flN at eF eR ⊢
  by_cases c : r = 9
  · rw [if_pos c] at eF eR ⊢
    have eF : Rr X (d + 2) MTo_floorAt 0 [.ref 0, .int (nI r)] [] (Wd m la ro et) = some (some .null, Wd m la ro et) := eF
    have eR : Rr X (d + 2) MMo_rule 0 [.ref 6, .ref (19 + 5 * S), .int k, .null] [] (Wd m la ro et) = _ := eR
    simp only [r_MTo_lay_0, r_MTo_lay_1, r_MTo_lay_2, r_MTo_lay_4, r_MTo_lay_5, r_MTo_lay_8, r_MTo_lay_8n, r_MTo_lay_9, r_MTo_lay_9n, r_MTo_lay_10, r_MTo_lay_10n, r_MTo_lay_13, r_MTo_lay_14, r_MTo_lay_17, r_MTo_lay_17n, r_MTo_lay_18, r_MTo_lay_19, r_MTo_lay_20, r_MTo_lay_21, r_MTo_lay_23, r_MTo_lay_24, r_MTo_lay_27, r_MTo_lay_30, sL_0, sL_1, sL_2, mk_i, mk_r, mk_f, mk_n, mk_u, mk_l, List.set_cons_succ, List.set_cons_zero, Nat.reduceAdd, ckS_0, ckS_1, ckS_2, ckS_3, ckS_4, Option.bind_some, Option.isSome_some, psh, if_true, if_false, i10, not_true_eq_false, not_false_eq_true, Bool.false_eq_true, and_self, and_true, true_and, eq_self, qI_0_9, qI_0_10, qI_6_0, qI_6_1, qI_6_2, qI_6_3, qI_6_4, qI_6_6, qI_6_7, qI_6_8, qI_6_9, qI_6_10, qI_6_11, qI_6_12, qI_6_13, qI_6_14, qI_6_15, qI_6_16, qR_0_0, qRd_0_0, qR_0_1, qRd_0_1, qR_0_2, qRd_0_2, qR_0_3, qRd_0_3, qR_0_4, qRd_0_4, qR_0_5, qRd_0_5, qR_0_6, qRd_0_6, qR_0_7, qRd_0_7, qR_0_8, qRd_0_8, qO_0, qO_6, qM_6_5, e1, e2, eS, eF, eR, r_lay27, show ¬ (10 : Int32) = 0 by decide]
  · rw [if_neg c] at eF eR ⊢
    have eF : Rr X (d + 2) MTo_floorAt 0 [.ref 0, .int (nI r)] [] (Wd m la ro et) = some (some (.ref (49 + 5 * r)), Wd m la ro et) := eF
    have eR : Rr X (d + 2) MMo_rule 0 [.ref 6, .ref (19 + 5 * S), .int k, .ref (49 + 5 * r)] [] (Wd m la ro et) = _ := eR
    simp only [r_MTo_lay_0, r_MTo_lay_1, r_MTo_lay_2, r_MTo_lay_4, r_MTo_lay_5, r_MTo_lay_8, r_MTo_lay_8n, r_MTo_lay_9, r_MTo_lay_9n, r_MTo_lay_10, r_MTo_lay_10n, r_MTo_lay_13, r_MTo_lay_14, r_MTo_lay_17, r_MTo_lay_17n, r_MTo_lay_18, r_MTo_lay_19, r_MTo_lay_20, r_MTo_lay_21, r_MTo_lay_23, r_MTo_lay_24, r_MTo_lay_27, r_MTo_lay_30, sL_0, sL_1, sL_2, mk_i, mk_r, mk_f, mk_n, mk_u, mk_l, List.set_cons_succ, List.set_cons_zero, Nat.reduceAdd, ckS_0, ckS_1, ckS_2, ckS_3, ckS_4, Option.bind_some, Option.isSome_some, psh, if_true, if_false, i10, not_true_eq_false, not_false_eq_true, Bool.false_eq_true, and_self, and_true, true_and, eq_self, qI_0_9, qI_0_10, qI_6_0, qI_6_1, qI_6_2, qI_6_3, qI_6_4, qI_6_6, qI_6_7, qI_6_8, qI_6_9, qI_6_10, qI_6_11, qI_6_12, qI_6_13, qI_6_14, qI_6_15, qI_6_16, qR_0_0, qRd_0_0, qR_0_1, qRd_0_1, qR_0_2, qRd_0_2, qR_0_3, qRd_0_3, qR_0_4, qRd_0_4, qR_0_5, qRd_0_5, qR_0_6, qRd_0_6, qR_0_7, qRd_0_7, qR_0_8, qRd_0_8, qO_0, qO_6, qM_6_5, e1, e2, eS, eF, eR, r_lay27, show ¬ (10 : Int32) = 0 by decide]
theorem e_layOwn (hr : rOk ro) (hN : N ≤ 6) (hn : n ≤ 4) (h9 : m 0 9 = nI N) (h0 : m 0 10 = nI n) (hG : Grd N n g S r) : Rr X (d + 4) MTo_layOwn 0 [.ref 0, .int g, mkU] [] (Wd m la ro et) = some (none, Wd (ruM m (19 + 5 * S) (knC m (19 + 5 * S))) la (upR ro 6 5 (flN r)) et) := by
  have eL := e_lay (X := X) (d := d) (m := m) (la := la) (et := et) (k := knC m (19 + 5 * S)) hr hN hn h9 h0 hG
  obtain ⟨hS, hr', rfl⟩ := hG
  obtain ⟨e1, e2⟩ := g_dv (r := r) (S := S) (by omega) (by omega)
  have qa := snA_of (show S < 6 by omega)
  have o1 := qa.1.1
  have eS := e_stoneAt (X := X) (d := d + 2) (mu := m) (la := la) (et := et) hr hN h9 hS
  have eK := e_keen (X := X) (d := d + 1) (m := m) (la := la) (ro := ro) (et := et) qa
  simp only [r_MTo_layOwn_0, r_MTo_layOwn_1, r_MTo_layOwn_2, r_MTo_layOwn_4, r_MTo_layOwn_5, r_MTo_layOwn_8, r_MTo_layOwn_8n, r_MTo_layOwn_9, r_MTo_layOwn_9n, r_MTo_layOwn_10, r_MTo_layOwn_10n, r_MTo_layOwn_13, r_MTo_layOwn_14, r_MTo_layOwn_15, r_MTo_layOwn_15n, r_MTo_layOwn_16, r_MTo_layOwn_19, r_MTo_layOwn_22, sL_0, sL_1, sL_2, mk_i, mk_r, mk_f, mk_n, mk_u, mk_l, List.set_cons_succ, List.set_cons_zero, Nat.reduceAdd, ckS_0, ckS_1, ckS_2, ckS_3, ckS_4, Option.bind_some, Option.isSome_some, psh, if_true, if_false, i10, not_true_eq_false, not_false_eq_true, Bool.false_eq_true, and_self, and_true, true_and, eq_self, qI_0_9, qI_0_10, qR_0_0, qRd_0_0, qR_0_1, qRd_0_1, qR_0_2, qRd_0_2, qR_0_3, qRd_0_3, qR_0_4, qRd_0_4, qR_0_5, qRd_0_5, qR_0_6, qRd_0_6, qR_0_7, qRd_0_7, qR_0_8, qRd_0_8, qO_0, o1, e1, eS, eK, eL, show ¬ (10 : Int32) = 0 by decide]
theorem e_startT : Rr X (d + 2) MTo_start 0 [.ref 0, .int s, .int w] [] (Wd m la ro et) = some (none, Wd (moM m (beT s (w / 1000) (w - w / 1000 * 1000) 0)) la ro et) := by
  have e := c_start (X := X) (d := d) (m := m) (la := la) (ro := ro) (et := et) (s := s) (p := w / 1000) (q := w - w / 1000 * 1000) (t := 0)
  simp only [r_MTo_start_0, r_MTo_start_1, r_MTo_start_4, r_MTo_start_5, r_MTo_start_6, r_MTo_start_9, r_MTo_start_10, r_MTo_start_11, r_MTo_start_14, r_MTo_start_15, r_MTo_start_16, r_MTo_start_19, sL_0, sL_1, sL_2, mk_i, mk_r, mk_f, mk_n, mk_u, mk_l, List.set_cons_succ, List.set_cons_zero, Nat.reduceAdd, ckS_0, ckS_1, ckS_2, ckS_3, ckS_4, Option.bind_some, Option.isSome_some, psh, if_true, if_false, i10, not_true_eq_false, not_false_eq_true, Bool.false_eq_true, and_self, and_true, true_and, eq_self, qI_0_9, qI_0_10, qI_6_0, qI_6_1, qI_6_2, qI_6_3, qI_6_4, qI_6_6, qI_6_7, qI_6_8, qI_6_9, qI_6_10, qI_6_11, qI_6_12, qI_6_13, qI_6_14, qI_6_15, qI_6_16, qR_0_0, qRd_0_0, qR_0_1, qRd_0_1, qR_0_2, qRd_0_2, qR_0_3, qRd_0_3, qR_0_4, qRd_0_4, qR_0_5, qRd_0_5, qR_0_6, qRd_0_6, qR_0_7, qRd_0_7, qR_0_8, qRd_0_8, qO_0, qO_6, qM_6_5, e, show ¬ (1000 : Int32) = 0 by decide]
theorem ru_o (h : ¬ c = 6) : ruM m a k c j = m c j := by
  unfold ruM
  rw [up2_a h, up2_a h, up2_a h, up2_a h, up2_a h, up2_a h]
theorem ru_co (ha : 19 ≤ a) : CoC (ruM m a k) k (m (a + 4) 0) (m (a + 4) 1) (m (a + 4) 2) (m (a + 4) 3) ∧ ruM m a k 6 6 = 0 := by
  unfold CoC ruM
  refine ⟨⟨?_, ?_, ?_, ?_, ?_⟩, up2_s _ _ _ _⟩
  · rw [up2_k (by decide), up2_k (by decide), up2_k (by decide), up2_k (by decide), up2_k (by decide), up2_s]
  · rw [up2_k (by decide), up2_k (by decide), up2_k (by decide), up2_k (by decide), up2_s]
  · rw [up2_k (by decide), up2_k (by decide), up2_k (by decide), up2_s]
  · rw [up2_k (by decide), up2_k (by decide), up2_s]
  · rw [up2_k (by decide), up2_s]
theorem ru_sit (h : r = 9 ∨ r < n) (hn : n ≤ 4) : SitC (ruM m a k) (upR ro 6 5 (flN r)) n (fR r) 0 := by
  unfold flN fR
  by_cases c : r = 9
  · rw [if_pos c, if_pos c]
    exact ⟨rfl, up2_s _ _ _ _⟩
  · rw [if_neg c, if_neg c]
    exact ⟨by omega, rfl⟩
theorem AllC_k (h : ∀ c j, 49 ≤ c → c ≤ 68 → m' c j = m c j) (hn : n ≤ 4) (q : AllC m LS n) : AllC m' LS n := fun F hF => FOk_c (fun c j h1 h2 => h c j (by omega) (by omega)) (q F hF)
theorem CoC_k (h : ∀ j, j ≤ 6 → m' 6 j = m 6 j) (q : CoC m k ca cb cc cd) : CoC m' k ca cb cc cd := by
  unfold CoC at q ⊢
  rw [h 0 (by omega), h 1 (by omega), h 2 (by omega), h 3 (by omega), h 4 (by omega)]
  exact q
theorem SitC_k (h : ∀ j, j ≤ 6 → m' 6 j = m 6 j) (q : SitC m ro n f pc) : SitC m' ro n f pc := by
  unfold SitC at q ⊢
  cases f with
  | none => exact ⟨q.1, (h 6 (by omega)).trans q.2⟩
  | some F => exact q
-- what is noted, tick by tick
theorem nt_o (h : c < R ∨ R + 2 < c) : ntM m R j x y z c i = m c i := by
  unfold ntM
  rw [up2_a (by omega), up2_a (by omega), up2_a (by omega)]
theorem nt_n (h : ¬ i = j) : ntM m R j x y z c i = m c i := by
  unfold ntM
  rw [up2_k h, up2_k h, up2_k h]
theorem nt_v : ntM m R j x y z R j = x ∧ ntM m R j x y z (R + 1) j = y ∧ ntM m R j x y z (R + 2) j = z := by
  unfold ntM
  refine ⟨?_, ?_, up2_s _ _ _ _⟩
  · rw [up2_a (by omega), up2_a (by omega), up2_s]
  · rw [up2_a (by omega), up2_s]
theorem mo_nt : ntM (moM m T) 8 j x y z = moM (ntM m 8 j x y z) T := by
  refine funext fun c => funext fun i => ?_
  by_cases h : c = 6
  · subst h
    rw [nt_o (by omega)]
    unfold moM
    rw [nt_o (by omega)]
  · rw [mo_o h]
    unfold ntM
    simp only [up2_e, mo_o h]
theorem mg_nt : ntM (moG m G) 99 j x y z = moG (ntM m 99 j x y z) G := by
  refine funext fun c => funext fun i => ?_
  by_cases h : c = 81
  · subst h
    rw [nt_o (by omega)]
    unfold moG
    rw [nt_o (by omega)]
  · rw [mg_o h]
    unfold ntM
    simp only [up2_e, mg_o h]
theorem e_noteC (hj : j ≤ 400) : Rr X d MGo_note 0 [.ref 7, .ref 6, .int (nI j)] [] (Wd (moM m T) la ro et) = some (none, Wd (moM (ntM m 8 j (T 7) (T 8) (T 9)) T) la ro et) := by
  have z0 : ¬ nI j < 0 := nI_pos (by omega)
  have z1 : ¬ (400 : Int32) < nI j := nI_nlt (a := 400) (b := j) (by omega) (by omega)
  have cj : (nI j).toNatClampNeg = j := nI_clamp (by omega)
  have ij := ix (j := j) (N := 401) (by omega) (by decide)
  have i1 : ¬ 401 ≤ j := by omega
  have v7 : moM m T 6 7 = T 7 := mo_v (by omega) (by omega)
  have v8 : moM m T 6 8 = T 8 := mo_v (by omega) (by omega)
  have v9 : moM m T 6 9 = T 9 := mo_v (by omega) (by omega)
  rw [← mo_nt]
  unfold ntM
  simp only [r_MGo_note_0, r_MGo_note_1, r_MGo_note_4, r_MGo_note_5, r_MGo_note_8, r_MGo_note_11, r_MGo_note_12, r_MGo_note_15, r_MGo_note_16, r_MGo_note_16n, r_MGo_note_17, r_MGo_note_20, r_MGo_note_21, r_MGo_note_22, r_MGo_note_25, r_MGo_note_26, r_MGo_note_26n, r_MGo_note_27, r_MGo_note_30, r_MGo_note_31, r_MGo_note_32, r_MGo_note_35, r_MGo_note_36, r_MGo_note_36n, r_MGo_note_37, r_MGo_note_40, r_MGo_note_41, sL_0, sL_1, sL_2, mk_i, mk_r, mk_f, mk_n, mk_u, mk_l, List.set_cons_succ, List.set_cons_zero, Nat.reduceAdd, ckS_0, ckS_1, ckS_2, ckS_3, ckS_4, Option.bind_some, Option.isSome_some, psh, if_true, if_false, i10, not_true_eq_false, not_false_eq_true, Bool.false_eq_true, and_self, and_true, true_and, eq_self, qI_6_0, qI_6_1, qI_6_2, qI_6_3, qI_6_4, qI_6_6, qI_6_7, qI_6_8, qI_6_9, qI_6_10, qI_6_11, qI_6_12, qI_6_13, qI_6_14, qI_6_15, qI_6_16, qI_7_3, qI_7_4, qI_7_5, qI_7_6, qI_7_7, qI_7_8, qR_7_0, qRd_7_0, qR_7_1, qRd_7_1, qR_7_2, qRd_7_2, qA_8, qAd_8, qA_9, qAd_9, qA_10, qAd_10, qO_6, qO_7, qL_8, qLd_8, qL_9, qLd_9, qL_10, qLd_10, qM_6_5, z0, z1, cj, i1, false_or, v7, v8, v9, up2_e, Nat.reduceEqDiff, false_and, if_false]
theorem e_noteM (hj : j ≤ 400) : Rr X d MRm_note 0 [.ref 81, .int (nI j)] [] (Wd (moG m G) la ro et) = some (none, Wd (moG (ntM m 99 j (G 30) (G 31) (G 32)) G) la ro et) := by
  have cj : (nI j).toNatClampNeg = j := nI_clamp (by omega)
  have ij := ix (j := j) (N := 401) (by omega) (by decide)
  have v7 : moG m G 81 30 = G 30 := mg_v (by omega) (by omega)
  have v8 : moG m G 81 31 = G 31 := mg_v (by omega) (by omega)
  have v9 : moG m G 81 32 = G 32 := mg_v (by omega) (by omega)
  rw [← mg_nt]
  unfold ntM
  simp only [r_MRm_note_0, r_MRm_note_1, r_MRm_note_4, r_MRm_note_5, r_MRm_note_6, r_MRm_note_9, r_MRm_note_10, r_MRm_note_11, r_MRm_note_14, r_MRm_note_15, r_MRm_note_16, r_MRm_note_19, r_MRm_note_20, r_MRm_note_21, r_MRm_note_24, r_MRm_note_25, r_MRm_note_26, r_MRm_note_29, r_MRm_note_30, sL_0, sL_1, sL_2, mk_i, mk_r, mk_f, mk_n, mk_u, mk_l, List.set_cons_succ, List.set_cons_zero, Nat.reduceAdd, ckS_0, ckS_1, ckS_2, ckS_3, ckS_4, Option.bind_some, Option.isSome_some, psh, if_true, if_false, i10, not_true_eq_false, not_false_eq_true, Bool.false_eq_true, and_self, and_true, true_and, eq_self, qI_81_0, qI_81_2, qI_81_3, qI_81_9, qI_81_10, qI_81_11, qI_81_12, qI_81_13, qI_81_18, qI_81_19, qI_81_20, qI_81_21, qI_81_29, qI_81_30, qI_81_31, qI_81_32, qI_81_33, qI_81_34, qI_81_35, qI_81_39, qI_81_40, qI_81_41, qI_81_42, qI_81_43, qI_81_44, qI_81_45, qI_81_46, qI_81_47, qI_81_51, qI_81_53, qR_81_1, qRd_81_1, qR_81_4, qRd_81_4, qR_81_5, qRd_81_5, qR_81_6, qRd_81_6, qR_81_7, qRd_81_7, qR_81_8, qRd_81_8, qR_81_14, qRd_81_14, qR_81_15, qRd_81_15, qR_81_16, qRd_81_16, qR_81_17, qRd_81_17, qR_81_22, qRd_81_22, qR_81_23, qRd_81_23, qR_81_24, qRd_81_24, qR_81_25, qRd_81_25, qR_81_26, qRd_81_26, qR_81_27, qRd_81_27, qR_81_28, qRd_81_28, qR_81_36, qRd_81_36, qR_81_37, qRd_81_37, qR_81_38, qRd_81_38, qR_81_48, qRd_81_48, qR_81_49, qRd_81_49, qR_81_50, qRd_81_50, qR_81_52, qRd_81_52, qR_81_54, qRd_81_54, qR_81_55, qRd_81_55, qR_81_56, qRd_81_56, qR_81_57, qRd_81_57, qR_81_58, qRd_81_58, qA_99, qAd_99, qA_100, qAd_100, qA_101, qAd_101, qO_81, qL_99, qLd_99, qL_100, qLd_100, qL_101, qLd_101, cj, ij, v7, v8, v9, up2_e, Nat.reduceEqDiff, false_and, if_false]
end
