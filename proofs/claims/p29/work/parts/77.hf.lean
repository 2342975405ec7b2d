-- ===== stone, both sides
/-- what the class's stone holds behind its text -/
noncomputable def stC (m : Mu) (a : Nat) : Mu := wgK (rtC4 (lmsC (up2 m a 4 0) a 0 (stW m)) a (rtA m (stZ m)).1 (rtB m (stZ m)).1 (rtC m (stZ m)).1 (rtD m (stZ m)).1) a (stW m).length
abbrev wStC : WS := [(1, 2), (1, 3), (0, 10), (19, 5), (19, 6), (19, 7), (19, 8), (19, 9), (19, 10), (19, 11), (20, 0), (21, 0), (22, 0), (23, 0), (24, 5), (24, 6), (24, 7), (24, 8), (24, 9), (24, 10), (24, 11), (25, 0), (26, 0), (27, 0), (28, 0), (29, 5), (29, 6), (29, 7), (29, 8), (29, 9), (29, 10), (29, 11), (30, 0), (31, 0), (32, 0), (33, 0), (34, 5), (34, 6), (34, 7), (34, 8), (34, 9), (34, 10), (34, 11), (35, 0), (36, 0), (37, 0), (38, 0), (39, 5), (39, 6), (39, 7), (39, 8), (39, 9), (39, 10), (39, 11), (40, 0), (41, 0), (42, 0), (43, 0), (44, 5), (44, 6), (44, 7), (44, 8), (44, 9), (44, 10), (44, 11), (45, 0), (46, 0), (47, 0), (48, 0)]
abbrev wStM : WS := [(81, 3), (81, 4), (81, 19), (81, 20), (83, 0), (84, 0), (85, 0), (86, 0), (87, 0)]
section
variable {X : Tok} {d : Nat} {mu m m' m2 mu' : Mu} {la la' : La} {ro ro' : Ro} {et : Nat → Option va_E} {a h z i k L S : Nat} {s : SS} {l v : Int32}
theorem wg_tp (ha : 19 ≤ a) : wgK (tp m h) a L = tp (wgK m a L) h := by
  have e1 : ∀ j, tp m h (a + 1) j = m (a + 1) j := fun j => tp_o (by omega)
  have e2 : ∀ j, tp m h (a + 2) j = m (a + 2) j := fun j => tp_o (by omega)
  have e3 : ∀ j, tp m h (a + 3) j = m (a + 3) j := fun j => tp_o (by omega)
  have e4 : ∀ (m : Mu) (i : Nat) (v : Int32), up2 (tp m h) a i v = tp (up2 m a i v) h := fun m i v => tp_up (by omega)
  unfold wgK
  simp only [e1, e2, e3, e4]
theorem lmsC_4 : ∀ (W : List Lp) (L : Nat) (m : Mu), m a 4 = nI L → lmsC m a L W a 4 = nI (L + W.length)
  | [], _, _, h => h
  | x :: W, L, m, _ => by
    have e := lmsC_4 W (L + 1) (lmC m a L x) (up2_s _ _ _ _)
    rw [List.length_cons, show L + (W.length + 1) = L + 1 + W.length by omega]
    exact e
set_option maxHeartbeats 4000000 in
theorem c_stone (hR : RT m) (qa : snA a) (ha : a ≤ 44) : ∃ m', ChA a m m' ∧ Rr X (d + 4) MSt_readFrom 0 [.ref a, .ref 1, mkU, mkU, mkU] [] (Wd (tp m 0) la ro et) = some (some (.int (if noS (stEnd m) = true then 1 else 0)), Wd (tp m' (plS (stEnd m))) la ro et) ∧ (noS (stEnd m) = true → m' = stC m a) := by
  have o1 := qa.1.1
  have o3 := qa.1.2.2
  have q4 := qa.1.2.1.1
  have hT2 := Tt_le (RT_M hR)
  obtain ⟨m0, hm0⟩ : ∃ m0, m0 = up2 m a 4 0 := ⟨_, rfl⟩
  have C0 : ChA a m m0 := by rw [hm0]; exact Ch_f (by omega) (by omega)
  obtain ⟨b1, b2, b3, b4⟩ := Ch_bt o3 ha C0
  have st : Rr X (d + 4) MSt_readFrom 0 [.ref a, .ref 1, mkU, mkU, mkU] [] (Wd (tp m 0) la ro et) = Rr X (d + 4) MSt_readFrom 9 [.ref a, .ref 1, .int 1, .int (nI 0), mkU] [] (Wd (tp m0 0) la ro et) := by
    rw [nI_0, hm0, ← tp_up (show ¬ a = 1 by omega)]
    simp only [r_MSt_readFrom_0, r_MSt_readFrom_1, r_MSt_readFrom_2, r_MSt_readFrom_5, r_MSt_readFrom_6, r_MSt_readFrom_7, r_MSt_readFrom_8, sL_0, sL_1, sL_2, mk_i, mk_r, mk_f, mk_n, mk_u, mk_l, List.set_cons_succ, List.set_cons_zero, Nat.reduceAdd, ckS_0, ckS_1, ckS_2, ckS_3, ckS_4, Option.bind_some, Option.isSome_some, psh, if_true, if_false, i10, not_true_eq_false, not_false_eq_true, Bool.false_eq_true, and_self, and_true, true_and, eq_self, o1, q4]
  rw [st]
  obtain ⟨m1, C1, D1, D2⟩ := st_loopC (X := X) (d := d) (la := la) (ro := ro) (et := et) (l4 := mkU) qa ha 11 0 0 m0 rfl (b4 hR) (by omega)
  have eW : (lpS m0 (0, none)).1 :: (lpsS m0 11 (lpS m0 (0, none)).2).1 = stW m := by unfold stW; rw [lpS_c b1, lpsS_c b1]
  have eZ : (lpsS m0 11 (lpS m0 (0, none)).2).2 = stZ m := by unfold stZ; rw [lpS_c b1, lpsS_c b1]
  rw [eW, eZ] at D1
  rw [eZ] at D2
  have fz : fw m (0, none) (0, none) := fw_r (Nat.zero_le _) (fun k h => by cases h)
  have f2 : fw m (0, none) (stZ m) := fw_lps 11 _ (fw_lp fz)
  have eE : stEnd m = enT m (rtD m (stZ m)).2 := rfl
  by_cases cZ : noS (stZ m) = true
  · obtain ⟨E1, x, y, E2⟩ := D1 cZ
    rw [E2]
    have C1' := Ch_t C0 C1
    obtain ⟨p1, p2, p3, p4⟩ := Ch_bt o3 ha C1'
    obtain ⟨m2, G0, G1, G2⟩ := c_rates (X := X) (d := d) (la := la) (ro := ro) (et := et) (m := m1) (s := stZ m) (x := x) (y := y) (l4 := mkU) (p4 hR) qa ha cZ (by rw [p3]; exact f2.2.1)
    rw [rtA_c p1, rtB_c p1, rtC_c p1, rtD_c p1] at G1
    rw [rtD_c p1] at G2
    have C2 := Ch_t C1' G0
    obtain ⟨k1, k2, k3, k4⟩ := Ch_bt o3 ha C2
    have f3 : fw m (0, none) (rtD m (stZ m)).2 := fw_nm (fw_tk (by decide) (fw_nm (fw_tk (by decide) (fw_nm (fw_tk (by decide) (fw_nm (fw_tk (by decide) f2)))))))
    by_cases cD : noS (rtD m (stZ m)).2 = true
    · obtain ⟨E3, E4⟩ := G1 cD
      rw [E4]
      have len : (stW m).length ≤ 12 := Nat.succ_le_succ (lps_len 11 _)
      have h4 : m2 a 4 = nI (stW m).length := by
        have e := lmsC_4 (a := a) (stW m) 0 m0 (by rw [hm0]; exact up2_s _ _ _ _)
        rw [Nat.zero_add] at e
        rw [E3]
        unfold rtC4
        rw [up2_a (by omega), up2_a (by omega), up2_a (by omega), up2_a (by omega), E1]
        exact e
      have ew := e_weigh (X := X) (d := d + 3) (la := la) (ro := ro) (et := et) (m := tp m2 (rtD m (stZ m)).2.1) (L := (stW m).length) qa len (by rw [tp_o (by omega)]; exact h4)
      rw [wg_tp o3] at ew
      have Cw : ChA a m (wgK m2 a (stW m).length) := Ch_t C2 Ch_wg
      obtain ⟨u1, u2, u3, u4⟩ := Ch_bt o3 ha Cw
      have lt := f3.2.1
      have ea := e_atEnd (X := X) (d := d + 3) (la := la) (ro := ro) (et := et) (mu := wgK m2 a (stW m).length) (h := (rtD m (stZ m)).2.1) (RT_C (u4 hR)) (by omega)
      rw [RT_T (u4 hR), u3] at ea
      refine ⟨wgK m2 a (stW m).length, Cw, ?_, fun _ => by unfold stC; rw [E3, E1, hm0]⟩
      rw [eE]
      unfold enT
      rw [if_pos cD]
      by_cases c : (rtD m (stZ m)).2.1 < Tt m
      · have hne : ¬ (rtD m (stZ m)).2.1 = Tt m := by omega
        have e5 : plS (flS (rtD m (stZ m)).2) = (rtD m (stZ m)).2.1 := by rw [flS_n cD]; rfl
        have e6 : ¬ noS (flS (rtD m (stZ m)).2) = true := by rw [flS_no]; decide
        rw [if_neg hne] at ea
        rw [if_pos c, if_neg e6, e5]
        simp only [r_MSt_readFrom_112, r_MSt_readFrom_113, r_MSt_readFrom_116, r_MSt_readFrom_116n, r_MSt_readFrom_117, r_MSt_readFrom_120, sL_0, sL_1, sL_2, mk_i, mk_r, mk_f, mk_n, mk_u, mk_l, List.set_cons_succ, List.set_cons_zero, Nat.reduceAdd, ckS_0, ckS_1, ckS_2, ckS_3, ckS_4, Option.bind_some, Option.isSome_some, psh, if_true, if_false, i10, not_true_eq_false, not_false_eq_true, Bool.false_eq_true, and_self, and_true, true_and, eq_self, qI_1_1, qI_1_2, qR_1_0, qRd_1_0, qO_1, o1, ew, ea, true_or, or_true]
      · have he : (rtD m (stZ m)).2.1 = Tt m := by omega
        rw [if_pos he] at ea
        rw [if_neg c, if_pos cD, plS_n cD]
        simp only [r_MSt_readFrom_112, r_MSt_readFrom_113, r_MSt_readFrom_116, r_MSt_readFrom_116n, r_MSt_readFrom_117, r_MSt_readFrom_120, sL_0, sL_1, sL_2, mk_i, mk_r, mk_f, mk_n, mk_u, mk_l, List.set_cons_succ, List.set_cons_zero, Nat.reduceAdd, ckS_0, ckS_1, ckS_2, ckS_3, ckS_4, Option.bind_some, Option.isSome_some, psh, if_true, if_false, i10, not_true_eq_false, not_false_eq_true, Bool.false_eq_true, and_self, and_true, true_and, eq_self, qI_1_1, qI_1_2, qR_1_0, qRd_1_0, qO_1, o1, ew, ea, true_or, or_true]
    · have e6 : stEnd m = (rtD m (stZ m)).2 := by
        rw [eE]
        unfold enT
        rw [if_neg cD]
      rw [e6]
      refine ⟨m2, C2, ?_, fun q => absurd q cD⟩
      rw [if_neg cD]
      exact G2 cD
  · have hA : (rtA m (stZ m)).2 = stZ m := tn_f cZ
    have hB0 : (rtB m (stZ m)).2 = (rtA m (stZ m)).2 := tn_f (by rw [hA]; exact cZ)
    have hB := hB0.trans hA
    have hC0 : (rtC m (stZ m)).2 = (rtB m (stZ m)).2 := tn_f (by rw [hB]; exact cZ)
    have hC := hC0.trans hB
    have hD0 : (rtD m (stZ m)).2 = (rtC m (stZ m)).2 := tn_f (by rw [hC]; exact cZ)
    have hD := hD0.trans hC
    have e6 : stEnd m = stZ m := by
      rw [eE, hD]
      unfold enT
      rw [if_neg cZ]
    rw [e6]
    refine ⟨m1, Ch_t C0 C1, ?_, fun q => absurd q cZ⟩
    rw [if_neg cZ]
    exact D2 cZ
theorem fs_iv : ∀ c, c < 30 → ivF ivG (19 + c) = true ∧ ivR ivG (19 + c) = true := by decide +kernel
theorem gOk_ChA (hS : S < 6) (C : ChA (19 + 5 * S) m m') (hg : gOk ivG m) : gOk ivG m' := by
  intro c j
  by_cases h : 19 + 5 * S ≤ c ∧ c ≤ 19 + 5 * S + 4
  · obtain ⟨h1, h2⟩ := fs_iv (c - 19) (by omega)
    rw [show 19 + (c - 19) = c by omega] at h1 h2
    exact ⟨by rw [ivF_ok h1]; exact top_ok _, by rw [ivR_ok h2]; exact top_ok _⟩
  · rw [C c j (by omega)]
    exact hg c j
theorem fs_in : ∀ S, S < 6 → (∀ j, j < 7 → wIn wStC (19 + 5 * S) (4 + j + 1) = true) ∧ (∀ r, r < 4 → wIn wStC (19 + 5 * S + (r + 1)) 0 = true) := by decide +kernel
theorem frm_ChA (hS : S < 6) (C : ChA (19 + 5 * S) m m') : frm wStC m la ro m' la ro := by
  obtain ⟨w1, w2⟩ := fs_in S hS
  refine ⟨fun c j h1 h2 => ?_, fun _ _ => rfl, fun _ _ _ => rfl, fun _ => rfl⟩
  refine C c j ?_
  by_cases c1 : c < 19 + 5 * S
  · exact .inl c1
  by_cases c2 : 19 + 5 * S + 4 < c
  · exact .inr (.inl c2)
  by_cases c3 : c = 19 + 5 * S
  · refine .inr (.inr ⟨c3, ?_⟩)
    by_cases c4 : j < 4 ∨ 10 < j
    · exact c4
    · have e := w1 (j - 4) (by omega)
      rw [show 4 + (j - 4) + 1 = j + 1 by omega, ← c3, h2] at e
      cases e
  · have e := w2 (c - (19 + 5 * S) - 1) (by omega)
    rw [show 19 + 5 * S + (c - (19 + 5 * S) - 1 + 1) = c by omega, h1] at e
    cases e
theorem clC_frS : frm wStC mu la ro (clC mu) la ro := frm_t (frm_up (k := 1) (.inr (by decide))) (frm_up (k := 2) (.inr (by decide)))
theorem ro_st (hr : rOk ro) (h : S < 6) : va_rf (ro 3 S) = .ref (19 + 5 * S) := by rw [hr.1 S h]; rfl
set_option maxHeartbeats 4000000 in
theorem e_stoneC (hg : gOk ivG mu) (hr : rOk ro) (hR : RT mu) (hS : S ≤ 6) (h0 : mu 0 9 = nI S) : ∃ mu', Rr X (d + 5) MTo_stone 0 [.ref 0, mkU] [] (Wd mu la ro et) = some (some (.int (if S = 6 then -3 else if noS (stEnd mu) = true then nI S else -100 - fI' (stEnd mu).2)), Wd mu' la ro et) ∧ gOk ivG mu' ∧ frm wStC mu la ro mu' la ro ∧ (S = 6 → mu' = mu) ∧ (S < 6 → mu' 1 1 = 0 ∧ (mu' 0 9 = if noS (stEnd mu) = true then nI (S + 1) else nI S) ∧ (∀ c j, (19 ≤ c ∧ c < 19 + 5 * S) → mu' c j = mu c j) ∧ (noS (stEnd mu) = true → ∀ c j, 19 + 5 * S ≤ c → c ≤ 19 + 5 * S + 4 → mu' c j = stC mu (19 + 5 * S) c j)) := by
  have z0 : ¬ nI S < 0 := nI_pos (by omega)
  by_cases c6 : S = 6
  · subst c6
    have z1 : Int32.ofNat 6 ≤ nI 6 := nI_le (a := 6) (b := 6) (Nat.le_refl _) (by omega)
    refine ⟨mu, ?_, hg, frm_r _ _ _ _, fun _ => rfl, fun q => absurd q (by omega)⟩
    rw [if_pos rfl]
    simp only [r_MTo_stone_0, r_MTo_stone_1, r_MTo_stone_4, r_MTo_stone_7, r_MTo_stone_8, r_MTo_stone_11, r_MTo_stone_12, r_MTo_stone_15, r_MTo_stone_16, r_MTo_stone_19, r_MTo_stone_20, r_MTo_stone_23, r_MTo_stone_24, r_MTo_stone_27, r_MTo_stone_28, r_MTo_stone_28n, r_MTo_stone_31, r_MTo_stone_33, sL_0, sL_1, sL_2, mk_i, mk_r, mk_f, mk_n, mk_u, mk_l, List.set_cons_succ, List.set_cons_zero, Nat.reduceAdd, ckS_0, ckS_1, ckS_2, ckS_3, ckS_4, Option.bind_some, Option.isSome_some, psh, if_true, if_false, i10, not_true_eq_false, not_false_eq_true, Bool.false_eq_true, and_self, and_true, true_and, eq_self, qI_0_9, qI_0_10, qR_0_0, qRd_0_0, qR_0_1, qRd_0_1, qR_0_2, qRd_0_2, qR_0_3, qRd_0_3, qR_0_4, qRd_0_4, qR_0_5, qRd_0_5, qR_0_6, qRd_0_6, qR_0_7, qRd_0_7, qR_0_8, qRd_0_8, qQ_3, qQd_3, qO_0, qL_3, qLd_3, h0, z0, z1]
  · have hS6 : S < 6 := by omega
    have qa := snA_of hS6
    have o3 := qa.1.2.2
    have z1 : ¬ Int32.ofNat 6 ≤ nI S := nI_ge (a := S) (b := 6) hS6 (by omega)
    have cS : (nI S).toNatClampNeg = S := nI_clamp (by omega)
    have iS : ¬ 6 ≤ S := by omega
    have eS := ro_st hr hS6
    have rw0 : up2 mu 1 2 0 = tp mu 0 := rfl
    have t0 : tp mu 0 0 9 = nI S := h0
    obtain ⟨m', C, e, q⟩ := c_stone (X := X) (d := d) (la := la) (ro := ro) (et := et) hR qa (by omega)
    have hl : plS (stEnd mu) ≤ 120 := by
      have hT2 := Tt_le (RT_M hR)
      have fz : fw mu (0, none) (0, none) := fw_r (Nat.zero_le _) (fun k h => by cases h)
      have f2 : fw mu (0, none) (stZ mu) := fw_lps 11 _ (fw_lp fz)
      have f3 : fw mu (0, none) (rtD mu (stZ mu)).2 := fw_nm (fw_tk (by decide) (fw_nm (fw_tk (by decide) (fw_nm (fw_tk (by decide) (fw_nm (fw_tk (by decide) f2)))))))
      have f4 : fw mu (0, none) (stEnd mu) := by
        unfold stEnd enT
        split
        · split
          · exact fw_fl f3
          · exact f3
        · exact f3
      unfold plS
      split
      · exact Nat.le_trans f4.2.1 hT2
      · rename_i k hk
        exact Nat.le_trans (f4.2.2 _ hk) hT2
    have t1 : tp m' (plS (stEnd mu)) 0 9 = nI S := (C 0 9 (by omega)).trans h0
    have t2 : tp m' (plS (stEnd mu)) 1 2 = nI (plS (stEnd mu)) := tp_12
    have f1 : frm wStC mu la ro (tp m' (plS (stEnd mu))) la ro := frm_t (frm_ChA hS6 C) (frm_up (k := 2) (.inr (by decide)))
    have g1 : gOk ivG (tp m' (plS (stEnd mu))) := gOk_up (gOk_ChA hS6 C hg) (top_ok _) (top_ok _)
    have lo : ∀ c j, (19 ≤ c ∧ c < 19 + 5 * S) → tp m' (plS (stEnd mu)) c j = mu c j := fun c j h => by
      rw [tp_o (by omega)]
      exact C c j (by omega)
    rw [if_neg c6]
    by_cases c : noS (stEnd mu) = true
    · have q' := q c
      rw [if_pos c] at e ⊢
      refine ⟨clC (up2 (tp m' (plS (stEnd mu))) 0 9 (nI (S + 1))), ?_, clC_g (gOk_up g1 (top_ok _) ?_), frm_t (frm_t f1 (frm_up (k := 9) (.inr (by decide)))) clC_frS, fun q => absurd q c6, fun _ => ⟨rfl, ?_, fun c j h => ?_, fun _ c j h1 h2 => ?_⟩⟩
      · unfold clC
        simp only [r_MTo_stone_0, r_MTo_stone_1, r_MTo_stone_4, r_MTo_stone_7, r_MTo_stone_8, r_MTo_stone_11, r_MTo_stone_12, r_MTo_stone_15, r_MTo_stone_16, r_MTo_stone_19, r_MTo_stone_20, r_MTo_stone_23, r_MTo_stone_24, r_MTo_stone_27, r_MTo_stone_28, r_MTo_stone_28n, r_MTo_stone_31, r_MTo_stone_33, r_MTo_stone_34, r_MTo_stone_35, r_MTo_stone_38, r_MTo_stone_41, r_MTo_stone_43, r_MTo_stone_44, r_MTo_stone_45, r_MTo_stone_48, r_MTo_stone_49, r_MTo_stone_52, r_MTo_stone_53, r_MTo_stone_54, r_MTo_stone_57, r_MTo_stone_60, r_MTo_stone_63, r_MTo_stone_64, r_MTo_stone_67, r_MTo_stone_68, r_MTo_stone_69, r_MTo_stone_69i, r_MTo_stone_70, r_MTo_stone_73, r_MTo_stone_74, r_MTo_stone_75, r_MTo_stone_78, r_MTo_stone_81, r_MTo_stone_82, r_MTo_stone_83, r_MTo_stone_86, r_MTo_stone_89, r_MTo_stone_90, r_MTo_stone_91, r_MTo_stone_92, r_MTo_stone_95, r_MTo_stone_98, r_MTo_stone_99, r_MTa_rewind_0, r_MTa_rewind_1, r_MTa_rewind_2, r_MTa_rewind_5, r_MTa_clear_0, r_MTa_clear_1, r_MTa_clear_2, r_MTa_clear_5, r_MTa_clear_6, r_MTa_clear_7, r_MTa_clear_10, sL_0, sL_1, sL_2, mk_i, mk_r, mk_f, mk_n, mk_u, mk_l, List.set_cons_succ, List.set_cons_zero, Nat.reduceAdd, ckS_0, ckS_1, ckS_2, ckS_3, ckS_4, Option.bind_some, Option.isSome_some, psh, if_true, if_false, i10, not_true_eq_false, not_false_eq_true, Bool.false_eq_true, and_self, and_true, true_and, eq_self, qI_0_9, qI_0_10, qI_1_1, qI_1_2, qR_0_0, qRd_0_0, qR_0_1, qRd_0_1, qR_0_2, qRd_0_2, qR_0_3, qRd_0_3, qR_0_4, qRd_0_4, qR_0_5, qRd_0_5, qR_0_6, qRd_0_6, qR_0_7, qRd_0_7, qR_0_8, qRd_0_8, qR_1_0, qRd_1_0, qQ_3, qQd_3, qO_0, qO_1, qL_3, qLd_3, qa.1.1, h0, z0, z1, cS, iS, eS, rw0, t0, e, t1, nI_1, or_self]
      · have e2 : (nI (S + 1)).toInt = ((S + 1 : Nat) : Int) := nI_toInt (by omega)
        show (0 : Int) ≤ (nI (S + 1)).toInt ∧ (nI (S + 1)).toInt ≤ 6
        omega
      · rw [if_pos c, clC_o (by decide), up2_s]
      · rw [clC_o (by omega), up2_a (by omega), lo c j h]
      · rw [clC_o (by omega), up2_a (by omega), tp_o (by omega), q']
    · rw [if_neg c] at e ⊢
      refine ⟨clC (tp m' (plS (stEnd mu))), ?_, clC_g g1, frm_t f1 clC_frS, fun q => absurd q c6, fun _ => ⟨rfl, ?_, fun c j h => ?_, fun q => absurd q c⟩⟩
      · have ef : fI' (stEnd mu).2 = nI (plS (stEnd mu)) := by
          obtain ⟨k, hk⟩ := noS_f c
          unfold plS
          rw [hk]
          rfl
        unfold clC
        simp only [r_MTo_stone_0, r_MTo_stone_1, r_MTo_stone_4, r_MTo_stone_7, r_MTo_stone_8, r_MTo_stone_11, r_MTo_stone_12, r_MTo_stone_15, r_MTo_stone_16, r_MTo_stone_19, r_MTo_stone_20, r_MTo_stone_23, r_MTo_stone_24, r_MTo_stone_27, r_MTo_stone_28, r_MTo_stone_28n, r_MTo_stone_31, r_MTo_stone_33, r_MTo_stone_34, r_MTo_stone_35, r_MTo_stone_38, r_MTo_stone_41, r_MTo_stone_43, r_MTo_stone_44, r_MTo_stone_45, r_MTo_stone_48, r_MTo_stone_49, r_MTo_stone_52, r_MTo_stone_53, r_MTo_stone_54, r_MTo_stone_57, r_MTo_stone_60, r_MTo_stone_63, r_MTo_stone_64, r_MTo_stone_67, r_MTo_stone_68, r_MTo_stone_69, r_MTo_stone_69i, r_MTo_stone_70, r_MTo_stone_73, r_MTo_stone_74, r_MTo_stone_75, r_MTo_stone_78, r_MTo_stone_81, r_MTo_stone_82, r_MTo_stone_83, r_MTo_stone_86, r_MTo_stone_89, r_MTo_stone_90, r_MTo_stone_91, r_MTo_stone_92, r_MTo_stone_95, r_MTo_stone_98, r_MTo_stone_99, r_MTa_rewind_0, r_MTa_rewind_1, r_MTa_rewind_2, r_MTa_rewind_5, r_MTa_clear_0, r_MTa_clear_1, r_MTa_clear_2, r_MTa_clear_5, r_MTa_clear_6, r_MTa_clear_7, r_MTa_clear_10, sL_0, sL_1, sL_2, mk_i, mk_r, mk_f, mk_n, mk_u, mk_l, List.set_cons_succ, List.set_cons_zero, Nat.reduceAdd, ckS_0, ckS_1, ckS_2, ckS_3, ckS_4, Option.bind_some, Option.isSome_some, psh, if_true, if_false, i10, not_true_eq_false, not_false_eq_true, Bool.false_eq_true, and_self, and_true, true_and, eq_self, qI_0_9, qI_0_10, qI_1_1, qI_1_2, qR_0_0, qRd_0_0, qR_0_1, qRd_0_1, qR_0_2, qRd_0_2, qR_0_3, qRd_0_3, qR_0_4, qRd_0_4, qR_0_5, qRd_0_5, qR_0_6, qRd_0_6, qR_0_7, qRd_0_7, qR_0_8, qRd_0_8, qR_1_0, qRd_1_0, qQ_3, qQd_3, qO_0, qO_1, qL_3, qLd_3, qa.1.1, h0, z0, z1, cS, iS, eS, rw0, t0, e, t2, ef, or_self]
      · rw [if_neg c, clC_o (by decide), t1]
      · rw [clC_o (by omega), lo c j h]
-- the model's stone, what it writes
theorem stW_c (hb : bt mu' = bt mu) : stW mu' = stW mu := by unfold stW; rw [lpS_c hb, lpsS_c hb]
theorem stZ_c (hb : bt mu' = bt mu) : stZ mu' = stZ mu := by unfold stZ; rw [lpS_c hb, lpsS_c hb]
theorem stEnd_c (hb : bt mu' = bt mu) (ht : Tt mu' = Tt mu) : stEnd mu' = stEnd mu := by
  unfold stEnd enT
  rw [stZ_c hb, rtD_c hb, ht]
theorem lmsM_g : ∀ (W : List Lp) (L : Nat) (m : Mu), L + W.length ≤ 12 → gOk ivG m → gOk ivG (lmsM m S L W)
  | [], _, _, _, hg => hg
  | x :: W, L, m, h, hg => by
    rw [List.length_cons] at h
    refine lmsM_g W (L + 1) _ (by omega) ?_
    unfold lmM
    refine gOk_r (gOk_r (gOk_r (gOk_r hg (by decide) (top_ok _)) (by decide) (top_ok _)) (by decide) (top_ok _)) (by decide) ?_
    have e : (nI (L + 1)).toInt = ((L + 1 : Nat) : Int) := nI_toInt (by omega)
    show (0 : Int) ≤ (nI (L + 1)).toInt ∧ (nI (L + 1)).toInt ≤ 12
    omega
theorem lmsM_fr : ∀ (W : List Lp) (L : Nat) (m : Mu), frm wStM m la ro (lmsM m S L W) la ro
  | [], _, _ => frm_r _ _ _ _
  | x :: W, L, m => frm_t (frm_t (frm_t (frm_t (frm_up (.inl (by decide))) (frm_up (.inl (by decide)))) (frm_up (.inl (by decide)))) (frm_up (.inl (by decide)))) (lmsM_fr W (L + 1) (lmM m S L x))
theorem stW_len : (stW m).length ≤ 12 := Nat.succ_le_succ (lps_len 11 _)
theorem stW_pos : 1 ≤ (stW m).length := Nat.succ_le_succ (Nat.zero_le _)
theorem srM_g (hg : gOk ivG m) : gOk ivG (srM m S) := by
  unfold srM rtM4
  exact gOk_r (gOk_r (gOk_r (gOk_r (lmsM_g (stW m) 0 _ (by have := stW_len (m := m); omega) (gOk_r hg (by decide) (by decide))) (by decide) (top_ok _)) (by decide) (top_ok _)) (by decide) (top_ok _)) (by decide) (top_ok _)
theorem srM_fr : frm wStM m la ro (srM m S) la ro := by
  unfold srM rtM4
  exact frm_t (frm_t (frm_t (frm_t (frm_t (frm_up (.inl (by decide))) (lmsM_fr (stW m) 0 _)) (frm_up (.inl (by decide)))) (frm_up (.inl (by decide)))) (frm_up (.inl (by decide)))) (frm_up (.inl (by decide)))
theorem qm_g (hg : gOk ivG m) (h : s.1 ≤ 120) : gOk ivG (qm m s) := by
  unfold qm
  refine gOk_f (gOk_f hg ?_) (top_ok _)
  have e : (nI s.1).toInt = ((s.1 : Nat) : Int) := nI_toInt (by omega)
  show (0 : Int) ≤ (nI s.1).toInt ∧ (nI s.1).toInt ≤ 120
  omega
theorem qm_fr : frm wStM m la ro (qm m s) la ro := frm_t (frm_up (k := 18) (.inr (by decide))) (frm_up (k := 19) (.inr (by decide)))
theorem stEnd_b (hT : tOK m) : bS (stEnd m) := by
  have fz : fw m (0, none) (0, none) := fw_r (Nat.zero_le _) (fun k h => by cases h)
  have f2 : fw m (0, none) (stZ m) := fw_lps 11 _ (fw_lp fz)
  have f3 : fw m (0, none) (rtD m (stZ m)).2 := fw_nm (fw_tk (by decide) (fw_nm (fw_tk (by decide) (fw_nm (fw_tk (by decide) (fw_nm (fw_tk (by decide) f2)))))))
  refine fw_bS hT (s := (0, none)) ?_
  unfold stEnd enT
  split
  · split
    · exact fw_fl f3
    · exact f3
  · exact f3
/-- the model's memory behind stone -/
noncomputable def snM (m : Mu) (S : Nat) : Mu := if S = 6 then m else if noS (stEnd m) = true then up2 (up2 (qm (srM m S) (stEnd m)) 81 2 0) 81 3 (nI (S + 1)) else up2 (qm (srM m S) (stEnd m)) 81 2 0
theorem snM_g (hg : gOk ivG m) (hS : S ≤ 6) : gOk ivG (snM m S) := by
  have g1 := gOk_2 (qm_g (srM_g (S := S) hg) (stEnd_b (g_tOK hg)).1)
  unfold snM
  split
  · exact hg
  · split
    · refine gOk_f g1 ?_
      have e : (nI (S + 1)).toInt = ((S + 1 : Nat) : Int) := nI_toInt (by omega)
      show (0 : Int) ≤ (nI (S + 1)).toInt ∧ (nI (S + 1)).toInt ≤ 6
      omega
    · exact g1
theorem snM_fr : frm wStM m la ro (snM m S) la ro := by
  have f1 : frm wStM m la ro (up2 (qm (srM m S) (stEnd m)) 81 2 0) la ro := frm_t (frm_t srM_fr qm_fr) (frm_up (k := 2) (.inr (by decide)))
  unfold snM
  split
  · exact frm_r _ _ _ _
  · split
    · exact frm_t f1 (frm_up (k := 3) (.inr (by decide)))
    · exact f1
end
