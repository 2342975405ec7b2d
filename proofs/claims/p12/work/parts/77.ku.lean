-- ===== hands drawn, both sides; roll, both sides
noncomputable def drF (z : Int32) : Int32 := z * 1103515245 + 12345
noncomputable def uhF (z : Int32) : Int32 := (z.toUInt32 >>> ((8 : Int32).toUInt32 &&& Int32.toUInt32 31)).toInt32
noncomputable def hsF (z : Int32) : Int32 := uhF z - uhF z / 1001 * 1001 - 500
noncomputable def hqF (z : Int32) : Int32 := uhF z - uhF z / 50 * 50
noncomputable def haN (B : Int32 → Int32 → Nat) : Nat → Int32 → Nat → Nat
  | 0, _, c => c
  | q + 1, z, c => haN B q (drF (drF (drF z))) (if B (hsF (drF z)) (1000 * hqF (drF (drF z)) + hqF (drF (drF (drF z)))) = 0 then c else c + 1)
section
variable {X : Tok} {d : Nat} {mu mu1 m m' m0 mu' mM : Mu} {la la1 la' : La} {ro ro1 ro' : Ro} {et : Nat → Option va_E} {N n S r i j a b nt L : Nat} {g k x y z s pc ca cb cc cd w t fl c : Int32} {T T2 G : Nat → Int32} {f : Option Nat} {LS : Nat → List Ln} {P : Nat → Nat → Int32} {l2 l3 l6 l7 l8 l9 : Value}
theorem uh_n (z : Int32) : ∃ U, U < 2 ^ 24 ∧ uhF z = nI U := by
  have hz := z.toBitVec.isLt
  refine ⟨z.toBitVec.toNat / 256, by omega, Int32.toBitVec_inj.mp ?_⟩
  have e : (uhF z).toBitVec = z.toBitVec >>> 8 := rfl
  have e2 : (nI (z.toBitVec.toNat / 256)).toBitVec = BitVec.ofNat 32 (z.toBitVec.toNat / 256) := rfl
  rw [e, e2]
  refine BitVec.eq_of_toNat_eq ?_
  rw [BitVec.toNat_ushiftRight, BitVec.toNat_ofNat, Nat.shiftRight_eq_div_pow, Nat.mod_eq_of_lt (by omega)]
theorem hq_n (z : Int32) : ∃ V, V < 50 ∧ hqF z = nI V := by
  obtain ⟨U, hU, e⟩ := uh_n z
  refine ⟨U % 50, by omega, ?_⟩
  unfold hqF
  rw [e]
  have h1 : nI U / 50 = nI (U / 50) := dv_n (a := U) (b := 50) (by decide) (by omega) (by decide)
  rw [h1]
  exact md_n (a := U) (b := 50)
theorem hs_b (z1 z2 z3 : Int32) : stB (hsF z1) (1000 * hqF z2 + hqF z3) := by
  obtain ⟨U, hU, e⟩ := uh_n z1
  obtain ⟨V, hV, e2⟩ := hq_n z2
  obtain ⟨W, hW, e3⟩ := hq_n z3
  have e1 : hsF z1 = nI (U % 1001) - 500 := by
    unfold hsF
    rw [e]
    have h1 : nI U / 1001 = nI (U / 1001) := dv_n (a := U) (b := 1001) (by decide) (by omega) (by decide)
    have h2 : nI U - nI (U / 1001) * 1001 = nI (U % 1001) := md_n (a := U) (b := 1001)
    rw [h1, h2]
  have e4 : (1000 : Int32) * nI V + nI W = nI (1000 * V + W) := by
    rw [show (1000 : Int32) = nI 1000 from rfl, show nI 1000 * nI V = nI (1000 * V) from (Int32.ofNat_mul 1000 V).symm, nI_add]
  have t : (nI (U % 1001) - 500).toInt = ((U % 1001 : Nat) : Int) - 500 := by
    rw [Int32.toInt_sub, nI_toInt (by omega), show (500 : Int32).toInt = 500 from rfl]
    exact Int.bmod_eq_of_le (by omega) (by omega)
  rw [e1, e2, e3, e4]
  unfold stB
  simp only [Int32.le_iff_toInt_le]
  rw [t, nI_toInt (by omega), show (-999 : Int32).toInt = -999 from rfl, show (999 : Int32).toInt = 999 from rfl, show (999999 : Int32).toInt = 999999 from rfl, show (0 : Int32).toInt = 0 from rfl]
  omega
theorem e_drawn {h : Hp} : Rr X d MTo_drawn 0 [.int z] [] h = some (some (.int (drF z)), h) := by
  unfold drF
  simp only [r_MTo_drawn_0, r_MTo_drawn_1, r_MTo_drawn_4, r_MTo_drawn_5, r_MTo_drawn_8, r_MTo_drawn_9, sL_0, sL_1, sL_2, mk_i, mk_r, mk_f, mk_n, mk_u, mk_l, List.set_cons_succ, List.set_cons_zero, Nat.reduceAdd, ckS_0, ckS_1, ckS_2, ckS_3, ckS_4, Option.bind_some, Option.isSome_some, psh, if_true, if_false, i10, not_true_eq_false, not_false_eq_true, Bool.false_eq_true, and_self, and_true, true_and, eq_self]
theorem e_draw (hz : m 81 46 = z) (ha : ¬ c = 0) : Rr X d MRm_draw 0 [.ref 81, .int c] [] (Wd m la ro et) = some (some (.int (uhF (drF z) - uhF (drF z) / c * c)), Wd (up2 m 81 46 (drF z)) la ro et) := by
  have v : ∀ x, up2 m 81 46 x 81 46 = x := fun x => up2_s _ _ _ _
  unfold uhF drF
  simp only [r_MRm_draw_0, r_MRm_draw_1, r_MRm_draw_2, r_MRm_draw_5, r_MRm_draw_8, r_MRm_draw_9, r_MRm_draw_12, r_MRm_draw_13, r_MRm_draw_16, r_MRm_draw_17, r_MRm_draw_20, r_MRm_draw_22, r_MRm_draw_23, r_MRm_draw_24, r_MRm_draw_25, sL_0, sL_1, sL_2, mk_i, mk_r, mk_f, mk_n, mk_u, mk_l, List.set_cons_succ, List.set_cons_zero, Nat.reduceAdd, ckS_0, ckS_1, ckS_2, ckS_3, ckS_4, Option.bind_some, Option.isSome_some, psh, if_true, if_false, i10, not_true_eq_false, not_false_eq_true, Bool.false_eq_true, and_self, and_true, true_and, eq_self, qI_81_0, qI_81_2, qI_81_3, qI_81_9, qI_81_10, qI_81_11, qI_81_12, qI_81_13, qI_81_18, qI_81_19, qI_81_20, qI_81_21, qI_81_29, qI_81_30, qI_81_31, qI_81_32, qI_81_33, qI_81_34, qI_81_35, qI_81_39, qI_81_40, qI_81_41, qI_81_42, qI_81_43, qI_81_44, qI_81_45, qI_81_46, qI_81_47, qI_81_51, qI_81_53, qR_81_1, qRd_81_1, qR_81_4, qRd_81_4, qR_81_5, qRd_81_5, qR_81_6, qRd_81_6, qR_81_7, qRd_81_7, qR_81_8, qRd_81_8, qR_81_14, qRd_81_14, qR_81_15, qRd_81_15, qR_81_16, qRd_81_16, qR_81_17, qRd_81_17, qR_81_22, qRd_81_22, qR_81_23, qRd_81_23, qR_81_24, qRd_81_24, qR_81_25, qRd_81_25, qR_81_26, qRd_81_26, qR_81_27, qRd_81_27, qR_81_28, qRd_81_28, qR_81_36, qRd_81_36, qR_81_37, qRd_81_37, qR_81_38, qRd_81_38, qR_81_48, qRd_81_48, qR_81_49, qRd_81_49, qR_81_50, qRd_81_50, qR_81_52, qRd_81_52, qR_81_54, qRd_81_54, qR_81_55, qRd_81_55, qR_81_56, qRd_81_56, qR_81_57, qRd_81_57, qR_81_58, qRd_81_58, qO_81, hz, v, ha]
set_option maxHeartbeats 4000000 in
theorem c_haL (hn : n ≤ 4) (hnt : nt ≤ 20) : ∀ (q i c : Nat) (z : Int32) (m : Mu) (l7 l8 l9 : Value), i + q = nt → c ≤ i → CoC m k ca cb cc cd → SitC m ro n f 0 → AllC m LS n → ∃ (m' : Mu), Rr X (d + 7) MTo_hands 34 [.ref 0, l2, l3, .int (nI nt), .int z, .int (nI c), .int (nI i), l7, l8, l9] [] (Wd m la ro et) = some (some (.int (nI (haN (fun s w => fbN (goS k ca cb cc cd (flO LS f) 0 s w) 400) q z c))), Wd m' la ro et) ∧ AllC m' LS n
  | 0, i, c, z, m, l7, l8, l9, h, hc, hk, hs, hA => by
    have : i = nt := by omega
    subst this
    have z0 : nI i ≤ nI i := nI_le (a := i) (b := i) (Nat.le_refl _) (by omega)
    refine ⟨m, ?_, hA⟩
    rw [haN]
    simp only [r_MTo_hands_34, r_MTo_hands_36, r_MTo_hands_37, r_MTo_hands_123, r_MTo_hands_125, sL_0, sL_1, sL_2, mk_i, mk_r, mk_f, mk_n, mk_u, mk_l, List.set_cons_succ, List.set_cons_zero, Nat.reduceAdd, ckS_0, ckS_1, ckS_2, ckS_3, ckS_4, Option.bind_some, Option.isSome_some, psh, if_true, if_false, i10, not_true_eq_false, not_false_eq_true, Bool.false_eq_true, and_self, and_true, true_and, eq_self, z0]
  | q + 1, i, c, z, m, l7, l8, l9, h, hc, hk, hs, hA => by
    have z0 : ¬ nI nt ≤ nI i := nI_ge (a := i) (b := nt) (by omega) (by omega)
    obtain ⟨m2, T, eF, o2, A2⟩ := e_firstBack (X := X) (d := d + 1) (la := la) (et := et) (s := hsF (drF z)) (w := 1000 * hqF (drF (drF z)) + hqF (drF (drF (drF z)))) hn hk hs hA
    obtain ⟨V, hV⟩ : ∃ V, V = fbN (goS k ca cb cc cd (flO LS f) 0 (hsF (drF z)) (1000 * hqF (drF (drF z)) + hqF (drF (drF (drF z))))) 400 := ⟨_, rfl⟩
    have hV4 : V ≤ 400 := by rw [hV]; exact (fb_400 _).1
    rw [← hV] at eF
    unfold hsF hqF uhF at eF
    have eV := nI_z (B := V) (by omega)
    have A3 : AllC (moM m2 T) LS n := AllC_k (fun c j h1 h2 => mo_o (by omega)) hn A2
    have k6 : ∀ j, j ≤ 6 → moM m2 T 6 j = m 6 j := fun j h => (mo_k (by omega)).trans (o2 6 j (by omega))
    obtain ⟨m', E, A'⟩ := c_haL hn hnt q (i + 1) (if V = 0 then c else c + 1) (drF (drF (drF z))) (moM m2 T) (.int (hsF (drF z))) (.int (hqF (drF (drF z)))) (.int (hqF (drF (drF (drF z))))) (by omega) (by split <;> omega) (CoC_k k6 hk) (SitC_k k6 hs) A3
    unfold hsF hqF uhF at E
    refine ⟨m', ?_, A'⟩
    rw [haN, ← hV]
    refine Eq.trans ?_ E
    by_cases cV : V = 0
    · rw [if_pos cV]
      have eV0 := eV.trans (eq_true cV)
      simp only [r_MTo_hands_34, r_MTo_hands_36, r_MTo_hands_37, r_MTo_hands_40, r_MTo_hands_42, r_MTo_hands_45, r_MTo_hands_47, r_MTo_hands_49, r_MTo_hands_51, r_MTo_hands_52, r_MTo_hands_55, r_MTo_hands_56, r_MTo_hands_59, r_MTo_hands_60, r_MTo_hands_62, r_MTo_hands_64, r_MTo_hands_67, r_MTo_hands_69, r_MTo_hands_71, r_MTo_hands_73, r_MTo_hands_74, r_MTo_hands_76, r_MTo_hands_77, r_MTo_hands_79, r_MTo_hands_81, r_MTo_hands_84, r_MTo_hands_86, r_MTo_hands_88, r_MTo_hands_90, r_MTo_hands_91, r_MTo_hands_93, r_MTo_hands_94, r_MTo_hands_96, r_MTo_hands_97, r_MTo_hands_99, r_MTo_hands_102, r_MTo_hands_104, r_MTo_hands_105, r_MTo_hands_107, r_MTo_hands_108, r_MTo_hands_111, r_MTo_hands_114, r_MTo_hands_117, r_MTo_hands_120, sL_0, sL_1, sL_2, mk_i, mk_r, mk_f, mk_n, mk_u, mk_l, List.set_cons_succ, List.set_cons_zero, Nat.reduceAdd, ckS_0, ckS_1, ckS_2, ckS_3, ckS_4, Option.bind_some, Option.isSome_some, psh, if_true, if_false, i10, not_true_eq_false, not_false_eq_true, Bool.false_eq_true, and_self, and_true, true_and, eq_self, qI_0_9, qI_0_10, qR_0_0, qRd_0_0, qR_0_1, qRd_0_1, qR_0_2, qRd_0_2, qR_0_3, qRd_0_3, qR_0_4, qRd_0_4, qR_0_5, qRd_0_5, qR_0_6, qRd_0_6, qR_0_7, qRd_0_7, qR_0_8, qRd_0_8, qO_0, z0, e_drawn, eF, eV0, nI_1, show ¬ (1001 : Int32) = 0 by decide, show ¬ (50 : Int32) = 0 by decide]
    · rw [if_neg cV]
      simp only [r_MTo_hands_34, r_MTo_hands_36, r_MTo_hands_37, r_MTo_hands_40, r_MTo_hands_42, r_MTo_hands_45, r_MTo_hands_47, r_MTo_hands_49, r_MTo_hands_51, r_MTo_hands_52, r_MTo_hands_55, r_MTo_hands_56, r_MTo_hands_59, r_MTo_hands_60, r_MTo_hands_62, r_MTo_hands_64, r_MTo_hands_67, r_MTo_hands_69, r_MTo_hands_71, r_MTo_hands_73, r_MTo_hands_74, r_MTo_hands_76, r_MTo_hands_77, r_MTo_hands_79, r_MTo_hands_81, r_MTo_hands_84, r_MTo_hands_86, r_MTo_hands_88, r_MTo_hands_90, r_MTo_hands_91, r_MTo_hands_93, r_MTo_hands_94, r_MTo_hands_96, r_MTo_hands_97, r_MTo_hands_99, r_MTo_hands_102, r_MTo_hands_104, r_MTo_hands_105, r_MTo_hands_107, r_MTo_hands_108, r_MTo_hands_111, r_MTo_hands_114, r_MTo_hands_117, r_MTo_hands_120, sL_0, sL_1, sL_2, mk_i, mk_r, mk_f, mk_n, mk_u, mk_l, List.set_cons_succ, List.set_cons_zero, Nat.reduceAdd, ckS_0, ckS_1, ckS_2, ckS_3, ckS_4, Option.bind_some, Option.isSome_some, psh, if_true, if_false, i10, not_true_eq_false, not_false_eq_true, Bool.false_eq_true, and_self, and_true, true_and, eq_self, qI_0_9, qI_0_10, qR_0_0, qRd_0_0, qR_0_1, qRd_0_1, qR_0_2, qRd_0_2, qR_0_3, qRd_0_3, qR_0_4, qRd_0_4, qR_0_5, qRd_0_5, qR_0_6, qRd_0_6, qR_0_7, qRd_0_7, qR_0_8, qRd_0_8, qO_0, z0, e_drawn, eF, eV, cV, nI_1, show ¬ (1001 : Int32) = 0 by decide, show ¬ (50 : Int32) = 0 by decide]
set_option maxHeartbeats 4000000 in
theorem m_haL (hS : S < N) (hN : N ≤ 6) (hn : n ≤ 4) (hr : r = 9 ∨ r < n) (e1 : g / 10 = nI S) (e2 : g - nI S * 10 = nI r) (hnt : nt ≤ 20) : ∀ (q i c : Nat) (z : Int32) (mM : Mu) (l6 l7 l8 : Value), i + q = nt → c ≤ i → mM 81 46 = z → MdOk m mM N n LS → ∃ (mM' : Mu), Rr X (d + 7) MRm_hands 31 [.ref 81, .int g, l2, .int (nI nt), .int (nI c), .int (nI i), l6, l7, l8] [] (Wd mM la ro et) = some (some (.int (nI (haN (fun s w => fbN (gS m LS (fR r) 0 S (knC m (19 + 5 * S)) s w) 400) q z c))), Wd mM' la ro et)
  | 0, i, c, z, mM, l6, l7, l8, h, hc, hz, hM => by
    have : i = nt := by omega
    subst this
    have z0 : nI i ≤ nI i := nI_le (a := i) (b := i) (Nat.le_refl _) (by omega)
    refine ⟨mM, ?_⟩
    rw [haN]
    simp only [r_MRm_hands_31, r_MRm_hands_33, r_MRm_hands_34, r_MRm_hands_113, r_MRm_hands_115, sL_0, sL_1, sL_2, mk_i, mk_r, mk_f, mk_n, mk_u, mk_l, List.set_cons_succ, List.set_cons_zero, Nat.reduceAdd, ckS_0, ckS_1, ckS_2, ckS_3, ckS_4, Option.bind_some, Option.isSome_some, psh, if_true, if_false, i10, not_true_eq_false, not_false_eq_true, Bool.false_eq_true, and_self, and_true, true_and, eq_self, z0]
  | q + 1, i, c, z, mM, l6, l7, l8, h, hc, hz, hM => by
    have z0 : ¬ nI nt ≤ nI i := nI_ge (a := i) (b := nt) (by omega) (by omega)
    obtain ⟨M1, h1⟩ : ∃ M1, M1 = up2 mM 81 46 (drF z) := ⟨_, rfl⟩
    obtain ⟨M2, h2⟩ : ∃ M2, M2 = up2 M1 81 46 (drF (drF z)) := ⟨_, rfl⟩
    obtain ⟨M3, h3⟩ : ∃ M3, M3 = up2 M2 81 46 (drF (drF (drF z))) := ⟨_, rfl⟩
    have w1 : M1 81 46 = drF z := by rw [h1, up2_s]
    have w2 : M2 81 46 = drF (drF z) := by rw [h2, up2_s]
    have w3 : M3 81 46 = drF (drF (drF z)) := by rw [h3, up2_s]
    have d1 := e_draw (X := X) (d := d + 6) (m := mM) (la := la) (ro := ro) (et := et) (c := 1001) hz (by decide)
    have d2 := e_draw (X := X) (d := d + 6) (m := M1) (la := la) (ro := ro) (et := et) (c := 50) w1 (by decide)
    have d3 := e_draw (X := X) (d := d + 6) (m := M2) (la := la) (ro := ro) (et := et) (c := 50) w2 (by decide)
    rw [← h1] at d1
    rw [← h2] at d2
    rw [← h3] at d3
    have oo : ∀ c j, (¬ c = 81 ∨ ¬ j = 46) → M3 c j = mM c j := fun c j h => by
      rw [h3, up2_e, if_neg (by omega), h2, up2_e, if_neg (by omega), h1, up2_e, if_neg (by omega)]
    have hM3 : MdOk m M3 N n LS := Md_k (fun c j _ _ h => oo c j (by omega)) hM
    obtain ⟨m3, m29, qA, qS⟩ := id hM3
    obtain ⟨⟨L, ⟨hL, h83⟩, hK⟩, hR, hRB⟩ := qS S hS
    have eKM := e_keenOf (X := X) (d := d + 4) (m := M3) (la := la) (ro := ro) (et := et) (show S < 6 by omega) hL h83
    rw [hK] at eKM
    obtain ⟨m1, eG, oG, r44, r45⟩ := e_goThrough (X := X) (d := d) (la := la) (ro := ro) (et := et) (k := knC m (19 + 5 * S)) (f := fR r) (pc := 0) (fl := nI r) (LS := LS) (s := hsF (drF z)) (w := 1000 * hqF (drF (drF z)) + hqF (drF (drF (drF z)))) (show S < 6 by omega) hn hR hRB (sitM_r hn hr) qA (st_bd (hs_b _ _ _))
    obtain ⟨W, hW⟩ : ∃ W, W = bkN (gS m LS (fR r) 0 S (knC m (19 + 5 * S)) (hsF (drF z)) (1000 * hqF (drF (drF z)) + hqF (drF (drF (drF z))))) 400 := ⟨_, rfl⟩
    have hW4 : W ≤ 400 := by rw [hW]; exact (fb_400 _).2
    have hfb := (fb_bk (gS m LS (fR r) 0 S (knC m (19 + 5 * S)) (hsF (drF z)) (1000 * hqF (drF (drF z)) + hqF (drF (drF (drF z))))) 400).1
    have r44 : m1 81 44 = nI W := by rw [hW]; exact r44
    rw [← hW] at hfb
    have eV := nI_z (B := W) (by omega)
    have hM' : MdOk m m1 N n LS := Md_k (fun c j h1 h2 h3 => oG c j h1 h2 (by omega)) hM3
    have z1 : m1 81 46 = drF (drF (drF z)) := (oG 81 46 (by omega) (by omega) (by omega)).trans w3
    unfold hsF hqF at eG
    by_cases cV : W = 0
    · have c' := hfb.mpr cV
      obtain ⟨m', E⟩ := m_haL hS hN hn hr e1 e2 hnt q (i + 1) c (drF (drF (drF z))) m1 (.int (hsF (drF z))) (.int (hqF (drF (drF z)))) (.int (hqF (drF (drF (drF z))))) (by omega) (by omega) z1 hM'
      refine ⟨m', ?_⟩
      rw [haN, if_pos c']
      unfold hsF hqF at E
      refine Eq.trans ?_ E
      simp only [r_MRm_hands_31, r_MRm_hands_33, r_MRm_hands_34, r_MRm_hands_37, r_MRm_hands_38, r_MRm_hands_41, r_MRm_hands_44, r_MRm_hands_47, r_MRm_hands_48, r_MRm_hands_50, r_MRm_hands_51, r_MRm_hands_53, r_MRm_hands_56, r_MRm_hands_58, r_MRm_hands_59, r_MRm_hands_61, r_MRm_hands_64, r_MRm_hands_66, r_MRm_hands_67, r_MRm_hands_68, r_MRm_hands_70, r_MRm_hands_71, r_MRm_hands_72, r_MRm_hands_73, r_MRm_hands_75, r_MRm_hands_76, r_MRm_hands_79, r_MRm_hands_80, r_MRm_hands_82, r_MRm_hands_83, r_MRm_hands_85, r_MRm_hands_88, r_MRm_hands_90, r_MRm_hands_91, r_MRm_hands_93, r_MRm_hands_94, r_MRm_hands_97, r_MRm_hands_98, r_MRm_hands_101, r_MRm_hands_104, r_MRm_hands_107, r_MRm_hands_110, sL_0, sL_1, sL_2, mk_i, mk_r, mk_f, mk_n, mk_u, mk_l, List.set_cons_succ, List.set_cons_zero, Nat.reduceAdd, ckS_0, ckS_1, ckS_2, ckS_3, ckS_4, Option.bind_some, Option.isSome_some, psh, if_true, if_false, i10, not_true_eq_false, not_false_eq_true, Bool.false_eq_true, and_self, and_true, true_and, eq_self, qI_81_0, qI_81_2, qI_81_3, qI_81_9, qI_81_10, qI_81_11, qI_81_12, qI_81_13, qI_81_18, qI_81_19, qI_81_20, qI_81_21, qI_81_29, qI_81_30, qI_81_31, qI_81_32, qI_81_33, qI_81_34, qI_81_35, qI_81_39, qI_81_40, qI_81_41, qI_81_42, qI_81_43, qI_81_44, qI_81_45, qI_81_46, qI_81_47, qI_81_51, qI_81_53, qR_81_1, qRd_81_1, qR_81_4, qRd_81_4, qR_81_5, qRd_81_5, qR_81_6, qRd_81_6, qR_81_7, qRd_81_7, qR_81_8, qRd_81_8, qR_81_14, qRd_81_14, qR_81_15, qRd_81_15, qR_81_16, qRd_81_16, qR_81_17, qRd_81_17, qR_81_22, qRd_81_22, qR_81_23, qRd_81_23, qR_81_24, qRd_81_24, qR_81_25, qRd_81_25, qR_81_26, qRd_81_26, qR_81_27, qRd_81_27, qR_81_28, qRd_81_28, qR_81_36, qRd_81_36, qR_81_37, qRd_81_37, qR_81_38, qRd_81_38, qR_81_48, qRd_81_48, qR_81_49, qRd_81_49, qR_81_50, qRd_81_50, qR_81_52, qRd_81_52, qR_81_54, qRd_81_54, qR_81_55, qRd_81_55, qR_81_56, qRd_81_56, qR_81_57, qRd_81_57, qR_81_58, qRd_81_58, qO_81, z0, e1, e2, d1, d2, d3, eKM, eG, r44, eV.trans (eq_true cV), nI_1, show ¬ (10 : Int32) = 0 by decide]
    · have c' := mt hfb.mp cV
      obtain ⟨m', E⟩ := m_haL hS hN hn hr e1 e2 hnt q (i + 1) (c + 1) (drF (drF (drF z))) m1 (.int (hsF (drF z))) (.int (hqF (drF (drF z)))) (.int (hqF (drF (drF (drF z))))) (by omega) (by omega) z1 hM'
      refine ⟨m', ?_⟩
      rw [haN, if_neg c']
      unfold hsF hqF at E
      refine Eq.trans ?_ E
      simp only [r_MRm_hands_31, r_MRm_hands_33, r_MRm_hands_34, r_MRm_hands_37, r_MRm_hands_38, r_MRm_hands_41, r_MRm_hands_44, r_MRm_hands_47, r_MRm_hands_48, r_MRm_hands_50, r_MRm_hands_51, r_MRm_hands_53, r_MRm_hands_56, r_MRm_hands_58, r_MRm_hands_59, r_MRm_hands_61, r_MRm_hands_64, r_MRm_hands_66, r_MRm_hands_67, r_MRm_hands_68, r_MRm_hands_70, r_MRm_hands_71, r_MRm_hands_72, r_MRm_hands_73, r_MRm_hands_75, r_MRm_hands_76, r_MRm_hands_79, r_MRm_hands_80, r_MRm_hands_82, r_MRm_hands_83, r_MRm_hands_85, r_MRm_hands_88, r_MRm_hands_90, r_MRm_hands_91, r_MRm_hands_93, r_MRm_hands_94, r_MRm_hands_97, r_MRm_hands_98, r_MRm_hands_101, r_MRm_hands_104, r_MRm_hands_107, r_MRm_hands_110, sL_0, sL_1, sL_2, mk_i, mk_r, mk_f, mk_n, mk_u, mk_l, List.set_cons_succ, List.set_cons_zero, Nat.reduceAdd, ckS_0, ckS_1, ckS_2, ckS_3, ckS_4, Option.bind_some, Option.isSome_some, psh, if_true, if_false, i10, not_true_eq_false, not_false_eq_true, Bool.false_eq_true, and_self, and_true, true_and, eq_self, qI_81_0, qI_81_2, qI_81_3, qI_81_9, qI_81_10, qI_81_11, qI_81_12, qI_81_13, qI_81_18, qI_81_19, qI_81_20, qI_81_21, qI_81_29, qI_81_30, qI_81_31, qI_81_32, qI_81_33, qI_81_34, qI_81_35, qI_81_39, qI_81_40, qI_81_41, qI_81_42, qI_81_43, qI_81_44, qI_81_45, qI_81_46, qI_81_47, qI_81_51, qI_81_53, qR_81_1, qRd_81_1, qR_81_4, qRd_81_4, qR_81_5, qRd_81_5, qR_81_6, qRd_81_6, qR_81_7, qRd_81_7, qR_81_8, qRd_81_8, qR_81_14, qRd_81_14, qR_81_15, qRd_81_15, qR_81_16, qRd_81_16, qR_81_17, qRd_81_17, qR_81_22, qRd_81_22, qR_81_23, qRd_81_23, qR_81_24, qRd_81_24, qR_81_25, qRd_81_25, qR_81_26, qRd_81_26, qR_81_27, qRd_81_27, qR_81_28, qRd_81_28, qR_81_36, qRd_81_36, qR_81_37, qRd_81_37, qR_81_38, qRd_81_38, qR_81_48, qRd_81_48, qR_81_49, qRd_81_49, qR_81_50, qRd_81_50, qR_81_52, qRd_81_52, qR_81_54, qRd_81_54, qR_81_55, qRd_81_55, qR_81_56, qRd_81_56, qR_81_57, qRd_81_57, qR_81_58, qRd_81_58, qO_81, z0, e1, e2, d1, d2, d3, eKM, eG, r44, eV, cV, nI_1, show ¬ (10 : Int32) = 0 by decide]
set_option maxHeartbeats 1000000 in
theorem hands_b (hr : rOk ro) (hN : N ≤ 6) (hn : n ≤ 4) (h9 : m 0 9 = nI N) (h0 : m 0 10 = nI n) (hA : AllC m LS n) : ∃ (x : Int32) (m' : Mu) (ro' : Ro), Rr X (d + 7) MTo_hands 0 [.ref 0, .int g, .int z, .int c, mkU, mkU, mkU, mkU, mkU, mkU] [] (Wd m la ro et) = some (some (.int x), Wd m' la ro' et) ∧ AllC m' LS n ∧ ∀ (mM : Mu) (laM : La) (roM : Ro), MdOk m mM N n LS → ∃ mM' : Mu, Rr X (d + 7) MRm_hands 0 [.ref 81, .int g, .int z, .int c, mkU, mkU, mkU, mkU, mkU] [] (Wd mM laM roM et) = some (some (.int x), Wd mM' laM roM et) := by
  have eG := e_isGround (X := X) (d := d + 3) (mu := m) (la := la) (et := et) (g := g) hr hN hn h9 h0
  rcases g_ca hN hn g with ⟨S, r, hG⟩ | hG
  · have eG := eG.1 S r hG
    have eGM := fun (mM : Mu) (laM : La) (roM : Ro) (h3 : mM 81 3 = nI N) (h29 : mM 81 29 = nI n) => (e_isGoing (X := X) (d := d + 4) (mu := mM) (la := laM) (ro := roM) (et := et) (g := g) hN hn h3 h29).1 S r hG
    by_cases hc : 1 ≤ c ∧ c ≤ 20
    · have hc' := hc
      obtain ⟨nt, hnt, rfl⟩ : ∃ nt, nt ≤ 20 ∧ c = nI nt := nn_b (B := 20) (by omega) ⟨Int32.le_trans (by decide) hc.1, hc.2⟩
      obtain ⟨hS, hr', hg⟩ := id hG
      have eL := e_layOwn (X := X) (d := d + 2) (m := m) (la := la) (et := et) hr hN hn h9 h0 hG
      obtain ⟨m1, hm1⟩ : ∃ m1, m1 = ruM m (19 + 5 * S) (knC m (19 + 5 * S)) := ⟨_, rfl⟩
      have o1 : ∀ c j, ¬ c = 6 → m1 c j = m c j := fun c j h => by rw [hm1]; exact ru_o h
      obtain ⟨hk, h66⟩ := ru_co (m := m) (a := 19 + 5 * S) (k := knC m (19 + 5 * S)) (by omega)
      have hs := ru_sit (m := m) (a := 19 + 5 * S) (k := knC m (19 + 5 * S)) (ro := ro) (n := n) hr' hn
      rw [← hm1] at eL hk hs
      have A1 := AllC_k (m' := m1) (fun c j h1 h2 => o1 c j (by omega)) hn hA
      obtain ⟨m', E, A'⟩ := c_haL (X := X) (d := d) (la := la) (et := et) (l2 := .int g) (l3 := .int z) hn hnt nt 0 0 z m1 mkU mkU mkU (by omega) (Nat.le_refl _) hk hs A1
      rw [show nI 0 = (0 : Int32) from rfl] at E
      refine ⟨nI (haN (fun s w => fbN (gS m LS (fR r) 0 S (knC m (19 + 5 * S)) s w) 400) nt z 0), m', upR ro 6 5 (flN r), ?_, A', fun mM laM roM hM => ?_⟩
      · refine Eq.trans ?_ E
        simp only [r_MTo_hands_0, r_MTo_hands_1, r_MTo_hands_2, r_MTo_hands_5, r_MTo_hands_8, r_MTo_hands_9, r_MTo_hands_10, r_MTo_hands_12, r_MTo_hands_15, r_MTo_hands_18, r_MTo_hands_19, r_MTo_hands_20, r_MTo_hands_21, r_MTo_hands_22, r_MTo_hands_25, r_MTo_hands_26, r_MTo_hands_28, r_MTo_hands_29, r_MTo_hands_31, r_MTo_hands_32, sL_0, sL_1, sL_2, mk_i, mk_r, mk_f, mk_n, mk_u, mk_l, List.set_cons_succ, List.set_cons_zero, Nat.reduceAdd, ckS_0, ckS_1, ckS_2, ckS_3, ckS_4, Option.bind_some, Option.isSome_some, psh, if_true, if_false, i10, not_true_eq_false, not_false_eq_true, Bool.false_eq_true, and_self, and_true, true_and, eq_self, qI_0_9, qI_0_10, qR_0_0, qRd_0_0, qR_0_1, qRd_0_1, qR_0_2, qRd_0_2, qR_0_3, qRd_0_3, qR_0_4, qRd_0_4, qR_0_5, qRd_0_5, qR_0_6, qRd_0_6, qR_0_7, qRd_0_7, qR_0_8, qRd_0_8, qO_0, eG, e_isWithin, hc', eL]
      · obtain ⟨e1, e2⟩ := g_dv (r := r) (S := S) (by omega) (by omega)
        rw [← hg] at e1 e2
        have eGM := eGM mM laM roM hM.1 hM.2.1
        obtain ⟨mM1, hmM1⟩ : ∃ mM1, mM1 = up2 mM 81 46 z := ⟨_, rfl⟩
        have u1 := hmM1.symm
        obtain ⟨mM', E⟩ := m_haL (X := X) (d := d) (la := laM) (ro := roM) (et := et) (m := m) (LS := LS) (l2 := .int z) hS hN hn hr' e1 e2 hnt nt 0 0 z mM1 mkU mkU mkU (by omega) (Nat.le_refl _) (by rw [hmM1, up2_s]) (Md_k (fun c j _ _ h => by rw [hmM1, up2_e, if_neg (by omega)]) hM)
        rw [show nI 0 = (0 : Int32) from rfl] at E
        refine ⟨mM', ?_⟩
        refine Eq.trans ?_ E
        simp only [r_MRm_hands_0, r_MRm_hands_1, r_MRm_hands_2, r_MRm_hands_5, r_MRm_hands_8, r_MRm_hands_9, r_MRm_hands_10, r_MRm_hands_12, r_MRm_hands_15, r_MRm_hands_18, r_MRm_hands_19, r_MRm_hands_20, r_MRm_hands_21, r_MRm_hands_22, r_MRm_hands_25, r_MRm_hands_26, r_MRm_hands_28, r_MRm_hands_29, sL_0, sL_1, sL_2, mk_i, mk_r, mk_f, mk_n, mk_u, mk_l, List.set_cons_succ, List.set_cons_zero, Nat.reduceAdd, ckS_0, ckS_1, ckS_2, ckS_3, ckS_4, Option.bind_some, Option.isSome_some, psh, if_true, if_false, i10, not_true_eq_false, not_false_eq_true, Bool.false_eq_true, and_self, and_true, true_and, eq_self, qI_81_0, qI_81_2, qI_81_3, qI_81_9, qI_81_10, qI_81_11, qI_81_12, qI_81_13, qI_81_18, qI_81_19, qI_81_20, qI_81_21, qI_81_29, qI_81_30, qI_81_31, qI_81_32, qI_81_33, qI_81_34, qI_81_35, qI_81_39, qI_81_40, qI_81_41, qI_81_42, qI_81_43, qI_81_44, qI_81_45, qI_81_46, qI_81_47, qI_81_51, qI_81_53, qR_81_1, qRd_81_1, qR_81_4, qRd_81_4, qR_81_5, qRd_81_5, qR_81_6, qRd_81_6, qR_81_7, qRd_81_7, qR_81_8, qRd_81_8, qR_81_14, qRd_81_14, qR_81_15, qRd_81_15, qR_81_16, qRd_81_16, qR_81_17, qRd_81_17, qR_81_22, qRd_81_22, qR_81_23, qRd_81_23, qR_81_24, qRd_81_24, qR_81_25, qRd_81_25, qR_81_26, qRd_81_26, qR_81_27, qRd_81_27, qR_81_28, qRd_81_28, qR_81_36, qRd_81_36, qR_81_37, qRd_81_37, qR_81_38, qRd_81_38, qR_81_48, qRd_81_48, qR_81_49, qRd_81_49, qR_81_50, qRd_81_50, qR_81_52, qRd_81_52, qR_81_54, qRd_81_54, qR_81_55, qRd_81_55, qR_81_56, qRd_81_56, qR_81_57, qRd_81_57, qR_81_58, qRd_81_58, qO_81, eGM, e_in, hc', u1]
    · refine ⟨-1, m, ro, ?_, hA, fun mM laM roM hM => ⟨mM, ?_⟩⟩
      · simp only [r_MTo_hands_0, r_MTo_hands_1, r_MTo_hands_2, r_MTo_hands_5, r_MTo_hands_8, r_MTo_hands_9, r_MTo_hands_10, r_MTo_hands_12, r_MTo_hands_15, r_MTo_hands_18, r_MTo_hands_19, sL_0, sL_1, sL_2, mk_i, mk_r, mk_f, mk_n, mk_u, mk_l, List.set_cons_succ, List.set_cons_zero, Nat.reduceAdd, ckS_0, ckS_1, ckS_2, ckS_3, ckS_4, Option.bind_some, Option.isSome_some, psh, if_true, if_false, i10, not_true_eq_false, not_false_eq_true, Bool.false_eq_true, and_self, and_true, true_and, eq_self, qI_0_9, qI_0_10, qR_0_0, qRd_0_0, qR_0_1, qRd_0_1, qR_0_2, qRd_0_2, qR_0_3, qRd_0_3, qR_0_4, qRd_0_4, qR_0_5, qRd_0_5, qR_0_6, qRd_0_6, qR_0_7, qRd_0_7, qR_0_8, qRd_0_8, qO_0, eG, e_isWithin, hc]
      · have eGM := eGM mM laM roM hM.1 hM.2.1
        simp only [r_MRm_hands_0, r_MRm_hands_1, r_MRm_hands_2, r_MRm_hands_5, r_MRm_hands_8, r_MRm_hands_9, r_MRm_hands_10, r_MRm_hands_12, r_MRm_hands_15, r_MRm_hands_18, r_MRm_hands_19, sL_0, sL_1, sL_2, mk_i, mk_r, mk_f, mk_n, mk_u, mk_l, List.set_cons_succ, List.set_cons_zero, Nat.reduceAdd, ckS_0, ckS_1, ckS_2, ckS_3, ckS_4, Option.bind_some, Option.isSome_some, psh, if_true, if_false, i10, not_true_eq_false, not_false_eq_true, Bool.false_eq_true, and_self, and_true, true_and, eq_self, qI_81_0, qI_81_2, qI_81_3, qI_81_9, qI_81_10, qI_81_11, qI_81_12, qI_81_13, qI_81_18, qI_81_19, qI_81_20, qI_81_21, qI_81_29, qI_81_30, qI_81_31, qI_81_32, qI_81_33, qI_81_34, qI_81_35, qI_81_39, qI_81_40, qI_81_41, qI_81_42, qI_81_43, qI_81_44, qI_81_45, qI_81_46, qI_81_47, qI_81_51, qI_81_53, qR_81_1, qRd_81_1, qR_81_4, qRd_81_4, qR_81_5, qRd_81_5, qR_81_6, qRd_81_6, qR_81_7, qRd_81_7, qR_81_8, qRd_81_8, qR_81_14, qRd_81_14, qR_81_15, qRd_81_15, qR_81_16, qRd_81_16, qR_81_17, qRd_81_17, qR_81_22, qRd_81_22, qR_81_23, qRd_81_23, qR_81_24, qRd_81_24, qR_81_25, qRd_81_25, qR_81_26, qRd_81_26, qR_81_27, qRd_81_27, qR_81_28, qRd_81_28, qR_81_36, qRd_81_36, qR_81_37, qRd_81_37, qR_81_38, qRd_81_38, qR_81_48, qRd_81_48, qR_81_49, qRd_81_49, qR_81_50, qRd_81_50, qR_81_52, qRd_81_52, qR_81_54, qRd_81_54, qR_81_55, qRd_81_55, qR_81_56, qRd_81_56, qR_81_57, qRd_81_57, qR_81_58, qRd_81_58, qO_81, eGM, e_in, hc]
  · have eG := eG.2 hG
    refine ⟨-1, m, ro, ?_, hA, fun mM laM roM hM => ⟨mM, ?_⟩⟩
    · simp only [r_MTo_hands_0, r_MTo_hands_1, r_MTo_hands_2, r_MTo_hands_5, r_MTo_hands_8, r_MTo_hands_9, r_MTo_hands_10, r_MTo_hands_12, r_MTo_hands_15, r_MTo_hands_18, r_MTo_hands_19, sL_0, sL_1, sL_2, mk_i, mk_r, mk_f, mk_n, mk_u, mk_l, List.set_cons_succ, List.set_cons_zero, Nat.reduceAdd, ckS_0, ckS_1, ckS_2, ckS_3, ckS_4, Option.bind_some, Option.isSome_some, psh, if_true, if_false, i10, not_true_eq_false, not_false_eq_true, Bool.false_eq_true, and_self, and_true, true_and, eq_self, qI_0_9, qI_0_10, qR_0_0, qRd_0_0, qR_0_1, qRd_0_1, qR_0_2, qRd_0_2, qR_0_3, qRd_0_3, qR_0_4, qRd_0_4, qR_0_5, qRd_0_5, qR_0_6, qRd_0_6, qR_0_7, qRd_0_7, qR_0_8, qRd_0_8, qO_0, eG]
    · have eGM := (e_isGoing (X := X) (d := d + 4) (mu := mM) (la := laM) (ro := roM) (et := et) (g := g) hN hn hM.1 hM.2.1).2 hG
      simp only [r_MRm_hands_0, r_MRm_hands_1, r_MRm_hands_2, r_MRm_hands_5, r_MRm_hands_8, r_MRm_hands_9, r_MRm_hands_10, r_MRm_hands_12, r_MRm_hands_15, r_MRm_hands_18, r_MRm_hands_19, sL_0, sL_1, sL_2, mk_i, mk_r, mk_f, mk_n, mk_u, mk_l, List.set_cons_succ, List.set_cons_zero, Nat.reduceAdd, ckS_0, ckS_1, ckS_2, ckS_3, ckS_4, Option.bind_some, Option.isSome_some, psh, if_true, if_false, i10, not_true_eq_false, not_false_eq_true, Bool.false_eq_true, and_self, and_true, true_and, eq_self, qI_81_0, qI_81_2, qI_81_3, qI_81_9, qI_81_10, qI_81_11, qI_81_12, qI_81_13, qI_81_18, qI_81_19, qI_81_20, qI_81_21, qI_81_29, qI_81_30, qI_81_31, qI_81_32, qI_81_33, qI_81_34, qI_81_35, qI_81_39, qI_81_40, qI_81_41, qI_81_42, qI_81_43, qI_81_44, qI_81_45, qI_81_46, qI_81_47, qI_81_51, qI_81_53, qR_81_1, qRd_81_1, qR_81_4, qRd_81_4, qR_81_5, qRd_81_5, qR_81_6, qRd_81_6, qR_81_7, qRd_81_7, qR_81_8, qRd_81_8, qR_81_14, qRd_81_14, qR_81_15, qRd_81_15, qR_81_16, qRd_81_16, qR_81_17, qRd_81_17, qR_81_22, qRd_81_22, qR_81_23, qRd_81_23, qR_81_24, qRd_81_24, qR_81_25, qRd_81_25, qR_81_26, qRd_81_26, qR_81_27, qRd_81_27, qR_81_28, qRd_81_28, qR_81_36, qRd_81_36, qR_81_37, qRd_81_37, qR_81_38, qRd_81_38, qR_81_48, qRd_81_48, qR_81_49, qRd_81_49, qR_81_50, qRd_81_50, qR_81_52, qRd_81_52, qR_81_54, qRd_81_54, qR_81_55, qRd_81_55, qR_81_56, qRd_81_56, qR_81_57, qRd_81_57, qR_81_58, qRd_81_58, qO_81, eGM]
end
