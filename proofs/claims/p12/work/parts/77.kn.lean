-- ===== roll: the model; one answer
section
variable {X : Tok} {d : Nat} {mu mu1 mu' m m' : Mu} {la la1 la' : La} {ro ro1 ro' : Ro} {et : Nat → Option va_E} {N n S r F a R nt i j c L : Nat} {g s w x y z k ca cb cc cd pc t fl x1 x2 : Int32} {T T' T0 G : Nat → Int32} {f : Option Nat} {LS : Nat → List Ln} {P : Nat → Nat → Int32} {w2 : Hp}
theorem e_beginM : Rr X d MRm_begin 0 [.ref 81, .int s, .int w] [] (Wd m la ro et) = some (none, Wd (moG m (gG (beT s (w / 1000) (w - w / 1000 * 1000) 0))) la ro et) := by
  have e : up2 (up2 (up2 (up2 (up2 (up2 m 81 30 s) 81 31 (w / 1000)) 81 32 (w - w / 1000 * 1000)) 81 33 0) 81 34 0) 81 35 0 = moG m (gG (beT s (w / 1000) (w - w / 1000 * 1000) 0)) := by
    refine funext fun c => funext fun i => ?_
    unfold moG
    simp only [up2_e]
    by_cases h : c = 81
    · subst h
      by_cases h2 : 30 ≤ i ∧ i ≤ 35
      · rw [if_pos (show (81 : Nat) = 81 ∧ 30 ≤ i ∧ i ≤ 35 from ⟨rfl, h2⟩)]
        have : i = 30 ∨ i = 31 ∨ i = 32 ∨ i = 33 ∨ i = 34 ∨ i = 35 := by omega
        rcases this with rfl | rfl | rfl | rfl | rfl | rfl <;> rfl
      · rw [if_neg (show ¬ ((81 : Nat) = 81 ∧ 30 ≤ i ∧ i ≤ 35) from fun z => h2 z.2), if_neg (by omega), if_neg (by omega), if_neg (by omega), if_neg (by omega), if_neg (by omega), if_neg (by omega)]
    · rw [if_neg (by omega), if_neg (by omega), if_neg (by omega), if_neg (by omega), if_neg (by omega), if_neg (by omega), if_neg (by omega)]
  simp only [r_MRm_begin_0, r_MRm_begin_1, r_MRm_begin_2, r_MRm_begin_5, r_MRm_begin_6, r_MRm_begin_7, r_MRm_begin_10, r_MRm_begin_11, r_MRm_begin_14, r_MRm_begin_15, r_MRm_begin_16, r_MRm_begin_19, r_MRm_begin_20, r_MRm_begin_23, r_MRm_begin_24, r_MRm_begin_25, r_MRm_begin_28, r_MRm_begin_29, r_MRm_begin_30, r_MRm_begin_33, r_MRm_begin_34, r_MRm_begin_35, r_MRm_begin_38, sL_0, sL_1, sL_2, mk_i, mk_r, mk_f, mk_n, mk_u, mk_l, List.set_cons_succ, List.set_cons_zero, Nat.reduceAdd, ckS_0, ckS_1, ckS_2, ckS_3, ckS_4, Option.bind_some, Option.isSome_some, psh, if_true, if_false, i10, not_true_eq_false, not_false_eq_true, Bool.false_eq_true, and_self, and_true, true_and, eq_self, qI_81_0, qI_81_2, qI_81_3, qI_81_9, qI_81_10, qI_81_11, qI_81_12, qI_81_13, qI_81_18, qI_81_19, qI_81_20, qI_81_21, qI_81_29, qI_81_30, qI_81_31, qI_81_32, qI_81_33, qI_81_34, qI_81_35, qI_81_39, qI_81_40, qI_81_41, qI_81_42, qI_81_43, qI_81_44, qI_81_45, qI_81_46, qI_81_47, qI_81_51, qI_81_53, qR_81_1, qRd_81_1, qR_81_4, qRd_81_4, qR_81_5, qRd_81_5, qR_81_6, qRd_81_6, qR_81_7, qRd_81_7, qR_81_8, qRd_81_8, qR_81_14, qRd_81_14, qR_81_15, qRd_81_15, qR_81_16, qRd_81_16, qR_81_17, qRd_81_17, qR_81_22, qRd_81_22, qR_81_23, qRd_81_23, qR_81_24, qRd_81_24, qR_81_25, qRd_81_25, qR_81_26, qRd_81_26, qR_81_27, qRd_81_27, qR_81_28, qRd_81_28, qR_81_36, qRd_81_36, qR_81_37, qRd_81_37, qR_81_38, qRd_81_38, qR_81_48, qRd_81_48, qR_81_49, qRd_81_49, qR_81_50, qRd_81_50, qR_81_52, qRd_81_52, qR_81_54, qRd_81_54, qR_81_55, qRd_81_55, qR_81_56, qRd_81_56, qR_81_57, qRd_81_57, qR_81_58, qRd_81_58, qO_81, show ¬ (1000 : Int32) = 0 by decide, e]
set_option maxHeartbeats 2000000 in
theorem e_rollM (hN : N ≤ 6) (hn : n ≤ 4) (h3 : m 81 3 = nI N) (h29 : m 81 29 = nI n) (hG : Grd N n g S r) (hB : stB s w) (hnt : nt ≤ 400) (hA : AllM m LS n) (hR : RtM m S ca cb cc cd) (hRB : RtB cc cd) (hL : L ≤ 12 ∧ m 83 S = nI L) (hK : knM m S L = k) (hP : ∀ i, P i = spN k ca cb cc cd (flO LS (fR r)) 0 i (beT s (w / 1000) (w - w / 1000 * 1000) 0)) : ∃ m' : Mu, Rr X (d + 6) MRm_roll 0 [.ref 81, .int g, .int s, .int w, .int (nI nt), mkU, mkU] [] (Wd m la ro et) = some (some (.int (P nt 7)), Wd m' la ro et) ∧ (∀ c j, ¬ c = 81 → ¬ c = 97 → ¬ c = 98 → (c < 99 ∨ 101 < c) → m' c j = m c j) ∧ (∀ t, t ≤ nt → m' 99 t = P t 7 ∧ m' 100 t = P t 8 ∧ m' 101 t = P t 9) ∧ m' 81 39 = nI nt ∧ m' 81 40 = P nt 14 ∧ m' 81 41 = P nt 15 ∧ m' 81 42 = P nt 16 := by
  obtain ⟨hS, hr', hg⟩ := id hG
  have eG := (e_isGoing (X := X) (d := d + 3) (mu := m) (la := la) (ro := ro) (et := et) (g := g) hN hn h3 h29).1 S r hG
  have eB := (e_startM (X := X) (d := d + 4) (mu := m) (la := la) (ro := ro) (et := et) (s := s) (w := w)).1 hB
  obtain ⟨e1, e2⟩ := g_dv (r := r) (S := S) (by omega) (by omega)
  rw [← hg] at e1 e2
  have eK := e_keenOf (X := X) (d := d + 3) (m := m) (la := la) (ro := ro) (et := et) (show S < 6 by omega) hL.1 hL.2
  rw [hK] at eK
  have eT := e_beginM (X := X) (d := d + 5) (m := m) (la := la) (ro := ro) (et := et) (s := s) (w := w)
  have hP0 : beT s (w / 1000) (w - w / 1000 * 1000) 0 = P 0 := by rw [hP]; rfl
  rw [hP0] at eT
  have en := e_noteM (X := X) (d := d + 5) (m := m) (la := la) (ro := ro) (et := et) (G := gG (P 0)) (j := 0) (by omega)
  have gv : gG (P 0) 30 = P 0 7 ∧ gG (P 0) 31 = P 0 8 ∧ gG (P 0) 32 = P 0 9 := ⟨rfl, rfl, rfl⟩
  rw [gv.1, gv.2.1, gv.2.2, show nI 0 = (0 : Int32) from rfl] at en
  obtain ⟨m2, hm2⟩ : ∃ m2, m2 = ntM m 99 0 (P 0 7) (P 0 8) (P 0 9) := ⟨_, rfl⟩
  rw [← hm2] at en
  have o2 : ∀ c j, (c < 99 ∨ 101 < c) → m2 c j = m c j := fun c j h => by rw [hm2]; exact nt_o (by omega)
  have hb0 : Bd (beT s (w / 1000) (w - w / 1000 * 1000) 0) := st_bd hB
  have hb : ∀ i, Bd (P i) := fun i => by
    rw [hP]
    exact sn_bd hRB sitP_r i hb0
  have ht : ∀ i, P i 10 = nI i := fun i => by
    rw [hP]
    exact sn_10 i rfl
  have hR2 : RtM m2 S ca cb cc cd := by
    unfold RtM at hR ⊢
    rw [o2 _ _ (by omega), o2 _ _ (by omega), o2 _ _ (by omega), o2 _ _ (by omega)]
    exact hR
  obtain ⟨m3, E, o', r1, r2⟩ := m_rec (X := X) (d := d) (la := la) (ro := ro) (et := et) (g := g) (k := k) (P := P) (l2 := .int s) (l3 := .int w) (fl := nI r) (show S < 6 by omega) hn hnt hRB (sitM_r hn hr') (fun i => by rw [hP, hP]; rfl) hb ht e1 e2 nt 0 m2 (by omega) hR2 (AllM_k (fun c j h1 h2 => o2 c j (by omega)) hA)
  have E : Rr X (d + 6) MRm_roll 55 [.ref 81, .int g, .int s, .int w, .int (nI nt), .int k, .int 1] [] (Wd (moG m2 (gG (P 0))) la ro et) = _ := E
  obtain ⟨m4, hm4⟩ : ∃ m4, m4 = up2 (up2 (up2 (up2 m3 81 39 (nI nt)) 81 40 (P nt 14)) 81 41 (P nt 15)) 81 42 (P nt 16) := ⟨_, rfl⟩
  have uu : up2 (up2 (up2 (up2 (moG m3 (gG (P nt))) 81 39 (nI nt)) 81 40 (P nt 14)) 81 41 (P nt 15)) 81 42 (P nt 16) = moG m4 (gG (P nt)) := by
    rw [mg_uo (by omega), mg_uo (by omega), mg_uo (by omega), mg_uo (by omega), hm4]
  have g30 : ∀ (M : Mu), moG M (gG (P nt)) 81 30 = P nt 7 := fun M => mg_v (by omega) (by omega)
  have g33 : ∀ (M : Mu), moG M (gG (P nt)) 81 33 = P nt 14 := fun M => mg_v (by omega) (by omega)
  have g34 : ∀ (M : Mu), moG M (gG (P nt)) 81 34 = P nt 15 := fun M => mg_v (by omega) (by omega)
  have g35 : ∀ (M : Mu), moG M (gG (P nt)) 81 35 = P nt 16 := fun M => mg_v (by omega) (by omega)
  have oo : ∀ c j, ¬ c = 81 → moG m4 (gG (P nt)) c j = m3 c j := fun c j h => by rw [mg_o h, hm4, up2_a h, up2_a h, up2_a h, up2_a h]
  have c4 : (0 : Int32) ≤ nI nt ∧ nI nt ≤ 400 := ⟨Int32.not_lt.mp (nI_pos (by omega)), nI_le (a := nt) (b := 400) hnt (by decide)⟩
  refine ⟨moG m4 (gG (P nt)), ?_, fun c j h1 h2 h3 h4 => (oo c j h1).trans ((o' c j h2 h3 h4).trans (o2 c j h4)), fun t ht => ?_, ?_, ?_, ?_, ?_⟩
  · rw [← uu]
    simp only [r_MRm_roll_0, r_MRm_roll_1, r_MRm_roll_2, r_MRm_roll_5, r_MRm_roll_8, r_MRm_roll_9, r_MRm_roll_10, r_MRm_roll_13, r_MRm_roll_16, r_MRm_roll_18, r_MRm_roll_19, r_MRm_roll_22, r_MRm_roll_25, r_MRm_roll_28, r_MRm_roll_30, r_MRm_roll_31, r_MRm_roll_32, r_MRm_roll_33, r_MRm_roll_35, r_MRm_roll_36, r_MRm_roll_39, r_MRm_roll_41, r_MRm_roll_42, r_MRm_roll_43, r_MRm_roll_44, r_MRm_roll_47, r_MRm_roll_48, r_MRm_roll_49, r_MRm_roll_52, r_MRm_roll_53, sL_0, sL_1, sL_2, mk_i, mk_r, mk_f, mk_n, mk_u, mk_l, List.set_cons_succ, List.set_cons_zero, Nat.reduceAdd, ckS_0, ckS_1, ckS_2, ckS_3, ckS_4, Option.bind_some, Option.isSome_some, psh, if_true, if_false, i10, not_true_eq_false, not_false_eq_true, Bool.false_eq_true, and_self, and_true, true_and, eq_self, qI_81_0, qI_81_2, qI_81_3, qI_81_9, qI_81_10, qI_81_11, qI_81_12, qI_81_13, qI_81_18, qI_81_19, qI_81_20, qI_81_21, qI_81_29, qI_81_30, qI_81_31, qI_81_32, qI_81_33, qI_81_34, qI_81_35, qI_81_39, qI_81_40, qI_81_41, qI_81_42, qI_81_43, qI_81_44, qI_81_45, qI_81_46, qI_81_47, qI_81_51, qI_81_53, qR_81_1, qRd_81_1, qR_81_4, qRd_81_4, qR_81_5, qRd_81_5, qR_81_6, qRd_81_6, qR_81_7, qRd_81_7, qR_81_8, qRd_81_8, qR_81_14, qRd_81_14, qR_81_15, qRd_81_15, qR_81_16, qRd_81_16, qR_81_17, qRd_81_17, qR_81_22, qRd_81_22, qR_81_23, qRd_81_23, qR_81_24, qRd_81_24, qR_81_25, qRd_81_25, qR_81_26, qRd_81_26, qR_81_27, qRd_81_27, qR_81_28, qRd_81_28, qR_81_36, qRd_81_36, qR_81_37, qRd_81_37, qR_81_38, qRd_81_38, qR_81_48, qRd_81_48, qR_81_49, qRd_81_49, qR_81_50, qRd_81_50, qR_81_52, qRd_81_52, qR_81_54, qRd_81_54, qR_81_55, qRd_81_55, qR_81_56, qRd_81_56, qR_81_57, qRd_81_57, qR_81_58, qRd_81_58, qO_81, eG, eB, e_in, c4, e1, eK, eT, en, E, show ¬ (10 : Int32) = 0 by decide]
    simp only [r_MRm_roll_90, r_MRm_roll_91, r_MRm_roll_93, r_MRm_roll_96, r_MRm_roll_97, r_MRm_roll_98, r_MRm_roll_101, r_MRm_roll_104, r_MRm_roll_105, r_MRm_roll_106, r_MRm_roll_109, r_MRm_roll_112, r_MRm_roll_113, r_MRm_roll_114, r_MRm_roll_117, r_MRm_roll_120, r_MRm_roll_121, r_MRm_roll_124, sL_0, sL_1, sL_2, mk_i, mk_r, mk_f, mk_n, mk_u, mk_l, List.set_cons_succ, List.set_cons_zero, Nat.reduceAdd, ckS_0, ckS_1, ckS_2, ckS_3, ckS_4, Option.bind_some, Option.isSome_some, psh, if_true, if_false, i10, not_true_eq_false, not_false_eq_true, Bool.false_eq_true, and_self, and_true, true_and, eq_self, qI_81_0, qI_81_2, qI_81_3, qI_81_9, qI_81_10, qI_81_11, qI_81_12, qI_81_13, qI_81_18, qI_81_19, qI_81_20, qI_81_21, qI_81_29, qI_81_30, qI_81_31, qI_81_32, qI_81_33, qI_81_34, qI_81_35, qI_81_39, qI_81_40, qI_81_41, qI_81_42, qI_81_43, qI_81_44, qI_81_45, qI_81_46, qI_81_47, qI_81_51, qI_81_53, qR_81_1, qRd_81_1, qR_81_4, qRd_81_4, qR_81_5, qRd_81_5, qR_81_6, qRd_81_6, qR_81_7, qRd_81_7, qR_81_8, qRd_81_8, qR_81_14, qRd_81_14, qR_81_15, qRd_81_15, qR_81_16, qRd_81_16, qR_81_17, qRd_81_17, qR_81_22, qRd_81_22, qR_81_23, qRd_81_23, qR_81_24, qRd_81_24, qR_81_25, qRd_81_25, qR_81_26, qRd_81_26, qR_81_27, qRd_81_27, qR_81_28, qRd_81_28, qR_81_36, qRd_81_36, qR_81_37, qRd_81_37, qR_81_38, qRd_81_38, qR_81_48, qRd_81_48, qR_81_49, qRd_81_49, qR_81_50, qRd_81_50, qR_81_52, qRd_81_52, qR_81_54, qRd_81_54, qR_81_55, qRd_81_55, qR_81_56, qRd_81_56, qR_81_57, qRd_81_57, qR_81_58, qRd_81_58, qO_81, up2_e, Nat.reduceEqDiff, and_false, if_false, g30, g33, g34, g35]
  · by_cases h : t = 0
    · subst h
      obtain ⟨a1, a2, a3⟩ := r1 0 (by omega)
      obtain ⟨v1, v2, v3⟩ := nt_v (m := m) (R := 99) (j := 0) (x := P 0 7) (y := P 0 8) (z := P 0 9)
      rw [← hm2] at v1 v2 v3
      exact ⟨(oo _ _ (by decide)).trans (a1.trans v1), (oo _ _ (by decide)).trans (a2.trans v2), (oo _ _ (by decide)).trans (a3.trans v3)⟩
    · obtain ⟨a1, a2, a3⟩ := r2 t (by omega) ht
      exact ⟨(oo _ _ (by decide)).trans a1, (oo _ _ (by decide)).trans a2, (oo _ _ (by decide)).trans a3⟩
  · rw [mg_k (by omega), hm4, up2_k (by decide), up2_k (by decide), up2_k (by decide), up2_s]
  · rw [mg_k (by omega), hm4, up2_k (by decide), up2_k (by decide), up2_s]
  · rw [mg_k (by omega), hm4, up2_k (by decide), up2_s]
  · rw [mg_k (by omega), hm4, up2_s]
theorem e_rollM0 (hN : N ≤ 6) (hn : n ≤ 4) (h3 : m 81 3 = nI N) (h29 : m 81 29 = nI n) (h : (¬ ∃ S r, Grd N n g S r) ∨ ¬ stB s w ∨ ¬ (0 ≤ t ∧ t ≤ 400)) : Rr X (d + 6) MRm_roll 0 [.ref 81, .int g, .int s, .int w, .int t, mkU, mkU] [] (Wd m la ro et) = some (some (.int (-2000000000)), Wd m la ro et) := by
  have eG := e_isGoing (X := X) (d := d + 3) (mu := m) (la := la) (ro := ro) (et := et) (g := g) hN hn h3 h29
  have eB := e_startM (X := X) (d := d + 4) (mu := m) (la := la) (ro := ro) (et := et) (s := s) (w := w)
  rcases g_ca hN hn g with ⟨S, r, hG⟩ | hG
  · have eG := eG.1 S r hG
    by_cases hB : stB s w
    · have eB := eB.1 hB
      have h4 : ¬ (0 ≤ t ∧ t ≤ 400) := by
        rcases h with h | h | h
        · exact absurd ⟨S, r, hG⟩ h
        · exact absurd hB h
        · exact h
      simp only [r_MRm_roll_0, r_MRm_roll_1, r_MRm_roll_2, r_MRm_roll_5, r_MRm_roll_8, r_MRm_roll_9, r_MRm_roll_10, r_MRm_roll_13, r_MRm_roll_16, r_MRm_roll_18, r_MRm_roll_19, r_MRm_roll_22, r_MRm_roll_25, r_MRm_roll_28, r_MRm_roll_30, r_MRm_roll_31, r_MRm_roll_32, r_MRm_roll_33, r_MRm_roll_35, r_MRm_roll_36, r_MRm_roll_39, r_MRm_roll_41, r_MRm_roll_42, r_MRm_roll_43, r_MRm_roll_44, r_MRm_roll_47, r_MRm_roll_48, r_MRm_roll_49, r_MRm_roll_52, r_MRm_roll_53, r_MRm_roll_55, r_MRm_roll_57, r_MRm_roll_59, r_MRm_roll_62, r_MRm_roll_63, r_MRm_roll_64, r_MRm_roll_66, r_MRm_roll_67, r_MRm_roll_69, r_MRm_roll_70, r_MRm_roll_72, r_MRm_roll_73, r_MRm_roll_75, r_MRm_roll_78, r_MRm_roll_79, r_MRm_roll_81, r_MRm_roll_84, r_MRm_roll_87, r_MRm_roll_90, r_MRm_roll_91, r_MRm_roll_93, r_MRm_roll_96, r_MRm_roll_97, r_MRm_roll_98, r_MRm_roll_101, r_MRm_roll_104, r_MRm_roll_105, r_MRm_roll_106, r_MRm_roll_109, r_MRm_roll_112, r_MRm_roll_113, r_MRm_roll_114, r_MRm_roll_117, r_MRm_roll_120, r_MRm_roll_121, r_MRm_roll_124, sL_0, sL_1, sL_2, mk_i, mk_r, mk_f, mk_n, mk_u, mk_l, List.set_cons_succ, List.set_cons_zero, Nat.reduceAdd, ckS_0, ckS_1, ckS_2, ckS_3, ckS_4, Option.bind_some, Option.isSome_some, psh, if_true, if_false, i10, not_true_eq_false, not_false_eq_true, Bool.false_eq_true, and_self, and_true, true_and, eq_self, qI_81_0, qI_81_2, qI_81_3, qI_81_9, qI_81_10, qI_81_11, qI_81_12, qI_81_13, qI_81_18, qI_81_19, qI_81_20, qI_81_21, qI_81_29, qI_81_30, qI_81_31, qI_81_32, qI_81_33, qI_81_34, qI_81_35, qI_81_39, qI_81_40, qI_81_41, qI_81_42, qI_81_43, qI_81_44, qI_81_45, qI_81_46, qI_81_47, qI_81_51, qI_81_53, qR_81_1, qRd_81_1, qR_81_4, qRd_81_4, qR_81_5, qRd_81_5, qR_81_6, qRd_81_6, qR_81_7, qRd_81_7, qR_81_8, qRd_81_8, qR_81_14, qRd_81_14, qR_81_15, qRd_81_15, qR_81_16, qRd_81_16, qR_81_17, qRd_81_17, qR_81_22, qRd_81_22, qR_81_23, qRd_81_23, qR_81_24, qRd_81_24, qR_81_25, qRd_81_25, qR_81_26, qRd_81_26, qR_81_27, qRd_81_27, qR_81_28, qRd_81_28, qR_81_36, qRd_81_36, qR_81_37, qRd_81_37, qR_81_38, qRd_81_38, qR_81_48, qRd_81_48, qR_81_49, qRd_81_49, qR_81_50, qRd_81_50, qR_81_52, qRd_81_52, qR_81_54, qRd_81_54, qR_81_55, qRd_81_55, qR_81_56, qRd_81_56, qR_81_57, qRd_81_57, qR_81_58, qRd_81_58, qO_81, eG, eB, e_in, h4]
    · have eB := eB.2 hB
      simp only [r_MRm_roll_0, r_MRm_roll_1, r_MRm_roll_2, r_MRm_roll_5, r_MRm_roll_8, r_MRm_roll_9, r_MRm_roll_10, r_MRm_roll_13, r_MRm_roll_16, r_MRm_roll_18, r_MRm_roll_19, r_MRm_roll_22, r_MRm_roll_25, r_MRm_roll_28, r_MRm_roll_30, r_MRm_roll_31, r_MRm_roll_32, r_MRm_roll_33, r_MRm_roll_35, r_MRm_roll_36, r_MRm_roll_39, r_MRm_roll_41, r_MRm_roll_42, r_MRm_roll_43, r_MRm_roll_44, r_MRm_roll_47, r_MRm_roll_48, r_MRm_roll_49, r_MRm_roll_52, r_MRm_roll_53, r_MRm_roll_55, r_MRm_roll_57, r_MRm_roll_59, r_MRm_roll_62, r_MRm_roll_63, r_MRm_roll_64, r_MRm_roll_66, r_MRm_roll_67, r_MRm_roll_69, r_MRm_roll_70, r_MRm_roll_72, r_MRm_roll_73, r_MRm_roll_75, r_MRm_roll_78, r_MRm_roll_79, r_MRm_roll_81, r_MRm_roll_84, r_MRm_roll_87, r_MRm_roll_90, r_MRm_roll_91, r_MRm_roll_93, r_MRm_roll_96, r_MRm_roll_97, r_MRm_roll_98, r_MRm_roll_101, r_MRm_roll_104, r_MRm_roll_105, r_MRm_roll_106, r_MRm_roll_109, r_MRm_roll_112, r_MRm_roll_113, r_MRm_roll_114, r_MRm_roll_117, r_MRm_roll_120, r_MRm_roll_121, r_MRm_roll_124, sL_0, sL_1, sL_2, mk_i, mk_r, mk_f, mk_n, mk_u, mk_l, List.set_cons_succ, List.set_cons_zero, Nat.reduceAdd, ckS_0, ckS_1, ckS_2, ckS_3, ckS_4, Option.bind_some, Option.isSome_some, psh, if_true, if_false, i10, not_true_eq_false, not_false_eq_true, Bool.false_eq_true, and_self, and_true, true_and, eq_self, qI_81_0, qI_81_2, qI_81_3, qI_81_9, qI_81_10, qI_81_11, qI_81_12, qI_81_13, qI_81_18, qI_81_19, qI_81_20, qI_81_21, qI_81_29, qI_81_30, qI_81_31, qI_81_32, qI_81_33, qI_81_34, qI_81_35, qI_81_39, qI_81_40, qI_81_41, qI_81_42, qI_81_43, qI_81_44, qI_81_45, qI_81_46, qI_81_47, qI_81_51, qI_81_53, qR_81_1, qRd_81_1, qR_81_4, qRd_81_4, qR_81_5, qRd_81_5, qR_81_6, qRd_81_6, qR_81_7, qRd_81_7, qR_81_8, qRd_81_8, qR_81_14, qRd_81_14, qR_81_15, qRd_81_15, qR_81_16, qRd_81_16, qR_81_17, qRd_81_17, qR_81_22, qRd_81_22, qR_81_23, qRd_81_23, qR_81_24, qRd_81_24, qR_81_25, qRd_81_25, qR_81_26, qRd_81_26, qR_81_27, qRd_81_27, qR_81_28, qRd_81_28, qR_81_36, qRd_81_36, qR_81_37, qRd_81_37, qR_81_38, qRd_81_38, qR_81_48, qRd_81_48, qR_81_49, qRd_81_49, qR_81_50, qRd_81_50, qR_81_52, qRd_81_52, qR_81_54, qRd_81_54, qR_81_55, qRd_81_55, qR_81_56, qRd_81_56, qR_81_57, qRd_81_57, qR_81_58, qRd_81_58, qO_81, eG, eB]
  · have eG := eG.2 hG
    simp only [r_MRm_roll_0, r_MRm_roll_1, r_MRm_roll_2, r_MRm_roll_5, r_MRm_roll_8, r_MRm_roll_9, r_MRm_roll_10, r_MRm_roll_13, r_MRm_roll_16, r_MRm_roll_18, r_MRm_roll_19, r_MRm_roll_22, r_MRm_roll_25, r_MRm_roll_28, r_MRm_roll_30, r_MRm_roll_31, r_MRm_roll_32, r_MRm_roll_33, r_MRm_roll_35, r_MRm_roll_36, r_MRm_roll_39, r_MRm_roll_41, r_MRm_roll_42, r_MRm_roll_43, r_MRm_roll_44, r_MRm_roll_47, r_MRm_roll_48, r_MRm_roll_49, r_MRm_roll_52, r_MRm_roll_53, r_MRm_roll_55, r_MRm_roll_57, r_MRm_roll_59, r_MRm_roll_62, r_MRm_roll_63, r_MRm_roll_64, r_MRm_roll_66, r_MRm_roll_67, r_MRm_roll_69, r_MRm_roll_70, r_MRm_roll_72, r_MRm_roll_73, r_MRm_roll_75, r_MRm_roll_78, r_MRm_roll_79, r_MRm_roll_81, r_MRm_roll_84, r_MRm_roll_87, r_MRm_roll_90, r_MRm_roll_91, r_MRm_roll_93, r_MRm_roll_96, r_MRm_roll_97, r_MRm_roll_98, r_MRm_roll_101, r_MRm_roll_104, r_MRm_roll_105, r_MRm_roll_106, r_MRm_roll_109, r_MRm_roll_112, r_MRm_roll_113, r_MRm_roll_114, r_MRm_roll_117, r_MRm_roll_120, r_MRm_roll_121, r_MRm_roll_124, sL_0, sL_1, sL_2, mk_i, mk_r, mk_f, mk_n, mk_u, mk_l, List.set_cons_succ, List.set_cons_zero, Nat.reduceAdd, ckS_0, ckS_1, ckS_2, ckS_3, ckS_4, Option.bind_some, Option.isSome_some, psh, if_true, if_false, i10, not_true_eq_false, not_false_eq_true, Bool.false_eq_true, and_self, and_true, true_and, eq_self, qI_81_0, qI_81_2, qI_81_3, qI_81_9, qI_81_10, qI_81_11, qI_81_12, qI_81_13, qI_81_18, qI_81_19, qI_81_20, qI_81_21, qI_81_29, qI_81_30, qI_81_31, qI_81_32, qI_81_33, qI_81_34, qI_81_35, qI_81_39, qI_81_40, qI_81_41, qI_81_42, qI_81_43, qI_81_44, qI_81_45, qI_81_46, qI_81_47, qI_81_51, qI_81_53, qR_81_1, qRd_81_1, qR_81_4, qRd_81_4, qR_81_5, qRd_81_5, qR_81_6, qRd_81_6, qR_81_7, qRd_81_7, qR_81_8, qRd_81_8, qR_81_14, qRd_81_14, qR_81_15, qRd_81_15, qR_81_16, qRd_81_16, qR_81_17, qRd_81_17, qR_81_22, qRd_81_22, qR_81_23, qRd_81_23, qR_81_24, qRd_81_24, qR_81_25, qRd_81_25, qR_81_26, qRd_81_26, qR_81_27, qRd_81_27, qR_81_28, qRd_81_28, qR_81_36, qRd_81_36, qR_81_37, qRd_81_37, qR_81_38, qRd_81_38, qR_81_48, qRd_81_48, qR_81_49, qRd_81_49, qR_81_50, qRd_81_50, qR_81_52, qRd_81_52, qR_81_54, qRd_81_54, qR_81_55, qRd_81_55, qR_81_56, qRd_81_56, qR_81_57, qRd_81_57, qR_81_58, qRd_81_58, qO_81, eG]
/-- when roll goes -/
def roOk (N n : Nat) (g s w t : Int32) : Prop := (∃ S r, Grd N n g S r) ∧ stB s w ∧ (0 ≤ t ∧ t ≤ 400)
theorem ro_no (h : ¬ roOk N n g s w t) : (¬ ∃ S r, Grd N n g S r) ∨ ¬ stB s w ∨ ¬ (0 ≤ t ∧ t ≤ 400) := by
  by_cases h1 : ∃ S r, Grd N n g S r
  · by_cases h2 : stB s w
    · exact .inr (.inr fun h3 => h ⟨h1, h2, h3⟩)
    · exact .inr (.inl h2)
  · exact .inl h1
end
