-- ===== roll, tick by tick
section
variable {X : Tok} {d : Nat} {mu m m' : Mu} {la : La} {ro : Ro} {et : Nat → Option va_E} {N n S r F a R nt i j c : Nat} {g s w x y z k ca cb cc cd pc t fl : Int32} {T T' T0 G : Nat → Int32} {f : Option Nat} {LS : Nat → List Ln} {P : Nat → Nat → Int32} {l2 l3 : Value}
theorem mo_uo (h : ¬ a = 6) : up2 (moM m T) a j x = moM (up2 m a j x) T := by
  refine funext fun c => funext fun i => ?_
  by_cases q : c = 6
  · subst q
    rw [up2_a (fun z => h z.symm)]
    unfold moM
    rw [up2_a (fun z => h z.symm)]
  · rw [mo_o q]
    simp only [up2_e, mo_o q]
theorem mg_uo (h : a ≠ 81 ∨ j < 30 ∨ 35 < j) : up2 (moG m G) a j x = moG (up2 m a j x) G := by
  refine funext fun c => funext fun i => ?_
  unfold moG
  simp only [up2_e]
  by_cases q : c = a ∧ i = j
  · obtain ⟨rfl, rfl⟩ := q
    rw [if_pos ⟨rfl, rfl⟩, if_neg (by omega), if_pos ⟨rfl, rfl⟩]
  · rw [if_neg q, if_neg q]
set_option maxHeartbeats 2000000 in
theorem c_rec (hn : n ≤ 4) (hnt : nt ≤ 400) (hP : ∀ i, P (i + 1) = spT k ca cb cc cd (flO LS f) pc (P i)) : ∀ (q i : Nat) (m : Mu), i + q = nt → CoC m k ca cb cc cd → SitC m ro n f pc → AllC m LS n → ∃ m' : Mu, Rr X (d + 5) MGo_record 13 [.ref 7, .ref 6, .int (nI nt), .int (nI (i + 1))] [] (Wd (moM m (P i)) la ro et) = Rr X (d + 5) MGo_record 34 [.ref 7, .ref 6, .int (nI nt), .int (nI (nt + 1))] [] (Wd (moM m' (P nt)) la ro et) ∧ (∀ c j, (c < 8 ∨ 10 < c) → (c < 49 ∨ 68 < c) → m' c j = m c j) ∧ AllC m' LS n ∧ (∀ t, t ≤ i → m' 8 t = m 8 t ∧ m' 9 t = m 9 t ∧ m' 10 t = m 10 t) ∧ (∀ t, i < t → t ≤ nt → m' 8 t = P t 7 ∧ m' 9 t = P t 8 ∧ m' 10 t = P t 9)
  | 0, i, m, h, hk, hs, hA => by
    have : i = nt := by omega
    subst this
    have z : nI i < nI (i + 1) := nI_lt (by omega) (by omega)
    refine ⟨m, ?_, fun _ _ _ _ => rfl, hA, fun t _ => ⟨rfl, rfl, rfl⟩, fun t h1 h2 => absurd h1 (by omega)⟩
    simp only [r_MGo_record_13, r_MGo_record_14, r_MGo_record_15, sL_0, sL_1, sL_2, mk_i, mk_r, mk_f, mk_n, mk_u, mk_l, List.set_cons_succ, List.set_cons_zero, Nat.reduceAdd, ckS_0, ckS_1, ckS_2, ckS_3, ckS_4, Option.bind_some, Option.isSome_some, psh, if_true, if_false, i10, not_true_eq_false, not_false_eq_true, Bool.false_eq_true, and_self, and_true, true_and, eq_self, z]
  | q + 1, i, m, h, hk, hs, hA => by
    have z : ¬ nI nt < nI (i + 1) := nI_nlt (by omega) (by omega)
    obtain ⟨m1, e1, o1, A1⟩ := c_step (X := X) (d := d) (la := la) (et := et) (T := P i) hn hk hs hA
    rw [← hP i] at e1
    have en := e_noteC (X := X) (d := d + 4) (m := m1) (la := la) (ro := ro) (et := et) (T := P (i + 1)) (show i + 1 ≤ 400 by omega)
    obtain ⟨m2, hm2⟩ : ∃ m2, m2 = ntM m1 8 (i + 1) (P (i + 1) 7) (P (i + 1) 8) (P (i + 1) 9) := ⟨_, rfl⟩
    rw [← hm2] at en
    have o2 : ∀ c j, (c < 8 ∨ 10 < c) → m2 c j = m1 c j := fun c j h => by rw [hm2]; exact nt_o (by omega)
    obtain ⟨m', E, o', A', r1, r2⟩ := c_rec hn hnt hP q (i + 1) m2 (by omega) (CoC_k (fun j _ => (o2 6 j (by omega)).trans (o1 6 j (by omega))) hk) (SitC_k (fun j _ => (o2 6 j (by omega)).trans (o1 6 j (by omega))) hs) (AllC_k (fun c j h1 h2 => o2 c j (by omega)) hn A1)
    refine ⟨m', ?_, fun c j h1 h2 => (o' c j h1 h2).trans ((o2 c j h1).trans (o1 c j h2)), A', fun t ht => ?_, fun t h1 h2 => ?_⟩
    · rw [← E]
      simp only [r_MGo_record_13, r_MGo_record_14, r_MGo_record_15, r_MGo_record_18, r_MGo_record_18n, r_MGo_record_19, r_MGo_record_22, r_MGo_record_23, r_MGo_record_23n, r_MGo_record_24, r_MGo_record_25, r_MGo_record_28, r_MGo_record_31, sL_0, sL_1, sL_2, mk_i, mk_r, mk_f, mk_n, mk_u, mk_l, List.set_cons_succ, List.set_cons_zero, Nat.reduceAdd, ckS_0, ckS_1, ckS_2, ckS_3, ckS_4, Option.bind_some, Option.isSome_some, psh, if_true, if_false, i10, not_true_eq_false, not_false_eq_true, Bool.false_eq_true, and_self, and_true, true_and, eq_self, qI_6_0, qI_6_1, qI_6_2, qI_6_3, qI_6_4, qI_6_6, qI_6_7, qI_6_8, qI_6_9, qI_6_10, qI_6_11, qI_6_12, qI_6_13, qI_6_14, qI_6_15, qI_6_16, qI_7_3, qI_7_4, qI_7_5, qI_7_6, qI_7_7, qI_7_8, qR_7_0, qRd_7_0, qR_7_1, qRd_7_1, qR_7_2, qRd_7_2, qO_6, qO_7, qM_6_5, z, e1, en, nI_1]
    · obtain ⟨a1, a2, a3⟩ := r1 t (by omega)
      have n : ∀ c, m2 c t = m1 c t := fun c => by rw [hm2]; exact nt_n (by omega)
      exact ⟨a1.trans ((n 8).trans (o1 8 t (by omega))), a2.trans ((n 9).trans (o1 9 t (by omega))), a3.trans ((n 10).trans (o1 10 t (by omega)))⟩
    · by_cases ht : t = i + 1
      · subst ht
        obtain ⟨a1, a2, a3⟩ := r1 (i + 1) (by omega)
        obtain ⟨v1, v2, v3⟩ := nt_v (m := m1) (R := 8) (j := i + 1) (x := P (i + 1) 7) (y := P (i + 1) 8) (z := P (i + 1) 9)
        rw [← hm2] at v1 v2 v3
        exact ⟨a1.trans v1, a2.trans v2, a3.trans v3⟩
      · exact r2 t (by omega) h2
set_option maxHeartbeats 2000000 in
theorem e_record (hn : n ≤ 4) (hnt : nt ≤ 400) (hP : ∀ i, P (i + 1) = spT k ca cb cc cd (flO LS f) pc (P i)) (hk : CoC m k ca cb cc cd) (hs : SitC m ro n f pc) (hA : AllC m LS n) : ∃ m' : Mu, Rr X (d + 5) MGo_record 0 [.ref 7, .ref 6, .int (nI nt), mkU] [] (Wd (moM m (P 0)) la ro et) = some (none, Wd (moM m' (P nt)) la ro et) ∧ (∀ c j, (c < 7 ∨ 10 < c) → (c < 49 ∨ 68 < c) → m' c j = m c j) ∧ AllC m' LS n ∧ (∀ t, t ≤ nt → m' 8 t = P t 7 ∧ m' 9 t = P t 8 ∧ m' 10 t = P t 9) ∧ m' 7 3 = nI nt ∧ m' 7 4 = P nt 12 ∧ m' 7 5 = P nt 13 ∧ m' 7 6 = P nt 14 ∧ m' 7 7 = P nt 15 ∧ m' 7 8 = P nt 16 := by
  obtain ⟨m0, hm0⟩ : ∃ m0, m0 = up2 m 7 3 (nI nt) := ⟨_, rfl⟩
  have u0 : up2 (moM m (P 0)) 7 3 (nI nt) = moM m0 (P 0) := by rw [hm0]; exact mo_uo (by decide)
  have en := e_noteC (X := X) (d := d + 4) (m := m0) (la := la) (ro := ro) (et := et) (T := P 0) (j := 0) (by omega)
  rw [show nI 0 = (0 : Int32) from rfl] at en
  obtain ⟨m2, hm2⟩ : ∃ m2, m2 = ntM m0 8 0 (P 0 7) (P 0 8) (P 0 9) := ⟨_, rfl⟩
  rw [← hm2] at en
  have o0 : ∀ c j, ¬ c = 7 → m0 c j = m c j := fun c j h => by rw [hm0]; exact up2_a h
  have o2 : ∀ c j, (c < 8 ∨ 10 < c) → m2 c j = m0 c j := fun c j h => by rw [hm2]; exact nt_o (by omega)
  obtain ⟨m3, E, o', A', r1, r2⟩ := c_rec (X := X) (d := d) (la := la) (et := et) hn hnt hP nt 0 m2 (by omega) (CoC_k (fun j _ => (o2 6 j (by omega)).trans (o0 6 j (by omega))) hk) (SitC_k (fun j _ => (o2 6 j (by omega)).trans (o0 6 j (by omega))) hs) (AllC_k (fun c j h1 h2 => (o2 c j (by omega)).trans (o0 c j (by omega))) hn hA)
  obtain ⟨m', hm'⟩ : ∃ m', m' = up2 (up2 (up2 (up2 (up2 m3 7 4 (P nt 12)) 7 5 (P nt 13)) 7 6 (P nt 14)) 7 7 (P nt 15)) 7 8 (P nt 16) := ⟨_, rfl⟩
  have oo : ∀ c j, ¬ c = 7 → m' c j = m3 c j := fun c j h => by rw [hm', up2_a h, up2_a h, up2_a h, up2_a h, up2_a h]
  have uu : up2 (up2 (up2 (up2 (up2 (moM m3 (P nt)) 7 4 (P nt 12)) 7 5 (P nt 13)) 7 6 (P nt 14)) 7 7 (P nt 15)) 7 8 (P nt 16) = moM m' (P nt) := by
    rw [mo_uo (by decide), mo_uo (by decide), mo_uo (by decide), mo_uo (by decide), mo_uo (by decide), hm']
  have g12 : ∀ (M : Mu), moM M (P nt) 6 12 = P nt 12 := fun M => mo_v (by omega) (by omega)
  have g13 : ∀ (M : Mu), moM M (P nt) 6 13 = P nt 13 := fun M => mo_v (by omega) (by omega)
  have g14 : ∀ (M : Mu), moM M (P nt) 6 14 = P nt 14 := fun M => mo_v (by omega) (by omega)
  have g15 : ∀ (M : Mu), moM M (P nt) 6 15 = P nt 15 := fun M => mo_v (by omega) (by omega)
  have g16 : ∀ (M : Mu), moM M (P nt) 6 16 = P nt 16 := fun M => mo_v (by omega) (by omega)
  have E : Rr X (d + 5) MGo_record 13 [.ref 7, .ref 6, .int (nI nt), .int 1] [] (Wd (moM m2 (P 0)) la ro et) = _ := E
  refine ⟨m', ?_, fun c j h1 h2 => (oo c j (by omega)).trans ((o' c j (by omega) h2).trans ((o2 c j (by omega)).trans (o0 c j (by omega)))), AllC_k (fun c j h1 h2 => oo c j (by omega)) hn A', fun t ht => ?_, ?_, ?_, ?_, ?_, ?_, ?_⟩
  · rw [← uu]
    simp only [r_MGo_record_0, r_MGo_record_1, r_MGo_record_2, r_MGo_record_5, r_MGo_record_6, r_MGo_record_6n, r_MGo_record_7, r_MGo_record_8, r_MGo_record_11, r_MGo_record_12, sL_0, sL_1, sL_2, mk_i, mk_r, mk_f, mk_n, mk_u, mk_l, List.set_cons_succ, List.set_cons_zero, Nat.reduceAdd, ckS_0, ckS_1, ckS_2, ckS_3, ckS_4, Option.bind_some, Option.isSome_some, psh, if_true, if_false, i10, not_true_eq_false, not_false_eq_true, Bool.false_eq_true, and_self, and_true, true_and, eq_self, qI_6_0, qI_6_1, qI_6_2, qI_6_3, qI_6_4, qI_6_6, qI_6_7, qI_6_8, qI_6_9, qI_6_10, qI_6_11, qI_6_12, qI_6_13, qI_6_14, qI_6_15, qI_6_16, qI_7_3, qI_7_4, qI_7_5, qI_7_6, qI_7_7, qI_7_8, qR_7_0, qRd_7_0, qR_7_1, qRd_7_1, qR_7_2, qRd_7_2, qO_6, qO_7, qM_6_5, u0, en, E]
    simp only [r_MGo_record_34, r_MGo_record_35, r_MGo_record_35n, r_MGo_record_36, r_MGo_record_39, r_MGo_record_42, r_MGo_record_43, r_MGo_record_43n, r_MGo_record_44, r_MGo_record_47, r_MGo_record_50, r_MGo_record_51, r_MGo_record_51n, r_MGo_record_52, r_MGo_record_55, r_MGo_record_58, r_MGo_record_59, r_MGo_record_59n, r_MGo_record_60, r_MGo_record_63, r_MGo_record_66, r_MGo_record_67, r_MGo_record_67n, r_MGo_record_68, r_MGo_record_71, r_MGo_record_74, sL_0, sL_1, sL_2, mk_i, mk_r, mk_f, mk_n, mk_u, mk_l, List.set_cons_succ, List.set_cons_zero, Nat.reduceAdd, ckS_0, ckS_1, ckS_2, ckS_3, ckS_4, Option.bind_some, Option.isSome_some, psh, if_true, if_false, i10, not_true_eq_false, not_false_eq_true, Bool.false_eq_true, and_self, and_true, true_and, eq_self, qI_6_0, qI_6_1, qI_6_2, qI_6_3, qI_6_4, qI_6_6, qI_6_7, qI_6_8, qI_6_9, qI_6_10, qI_6_11, qI_6_12, qI_6_13, qI_6_14, qI_6_15, qI_6_16, qI_7_3, qI_7_4, qI_7_5, qI_7_6, qI_7_7, qI_7_8, qR_7_0, qRd_7_0, qR_7_1, qRd_7_1, qR_7_2, qRd_7_2, qO_6, qO_7, qM_6_5, up2_e, Nat.reduceEqDiff, false_and, if_false, g12, g13, g14, g15, g16]
  · by_cases h : t = 0
    · subst h
      obtain ⟨a1, a2, a3⟩ := r1 0 (by omega)
      obtain ⟨v1, v2, v3⟩ := nt_v (m := m0) (R := 8) (j := 0) (x := P 0 7) (y := P 0 8) (z := P 0 9)
      rw [← hm2] at v1 v2 v3
      exact ⟨(oo _ _ (by decide)).trans (a1.trans v1), (oo _ _ (by decide)).trans (a2.trans v2), (oo _ _ (by decide)).trans (a3.trans v3)⟩
    · obtain ⟨a1, a2, a3⟩ := r2 t (by omega) ht
      exact ⟨(oo _ _ (by decide)).trans a1, (oo _ _ (by decide)).trans a2, (oo _ _ (by decide)).trans a3⟩
  · rw [hm', up2_k (by decide), up2_k (by decide), up2_k (by decide), up2_k (by decide), up2_k (by decide), o' _ _ (by omega) (by omega), o2 _ _ (by omega), hm0, up2_s]
  · rw [hm', up2_k (by decide), up2_k (by decide), up2_k (by decide), up2_k (by decide), up2_s]
  · rw [hm', up2_k (by decide), up2_k (by decide), up2_k (by decide), up2_s]
  · rw [hm', up2_k (by decide), up2_k (by decide), up2_s]
  · rw [hm', up2_k (by decide), up2_s]
  · rw [hm', up2_s]
set_option maxHeartbeats 4000000 in
theorem m_rec (hS : S < 6) (hn : n ≤ 4) (hnt : nt ≤ 400) (hB : RtB cc cd) (hs : SitM fl n f pc) (hP : ∀ i, P (i + 1) = spT k ca cb cc cd (flO LS f) pc (P i)) (hb : ∀ i, Bd (P i)) (ht : ∀ i, P i 10 = nI i) (e1 : g / 10 = nI S) (e2 : g - nI S * 10 = fl) : ∀ (q i : Nat) (m : Mu), i + q = nt → RtM m S ca cb cc cd → AllM m LS n → ∃ m' : Mu, Rr X (d + 6) MRm_roll 55 [.ref 81, .int g, l2, l3, .int (nI nt), .int k, .int (nI (i + 1))] [] (Wd (moG m (gG (P i))) la ro et) = Rr X (d + 6) MRm_roll 90 [.ref 81, .int g, l2, l3, .int (nI nt), .int k, .int (nI (nt + 1))] [] (Wd (moG m' (gG (P nt))) la ro et) ∧ (∀ c j, ¬ c = 97 → ¬ c = 98 → (c < 99 ∨ 101 < c) → m' c j = m c j) ∧ (∀ t, t ≤ i → m' 99 t = m 99 t ∧ m' 100 t = m 100 t ∧ m' 101 t = m 101 t) ∧ (∀ t, i < t → t ≤ nt → m' 99 t = P t 7 ∧ m' 100 t = P t 8 ∧ m' 101 t = P t 9)
  | 0, i, m, h, hR, hA => by
    have : i = nt := by omega
    subst this
    have z : nI i < nI (i + 1) := nI_lt (by omega) (by omega)
    refine ⟨m, ?_, fun _ _ _ _ _ => rfl, fun t _ => ⟨rfl, rfl, rfl⟩, fun t h1 h2 => absurd h1 (by omega)⟩
    simp only [r_MRm_roll_55, r_MRm_roll_57, r_MRm_roll_59, sL_0, sL_1, sL_2, mk_i, mk_r, mk_f, mk_n, mk_u, mk_l, List.set_cons_succ, List.set_cons_zero, Nat.reduceAdd, ckS_0, ckS_1, ckS_2, ckS_3, ckS_4, Option.bind_some, Option.isSome_some, psh, if_true, if_false, i10, not_true_eq_false, not_false_eq_true, Bool.false_eq_true, and_self, and_true, true_and, eq_self, z]
  | q + 1, i, m, h, hR, hA => by
    have z : ¬ nI nt < nI (i + 1) := nI_nlt (by omega) (by omega)
    obtain ⟨m1, eg, o1⟩ := e_go (X := X) (d := d) (la := la) (ro := ro) (et := et) (k := k) (T := P i) (t := nI (i + 1)) hS hn hR hB hs hA (hb i) (by rw [ht i, nI_1])
    rw [← hP i] at eg
    have en := e_noteM (X := X) (d := d + 5) (m := m1) (la := la) (ro := ro) (et := et) (G := gG (P (i + 1))) (show i + 1 ≤ 400 by omega)
    have gv : gG (P (i + 1)) 30 = P (i + 1) 7 ∧ gG (P (i + 1)) 31 = P (i + 1) 8 ∧ gG (P (i + 1)) 32 = P (i + 1) 9 := ⟨rfl, rfl, rfl⟩
    rw [gv.1, gv.2.1, gv.2.2] at en
    obtain ⟨m2, hm2⟩ : ∃ m2, m2 = ntM m1 99 (i + 1) (P (i + 1) 7) (P (i + 1) 8) (P (i + 1) 9) := ⟨_, rfl⟩
    rw [← hm2] at en
    have o2 : ∀ c j, (c < 99 ∨ 101 < c) → m2 c j = m1 c j := fun c j h => by rw [hm2]; exact nt_o (by omega)
    obtain ⟨m', E, o', r1, r2⟩ := m_rec hS hn hnt hB hs hP hb ht e1 e2 q (i + 1) m2 (by omega) (by
      unfold RtM at hR ⊢
      rw [o2 _ _ (by omega), o2 _ _ (by omega), o2 _ _ (by omega), o2 _ _ (by omega), o1 _ _ (by omega) (by omega), o1 _ _ (by omega) (by omega), o1 _ _ (by omega) (by omega), o1 _ _ (by omega) (by omega)]
      exact hR) (AllM_k (fun c j h1 h2 => (o2 c j (by omega)).trans (o1 c j (by omega) (by omega))) hA)
    refine ⟨m', ?_, fun c j h1 h2 h3 => (o' c j h1 h2 h3).trans ((o2 c j h3).trans (o1 c j h1 h2)), fun t ht => ?_, fun t h1 h2 => ?_⟩
    · rw [← E]
      simp only [r_MRm_roll_55, r_MRm_roll_57, r_MRm_roll_59, r_MRm_roll_62, r_MRm_roll_63, r_MRm_roll_64, r_MRm_roll_66, r_MRm_roll_67, r_MRm_roll_69, r_MRm_roll_70, r_MRm_roll_72, r_MRm_roll_73, r_MRm_roll_75, r_MRm_roll_78, r_MRm_roll_79, r_MRm_roll_81, r_MRm_roll_84, r_MRm_roll_87, sL_0, sL_1, sL_2, mk_i, mk_r, mk_f, mk_n, mk_u, mk_l, List.set_cons_succ, List.set_cons_zero, Nat.reduceAdd, ckS_0, ckS_1, ckS_2, ckS_3, ckS_4, Option.bind_some, Option.isSome_some, psh, if_true, if_false, i10, not_true_eq_false, not_false_eq_true, Bool.false_eq_true, and_self, and_true, true_and, eq_self, qI_81_0, qI_81_2, qI_81_3, qI_81_9, qI_81_10, qI_81_11, qI_81_12, qI_81_13, qI_81_18, qI_81_19, qI_81_20, qI_81_21, qI_81_29, qI_81_30, qI_81_31, qI_81_32, qI_81_33, qI_81_34, qI_81_35, qI_81_39, qI_81_40, qI_81_41, qI_81_42, qI_81_43, qI_81_44, qI_81_45, qI_81_46, qI_81_47, qI_81_51, qI_81_53, qR_81_1, qRd_81_1, qR_81_4, qRd_81_4, qR_81_5, qRd_81_5, qR_81_6, qRd_81_6, qR_81_7, qRd_81_7, qR_81_8, qRd_81_8, qR_81_14, qRd_81_14, qR_81_15, qRd_81_15, qR_81_16, qRd_81_16, qR_81_17, qRd_81_17, qR_81_22, qRd_81_22, qR_81_23, qRd_81_23, qR_81_24, qRd_81_24, qR_81_25, qRd_81_25, qR_81_26, qRd_81_26, qR_81_27, qRd_81_27, qR_81_28, qRd_81_28, qR_81_36, qRd_81_36, qR_81_37, qRd_81_37, qR_81_38, qRd_81_38, qR_81_48, qRd_81_48, qR_81_49, qRd_81_49, qR_81_50, qRd_81_50, qR_81_52, qRd_81_52, qR_81_54, qRd_81_54, qR_81_55, qRd_81_55, qR_81_56, qRd_81_56, qR_81_57, qRd_81_57, qR_81_58, qRd_81_58, qO_81, z, e1, e2, eg, en, nI_1, show ¬ (10 : Int32) = 0 by decide]
    · obtain ⟨a1, a2, a3⟩ := r1 t (by omega)
      have n : ∀ c, m2 c t = m1 c t := fun c => by rw [hm2]; exact nt_n (by omega)
      exact ⟨a1.trans ((n 99).trans (o1 99 t (by decide) (by decide))), a2.trans ((n 100).trans (o1 100 t (by decide) (by decide))), a3.trans ((n 101).trans (o1 101 t (by decide) (by decide)))⟩
    · by_cases ht : t = i + 1
      · subst ht
        obtain ⟨a1, a2, a3⟩ := r1 (i + 1) (by omega)
        obtain ⟨v1, v2, v3⟩ := nt_v (m := m1) (R := 99) (j := i + 1) (x := P (i + 1) 7) (y := P (i + 1) 8) (z := P (i + 1) 9)
        rw [← hm2] at v1 v2 v3
        exact ⟨a1.trans v1, a2.trans v2, a3.trans v3⟩
      · exact r2 t (by omega) h2
end
