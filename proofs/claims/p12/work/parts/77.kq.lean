-- ===== in thought: the class's goings, run on or till they turn back
section
variable {X : Tok} {d : Nat} {mu m m' mu' : Mu} {la la' : La} {ro ro' : Ro} {et : Nat → Option va_E} {N n S r i j t a c nt : Nat} {g k x y z s pc ca cb cc cd w : Int32} {T T2 : Nat → Int32} {f : Option Nat} {LS : Nat → List Ln} {P : Nat → Nat → Int32} {l2 l3 : Value}
set_option maxHeartbeats 1000000 in
theorem c_runL (hn : n ≤ 4) (hnt : nt ≤ 400) (hP : ∀ i, P (i + 1) = spT k ca cb cc cd (flO LS f) pc (P i)) : ∀ (q i : Nat) (m : Mu), i + q = nt → CoC m k ca cb cc cd → SitC m ro n f pc → AllC m LS n → ∃ m' : Mu, Rr X (d + 5) MMo_run 2 [.ref 6, .int (nI nt), .int (nI i)] [] (Wd (moM m (P i)) la ro et) = some (none, Wd (moM m' (P nt)) la ro et) ∧ (∀ c j, (c < 49 ∨ 68 < c) → m' c j = m c j) ∧ AllC m' LS n
  | 0, i, m, h, hk, hs, hA => by
    have : i = nt := by omega
    subst this
    have z : nI i ≤ nI i := nI_le (a := i) (b := i) (Nat.le_refl _) (by omega)
    refine ⟨m, ?_, fun _ _ _ => rfl, hA⟩
    simp only [r_MMo_run_0, r_MMo_run_1, r_MMo_run_2, r_MMo_run_3, r_MMo_run_4, r_MMo_run_7, r_MMo_run_8, r_MMo_run_11, r_MMo_run_14, r_MMo_run_17, sL_0, sL_1, sL_2, mk_i, mk_r, mk_f, mk_n, mk_u, mk_l, List.set_cons_succ, List.set_cons_zero, Nat.reduceAdd, ckS_0, ckS_1, ckS_2, ckS_3, ckS_4, Option.bind_some, Option.isSome_some, psh, if_true, if_false, i10, not_true_eq_false, not_false_eq_true, Bool.false_eq_true, and_self, and_true, true_and, eq_self, z]
  | q + 1, i, m, h, hk, hs, hA => by
    have z : ¬ nI nt ≤ nI i := nI_ge (a := i) (b := nt) (by omega) (by omega)
    obtain ⟨m1, e1, o1, A1⟩ := c_step (X := X) (d := d) (la := la) (et := et) (T := P i) hn hk hs hA
    rw [← hP i] at e1
    obtain ⟨m', E, o', A'⟩ := c_runL hn hnt hP q (i + 1) m1 (by omega) (CoC_k (fun j _ => o1 6 j (by omega)) hk) (SitC_k (fun j _ => o1 6 j (by omega)) hs) A1
    refine ⟨m', ?_, fun c j h => (o' c j h).trans (o1 c j h), A'⟩
    rw [← E]
    simp only [r_MMo_run_2, r_MMo_run_3, r_MMo_run_4, r_MMo_run_7, r_MMo_run_8, r_MMo_run_11, r_MMo_run_14, sL_0, sL_1, sL_2, mk_i, mk_r, mk_f, mk_n, mk_u, mk_l, List.set_cons_succ, List.set_cons_zero, Nat.reduceAdd, ckS_0, ckS_1, ckS_2, ckS_3, ckS_4, Option.bind_some, Option.isSome_some, psh, if_true, if_false, i10, not_true_eq_false, not_false_eq_true, Bool.false_eq_true, and_self, and_true, true_and, eq_self, qI_6_0, qI_6_1, qI_6_2, qI_6_3, qI_6_4, qI_6_6, qI_6_7, qI_6_8, qI_6_9, qI_6_10, qI_6_11, qI_6_12, qI_6_13, qI_6_14, qI_6_15, qI_6_16, qO_6, qM_6_5, z, e1, nI_1]
theorem e_run (hn : n ≤ 4) (hP : ∀ i, P (i + 1) = spT k ca cb cc cd (flO LS f) pc (P i)) (hk : CoC m k ca cb cc cd) (hs : SitC m ro n f pc) (hA : AllC m LS n) : ∃ m' : Mu, Rr X (d + 5) MMo_run 0 [.ref 6, .int 400, mkU] [] (Wd (moM m (P 0)) la ro et) = some (none, Wd (moM m' (P 400)) la ro et) ∧ (∀ c j, (c < 49 ∨ 68 < c) → m' c j = m c j) ∧ AllC m' LS n := by
  obtain ⟨m', E, o', A'⟩ := c_runL (X := X) (d := d) (la := la) (et := et) (nt := 400) hn (Nat.le_refl _) hP 400 0 m (by omega) hk hs hA
  refine ⟨m', ?_, o', A'⟩
  rw [← E]
  simp only [r_MMo_run_0, r_MMo_run_1, sL_0, sL_1, sL_2, mk_i, mk_r, mk_f, mk_n, mk_u, mk_l, List.set_cons_succ, List.set_cons_zero, Nat.reduceAdd, ckS_0, ckS_1, ckS_2, ckS_3, ckS_4, Option.bind_some, Option.isSome_some, psh, if_true, if_false, i10, not_true_eq_false, not_false_eq_true, Bool.false_eq_true, and_self, and_true, true_and, eq_self, show nI 0 = (0 : Int32) from rfl, show nI 400 = (400 : Int32) from rfl]
theorem c_fbX (hB : P i 12 = nI (bkN (fun t => P t 7) i)) (hi : i ≤ 400) (c : ¬ bkN (fun t => P t 7) i = 0) : Rr X (d + 5) MTo_firstBack 8 [.ref 0, .int s, .int w, .int (nI i)] [] (Wd (moM m (P i)) la ro et) = Rr X (d + 5) MTo_firstBack 38 [.ref 0, .int s, .int w, .int (nI i)] [] (Wd (moM m (P i)) la ro et) := by
  have v12 : ∀ M : Mu, moM M (P i) 6 12 = P i 12 := fun M => mo_v (by omega) (by omega)
  have hle := bk_le (fun t => P t 7) i
  have b0 : ¬ P i 12 = 0 := by
    rw [hB]
    exact fun z => c ((nI_eq (b := 0) (by omega) (by omega)).mp z)
  by_cases hi : i = 400
  · subst hi
    have z : (400 : Int32) ≤ nI 400 := nI_le (a := 400) (b := 400) (Nat.le_refl _) (by omega)
    simp only [r_MTo_firstBack_8, r_MTo_firstBack_9, r_MTo_firstBack_12, sL_0, sL_1, sL_2, mk_i, mk_r, mk_f, mk_n, mk_u, mk_l, List.set_cons_succ, List.set_cons_zero, Nat.reduceAdd, ckS_0, ckS_1, ckS_2, ckS_3, ckS_4, Option.bind_some, Option.isSome_some, psh, if_true, if_false, i10, not_true_eq_false, not_false_eq_true, Bool.false_eq_true, and_self, and_true, true_and, eq_self, z]
  · have z : ¬ (400 : Int32) ≤ nI i := nI_ge (a := i) (b := 400) (by omega) (by omega)
    simp only [r_MTo_firstBack_8, r_MTo_firstBack_9, r_MTo_firstBack_12, r_MTo_firstBack_15, r_MTo_firstBack_16, r_MTo_firstBack_19, r_MTo_firstBack_22, sL_0, sL_1, sL_2, mk_i, mk_r, mk_f, mk_n, mk_u, mk_l, List.set_cons_succ, List.set_cons_zero, Nat.reduceAdd, ckS_0, ckS_1, ckS_2, ckS_3, ckS_4, Option.bind_some, Option.isSome_some, psh, if_true, if_false, i10, not_true_eq_false, not_false_eq_true, Bool.false_eq_true, and_self, and_true, true_and, eq_self, qI_0_9, qI_0_10, qI_6_0, qI_6_1, qI_6_2, qI_6_3, qI_6_4, qI_6_6, qI_6_7, qI_6_8, qI_6_9, qI_6_10, qI_6_11, qI_6_12, qI_6_13, qI_6_14, qI_6_15, qI_6_16, qR_0_0, qRd_0_0, qR_0_1, qRd_0_1, qR_0_2, qRd_0_2, qR_0_3, qRd_0_3, qR_0_4, qRd_0_4, qR_0_5, qRd_0_5, qR_0_6, qRd_0_6, qR_0_7, qRd_0_7, qR_0_8, qRd_0_8, qO_0, qO_6, qM_6_5, z, v12, b0]
set_option maxHeartbeats 2000000 in
theorem c_fbL (hn : n ≤ 4) (hP : ∀ i, P (i + 1) = spT k ca cb cc cd (flO LS f) pc (P i)) (hB : ∀ i, P i 12 = nI (bkN (fun t => P t 7) i)) : ∀ (q i : Nat) (m : Mu), i + q = 400 → (bkN (fun t => P t 7) i = 0 ∨ fbN (fun t => P t 7) i = i) → CoC m k ca cb cc cd → SitC m ro n f pc → AllC m LS n → ∃ (m' : Mu) (j : Nat), Rr X (d + 5) MTo_firstBack 8 [.ref 0, .int s, .int w, .int (nI i)] [] (Wd (moM m (P i)) la ro et) = Rr X (d + 5) MTo_firstBack 38 [.ref 0, .int s, .int w, .int (nI j)] [] (Wd (moM m' (P j)) la ro et) ∧ ((bkN (fun t => P t 7) j = 0 ∧ fbN (fun t => P t 7) 400 = 0) ∨ (¬ bkN (fun t => P t 7) j = 0 ∧ fbN (fun t => P t 7) 400 = j)) ∧ j ≤ 400 ∧ (∀ c j, (c < 49 ∨ 68 < c) → m' c j = m c j) ∧ AllC m' LS n
  | 0, i, m, h, H, hk, hs, hA => by
    have hi : i = 400 := by omega
    subst hi
    by_cases c : bkN (fun t => P t 7) 400 = 0
    · have z : (400 : Int32) ≤ nI 400 := nI_le (a := 400) (b := 400) (Nat.le_refl _) (by omega)
      refine ⟨m, 400, ?_, .inl ⟨c, (fb_bk _ 400).1.mpr c⟩, Nat.le_refl _, fun _ _ _ => rfl, hA⟩
      simp only [r_MTo_firstBack_8, r_MTo_firstBack_9, r_MTo_firstBack_12, sL_0, sL_1, sL_2, mk_i, mk_r, mk_f, mk_n, mk_u, mk_l, List.set_cons_succ, List.set_cons_zero, Nat.reduceAdd, ckS_0, ckS_1, ckS_2, ckS_3, ckS_4, Option.bind_some, Option.isSome_some, psh, if_true, if_false, i10, not_true_eq_false, not_false_eq_true, Bool.false_eq_true, and_self, and_true, true_and, eq_self, z]
    · have hf : fbN (fun t => P t 7) 400 = 400 := by
        rcases H with H | H
        · exact absurd H c
        · exact H
      exact ⟨m, 400, c_fbX (hB 400) (Nat.le_refl _) c, .inr ⟨c, hf⟩, Nat.le_refl _, fun _ _ _ => rfl, hA⟩
  | q + 1, i, m, h, H, hk, hs, hA => by
    by_cases c : bkN (fun t => P t 7) i = 0
    · have v12 : ∀ M : Mu, moM M (P i) 6 12 = P i 12 := fun M => mo_v (by omega) (by omega)
      have b0 : P i 12 = 0 := by rw [hB, c]; rfl
      have z : ¬ (400 : Int32) ≤ nI i := nI_ge (a := i) (b := 400) (by omega) (by omega)
      obtain ⟨m1, e1, o1, A1⟩ := c_step (X := X) (d := d) (la := la) (et := et) (T := P i) hn hk hs hA
      rw [← hP i] at e1
      have H1 : bkN (fun t => P t 7) (i + 1) = 0 ∨ fbN (fun t => P t 7) (i + 1) = i + 1 := by
        rw [fb_n c]
        by_cases c2 : bkN (fun t => P t 7) (i + 1) = 0
        · exact .inl c2
        · rw [if_neg c2]
          exact .inr rfl
      obtain ⟨m', j, E, r1, r2, o', A'⟩ := c_fbL hn hP hB q (i + 1) m1 (by omega) H1 (CoC_k (fun j _ => o1 6 j (by omega)) hk) (SitC_k (fun j _ => o1 6 j (by omega)) hs) A1
      refine ⟨m', j, ?_, r1, r2, fun c j h => (o' c j h).trans (o1 c j h), A'⟩
      rw [← E]
      simp only [r_MTo_firstBack_8, r_MTo_firstBack_9, r_MTo_firstBack_12, r_MTo_firstBack_15, r_MTo_firstBack_16, r_MTo_firstBack_19, r_MTo_firstBack_22, r_MTo_firstBack_25, r_MTo_firstBack_26, r_MTo_firstBack_29, r_MTo_firstBack_32, r_MTo_firstBack_35, sL_0, sL_1, sL_2, mk_i, mk_r, mk_f, mk_n, mk_u, mk_l, List.set_cons_succ, List.set_cons_zero, Nat.reduceAdd, ckS_0, ckS_1, ckS_2, ckS_3, ckS_4, Option.bind_some, Option.isSome_some, psh, if_true, if_false, i10, not_true_eq_false, not_false_eq_true, Bool.false_eq_true, and_self, and_true, true_and, eq_self, qI_0_9, qI_0_10, qI_6_0, qI_6_1, qI_6_2, qI_6_3, qI_6_4, qI_6_6, qI_6_7, qI_6_8, qI_6_9, qI_6_10, qI_6_11, qI_6_12, qI_6_13, qI_6_14, qI_6_15, qI_6_16, qR_0_0, qRd_0_0, qR_0_1, qRd_0_1, qR_0_2, qRd_0_2, qR_0_3, qRd_0_3, qR_0_4, qRd_0_4, qR_0_5, qRd_0_5, qR_0_6, qRd_0_6, qR_0_7, qRd_0_7, qR_0_8, qRd_0_8, qO_0, qO_6, qM_6_5, z, v12, b0, e1, nI_1]
    · have hf : fbN (fun t => P t 7) i = i := by
        rcases H with H | H
        · exact absurd H c
        · exact H
      have hf0 : ¬ fbN (fun t => P t 7) i = 0 := fun z => c ((fb_bk _ i).1.mp z)
      have h4 : fbN (fun t => P t 7) 400 = i := by
        have e := fb_st (fun t => P t 7) hf0 (q + 1)
        rw [h, hf] at e
        exact e
      exact ⟨m, i, c_fbX (hB i) (by omega) c, .inr ⟨c, h4⟩, by omega, fun _ _ _ => rfl, hA⟩
/-- the going of a start, tick by tick -/
noncomputable def goP (k ca cb cc cd : Int32) (g : Option (List Ln)) (pc s w : Int32) : Nat → Nat → Int32 := fun i => spN k ca cb cc cd g pc i (beT s (w / 1000) (w - w / 1000 * 1000) 0)
theorem go_0 : goP k ca cb cc cd (flO LS f) pc s w 0 = beT s (w / 1000) (w - w / 1000 * 1000) 0 := rfl
theorem go_s : ∀ i, goP k ca cb cc cd (flO LS f) pc s w (i + 1) = spT k ca cb cc cd (flO LS f) pc (goP k ca cb cc cd (flO LS f) pc s w i) := fun _ => rfl
theorem go_10 : ∀ i, goP k ca cb cc cd (flO LS f) pc s w i 10 = nI i := fun i => sn_10 i rfl
theorem go_c : ∀ i, goP k ca cb cc cd (flO LS f) pc s w i 11 = sdF (fun t => goP k ca cb cc cd (flO LS f) pc s w t 7) i ∧ goP k ca cb cc cd (flO LS f) pc s w i 12 = nI (bkN (fun t => goP k ca cb cc cd (flO LS f) pc s w t 7) i) ∧ goP k ca cb cc cd (flO LS f) pc s w i 13 = suF (fun t => goP k ca cb cc cd (flO LS f) pc s w t 7) i := P_c go_0 go_s
/-- its turns -/
noncomputable def goS (k ca cb cc cd : Int32) (g : Option (List Ln)) (pc s w : Int32) : Nat → Int32 := fun t => goP k ca cb cc cd g pc s w t 7
set_option maxHeartbeats 1000000 in
theorem e_firstBack (hn : n ≤ 4) (hk : CoC m k ca cb cc cd) (hs : SitC m ro n f pc) (hA : AllC m LS n) : ∃ (m' : Mu) (T : Nat → Int32), Rr X (d + 5) MTo_firstBack 0 [.ref 0, .int s, .int w, mkU] [] (Wd m la ro et) = some (some (.int (nI (fbN (goS k ca cb cc cd (flO LS f) pc s w) 400))), Wd (moM m' T) la ro et) ∧ (∀ c j, (c < 49 ∨ 68 < c) → m' c j = m c j) ∧ AllC m' LS n := by
  have eT := e_startT (X := X) (d := d + 2) (m := m) (la := la) (ro := ro) (et := et) (s := s) (w := w)
  have hP0 : beT s (w / 1000) (w - w / 1000 * 1000) 0 = goP k ca cb cc cd (flO LS f) pc s w 0 := rfl
  rw [hP0] at eT
  obtain ⟨m', j, E, r1, r2, o', A'⟩ := c_fbL (X := X) (d := d) (la := la) (et := et) (s := s) (w := w) (P := goP k ca cb cc cd (flO LS f) pc s w) hn go_s (fun i => (go_c i).2.1) 400 0 m (by omega) (.inl rfl) hk hs hA
  refine ⟨m', goP k ca cb cc cd (flO LS f) pc s w j, ?_, o', A'⟩
  have E : Rr X (d + 5) MTo_firstBack 8 [.ref 0, .int s, .int w, .int 0] [] (Wd (moM m (goP k ca cb cc cd (flO LS f) pc s w 0)) la ro et) = _ := E
  have v12 : ∀ M : Mu, moM M (goP k ca cb cc cd (flO LS f) pc s w j) 6 12 = goP k ca cb cc cd (flO LS f) pc s w j 12 := fun M => mo_v (by omega) (by omega)
  have v10 : ∀ M : Mu, moM M (goP k ca cb cc cd (flO LS f) pc s w j) 6 10 = goP k ca cb cc cd (flO LS f) pc s w j 10 := fun M => mo_v (by omega) (by omega)
  have b12 := (go_c (k := k) (ca := ca) (cb := cb) (cc := cc) (cd := cd) (f := f) (LS := LS) (pc := pc) (s := s) (w := w) j).2.1
  have b10 := go_10 (k := k) (ca := ca) (cb := cb) (cc := cc) (cd := cd) (f := f) (LS := LS) (pc := pc) (s := s) (w := w) j
  have hle := bk_le (fun t => goP k ca cb cc cd (flO LS f) pc s w t 7) j
  unfold goS
  rcases r1 with ⟨c1, c2⟩ | ⟨c1, c2⟩
  · have b0 : goP k ca cb cc cd (flO LS f) pc s w j 12 = 0 := by rw [b12, c1]; rfl
    rw [c2]
    simp only [r_MTo_firstBack_0, r_MTo_firstBack_1, r_MTo_firstBack_2, r_MTo_firstBack_3, r_MTo_firstBack_6, r_MTo_firstBack_7, sL_0, sL_1, sL_2, mk_i, mk_r, mk_f, mk_n, mk_u, mk_l, List.set_cons_succ, List.set_cons_zero, Nat.reduceAdd, ckS_0, ckS_1, ckS_2, ckS_3, ckS_4, Option.bind_some, Option.isSome_some, psh, if_true, if_false, i10, not_true_eq_false, not_false_eq_true, Bool.false_eq_true, and_self, and_true, true_and, eq_self, qI_0_9, qI_0_10, qI_6_0, qI_6_1, qI_6_2, qI_6_3, qI_6_4, qI_6_6, qI_6_7, qI_6_8, qI_6_9, qI_6_10, qI_6_11, qI_6_12, qI_6_13, qI_6_14, qI_6_15, qI_6_16, qR_0_0, qRd_0_0, qR_0_1, qRd_0_1, qR_0_2, qRd_0_2, qR_0_3, qRd_0_3, qR_0_4, qRd_0_4, qR_0_5, qRd_0_5, qR_0_6, qRd_0_6, qR_0_7, qRd_0_7, qR_0_8, qRd_0_8, qO_0, qO_6, qM_6_5, eT, E]
    simp only [r_MTo_firstBack_38, r_MTo_firstBack_39, r_MTo_firstBack_42, r_MTo_firstBack_45, r_MTo_firstBack_48, r_MTo_firstBack_49, r_MTo_firstBack_52, r_MTo_firstBack_53, r_MTo_firstBack_56, r_MTo_firstBack_59, sL_0, sL_1, sL_2, mk_i, mk_r, mk_f, mk_n, mk_u, mk_l, List.set_cons_succ, List.set_cons_zero, Nat.reduceAdd, ckS_0, ckS_1, ckS_2, ckS_3, ckS_4, Option.bind_some, Option.isSome_some, psh, if_true, if_false, i10, not_true_eq_false, not_false_eq_true, Bool.false_eq_true, and_self, and_true, true_and, eq_self, qI_0_9, qI_0_10, qI_6_0, qI_6_1, qI_6_2, qI_6_3, qI_6_4, qI_6_6, qI_6_7, qI_6_8, qI_6_9, qI_6_10, qI_6_11, qI_6_12, qI_6_13, qI_6_14, qI_6_15, qI_6_16, qR_0_0, qRd_0_0, qR_0_1, qRd_0_1, qR_0_2, qRd_0_2, qR_0_3, qRd_0_3, qR_0_4, qRd_0_4, qR_0_5, qRd_0_5, qR_0_6, qRd_0_6, qR_0_7, qRd_0_7, qR_0_8, qRd_0_8, qO_0, qO_6, qM_6_5, v12, b0, show nI 0 = (0 : Int32) from rfl]
  · have b0 : ¬ goP k ca cb cc cd (flO LS f) pc s w j 12 = 0 := by
      rw [b12]
      exact fun z => c1 ((nI_eq (b := 0) (by omega) (by omega)).mp z)
    rw [c2]
    simp only [r_MTo_firstBack_0, r_MTo_firstBack_1, r_MTo_firstBack_2, r_MTo_firstBack_3, r_MTo_firstBack_6, r_MTo_firstBack_7, sL_0, sL_1, sL_2, mk_i, mk_r, mk_f, mk_n, mk_u, mk_l, List.set_cons_succ, List.set_cons_zero, Nat.reduceAdd, ckS_0, ckS_1, ckS_2, ckS_3, ckS_4, Option.bind_some, Option.isSome_some, psh, if_true, if_false, i10, not_true_eq_false, not_false_eq_true, Bool.false_eq_true, and_self, and_true, true_and, eq_self, qI_0_9, qI_0_10, qI_6_0, qI_6_1, qI_6_2, qI_6_3, qI_6_4, qI_6_6, qI_6_7, qI_6_8, qI_6_9, qI_6_10, qI_6_11, qI_6_12, qI_6_13, qI_6_14, qI_6_15, qI_6_16, qR_0_0, qRd_0_0, qR_0_1, qRd_0_1, qR_0_2, qRd_0_2, qR_0_3, qRd_0_3, qR_0_4, qRd_0_4, qR_0_5, qRd_0_5, qR_0_6, qRd_0_6, qR_0_7, qRd_0_7, qR_0_8, qRd_0_8, qO_0, qO_6, qM_6_5, eT, E]
    simp only [r_MTo_firstBack_38, r_MTo_firstBack_39, r_MTo_firstBack_42, r_MTo_firstBack_45, r_MTo_firstBack_48, r_MTo_firstBack_49, r_MTo_firstBack_52, r_MTo_firstBack_53, r_MTo_firstBack_56, r_MTo_firstBack_59, sL_0, sL_1, sL_2, mk_i, mk_r, mk_f, mk_n, mk_u, mk_l, List.set_cons_succ, List.set_cons_zero, Nat.reduceAdd, ckS_0, ckS_1, ckS_2, ckS_3, ckS_4, Option.bind_some, Option.isSome_some, psh, if_true, if_false, i10, not_true_eq_false, not_false_eq_true, Bool.false_eq_true, and_self, and_true, true_and, eq_self, qI_0_9, qI_0_10, qI_6_0, qI_6_1, qI_6_2, qI_6_3, qI_6_4, qI_6_6, qI_6_7, qI_6_8, qI_6_9, qI_6_10, qI_6_11, qI_6_12, qI_6_13, qI_6_14, qI_6_15, qI_6_16, qR_0_0, qRd_0_0, qR_0_1, qRd_0_1, qR_0_2, qRd_0_2, qR_0_3, qRd_0_3, qR_0_4, qRd_0_4, qR_0_5, qRd_0_5, qR_0_6, qRd_0_6, qR_0_7, qRd_0_7, qR_0_8, qRd_0_8, qO_0, qO_6, qM_6_5, v12, v10, b0, b10]
-- what is laid
theorem ruM_k : ∀ c j, ¬ c = 6 → ruM m a k c j = m c j := fun _ _ h => ru_o h
theorem snA_k (h : ∀ c j, (c < 6 ∨ 6 < c) → (c < 49 ∨ 68 < c) → m' c j = m c j) (hS : S < 6) : knC m' (19 + 5 * S) = knC m (19 + 5 * S) ∧ ∀ j, m' (19 + 5 * S + 4) j = m (19 + 5 * S + 4) j := by
  refine ⟨?_, fun j => h _ _ (by omega) (by omega)⟩
  unfold knC
  rw [h (19 + 5 * S) 5 (by omega) (by omega), h (19 + 5 * S) 6 (by omega) (by omega), h (19 + 5 * S) 7 (by omega) (by omega), h (19 + 5 * S) 8 (by omega) (by omega), h (19 + 5 * S) 9 (by omega) (by omega), h (19 + 5 * S) 10 (by omega) (by omega)]
theorem rOk_u (hr : rOk ro) (h : r = 9 ∨ r < n) (hn : n ≤ 4) : rOk (upR ro 6 5 (flN r)) := by
  obtain ⟨h1, h2, h3, h4⟩ := hr
  refine ⟨fun k hk => by rw [upR_n (by omega)]; exact h1 k hk, fun k hk => by rw [upR_n (by omega)]; exact h2 k hk, fun k hk => by rw [upR_n (by omega)]; exact h3 k hk, ?_⟩
  rw [upR_s]
  unfold flN flOk
  by_cases c : r = 9
  · rw [if_pos c]
    exact .inl rfl
  · rw [if_neg c]
    have : r = 0 ∨ r = 1 ∨ r = 2 ∨ r = 3 := by omega
    rcases this with rfl | rfl | rfl | rfl
    · exact .inr (.inl rfl)
    · exact .inr (.inr (.inl rfl))
    · exact .inr (.inr (.inr (.inl rfl)))
    · exact .inr (.inr (.inr (.inr rfl)))
end
