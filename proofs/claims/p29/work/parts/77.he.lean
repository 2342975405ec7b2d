-- ===== the class reads a stone: the loop, the rates, its weights
noncomputable def lmC (m : Mu) (a L : Nat) (x : Lp) : Mu := up2 (lmC0 m a L x) a 4 (nI (L + 1))
noncomputable def lmsC (m : Mu) (a : Nat) : Nat → List Lp → Mu
  | _, [] => m
  | L, x :: W => lmsC (lmC m a L x) a (L + 1) W
noncomputable def smS (f : Nat → Int32) : Nat → Int32
  | 0 => 0
  | k + 1 => smS f k + f k
noncomputable def wgK (m : Mu) (a k : Nat) : Mu := up2 (up2 (up2 (up2 (up2 (up2 m a 5 (smS (fun j => m (a + 1) j) k)) a 6 (smS (fun j => m (a + 1) j * m (a + 2) j) k)) a 7 (smS (fun j => m (a + 1) j * m (a + 3) j) k)) a 8 (smS (fun j => m (a + 1) j * m (a + 2) j * m (a + 2) j) k)) a 9 (smS (fun j => m (a + 1) j * m (a + 3) j * m (a + 3) j) k)) a 10 (smS (fun j => m (a + 1) j * m (a + 2) j * m (a + 3) j) k)
/-- the sums of a stone of the class are those of its lumps -/
def sumsOk (m : Mu) (a L : Nat) : Prop := m a 5 = smS (fun j => m (a + 1) j) L ∧ m a 6 = smS (fun j => m (a + 1) j * m (a + 2) j) L ∧ m a 7 = smS (fun j => m (a + 1) j * m (a + 3) j) L ∧ m a 8 = smS (fun j => m (a + 1) j * m (a + 2) j * m (a + 2) j) L ∧ m a 9 = smS (fun j => m (a + 1) j * m (a + 3) j * m (a + 3) j) L ∧ m a 10 = smS (fun j => m (a + 1) j * m (a + 2) j * m (a + 3) j) L
section
variable {X : Tok} {d : Nat} {mu m m' m2 mu' : Mu} {la la' : La} {ro ro' : Ro} {et : Nat → Option va_E} {a h z i k L : Nat} {s : SS} {l v : Int32}
theorem Ch_lmC0 {x : Lp} : ChA a m (lmC0 m a L x) := Ch_t (Ch_t (Ch_up (by omega) (by omega)) (Ch_up (by omega) (by omega))) (Ch_up (by omega) (by omega))
theorem Ch_lmC {x : Lp} : ChA a m (lmC m a L x) := Ch_t Ch_lmC0 (Ch_f (by omega) (by omega))
theorem Ch_lmsC : ∀ (W : List Lp) (L : Nat) (m : Mu), ChA a m (lmsC m a L W)
  | [], _, _ => Ch_r
  | x :: W, L, m => Ch_t Ch_lmC (Ch_lmsC W (L + 1) (lmC m a L x))
theorem lps_f (h : ¬ noS s = true) : ∀ k, lpsS m k s = ([], s)
  | 0 => rfl
  | k + 1 => by
    have h1 : hrS m 59 s = false := by unfold hrS; rw [Bool.eq_false_iff.mpr h, Bool.false_and]
    rw [lpsS, h1, if_neg (by decide)]
theorem st_exit {i : Int32} {l4 : Value} {w : Hp} : Rr X d MSt_readFrom 9 [.ref a, .ref 1, .int 0, .int i, l4] [] w = Rr X d MSt_readFrom 67 [.ref a, .ref 1, .int 0, .int i, l4] [] w := by
  rw [r_MSt_readFrom_9]
  simp only [r_MSt_readFrom_10, r_MSt_readFrom_12, r_MSt_readFrom_15, r_MSt_readFrom_16, sL_0, sL_1, sL_2, mk_i, mk_r, mk_f, mk_n, mk_u, mk_l, List.set_cons_succ, List.set_cons_zero, Nat.reduceAdd, ckS_0, ckS_1, ckS_2, ckS_3, ckS_4, Option.bind_some, Option.isSome_some, psh, if_true, if_false, i10, not_true_eq_false, not_false_eq_true, Bool.false_eq_true, and_self, and_true, true_and, eq_self, ite_self]
set_option maxHeartbeats 4000000 in
theorem st_loopC (qa : snA a) (ha : a ≤ 44) {l4 : Value} : ∀ (k L h : Nat) (m : Mu), L + k = 11 → RT m → h ≤ Tt m → ∃ m', ChA a m m' ∧ (noS (lpsS m k (lpS m (h, none)).2).2 = true → m' = lmsC m a L ((lpS m (h, none)).1 :: (lpsS m k (lpS m (h, none)).2).1) ∧ ∃ x y : Int32, Rr X (d + 4) MSt_readFrom 9 [.ref a, .ref 1, .int 1, .int (nI L), l4] [] (Wd (tp m h) la ro et) = Rr X (d + 4) MSt_readFrom 67 [.ref a, .ref 1, .int x, .int y, l4] [] (Wd (tp m' (lpsS m k (lpS m (h, none)).2).2.1) la ro et)) ∧ (¬ noS (lpsS m k (lpS m (h, none)).2).2 = true → Rr X (d + 4) MSt_readFrom 9 [.ref a, .ref 1, .int 1, .int (nI L), l4] [] (Wd (tp m h) la ro et) = some (some (.int 0), Wd (tp m' (plS (lpsS m k (lpS m (h, none)).2).2)) la ro et)) := by
  have o1 := qa.1.1
  have q4 := qa.1.2.1.1
  have o3 := qa.1.2.2
  intro k
  induction k with
  | zero =>
    intro L h m hk hR hh
    have : L = 11 := by omega
    subst this
    obtain ⟨m1, e1, i1, C1⟩ := c_lump (X := X) (d := d) (la := la) (ro := ro) (et := et) (L := 11) hR qa ha (by decide) hh
    have z1 : ¬ (12 : Int32) ≤ nI 11 := nI_ge (a := 11) (b := 12) (by decide) (by decide)
    have z2 : (12 : Int32) ≤ nI 12 := nI_le (a := 12) (b := 12) (Nat.le_refl _) (by decide)
    have eS : nI 11 + 1 = nI 12 := rfl
    rw [lpsS]
    by_cases c : noS (lpS m (h, none)).2 = true
    · have ei := i1 c
      subst ei
      rw [if_pos c, plS_n c] at e1
      have e4 : up2 (tp (lmC0 m a 11 (lpS m (h, none)).1) (lpS m (h, none)).2.1) a 4 (nI 12) a 4 = nI 12 := up2_s _ _ _ _
      refine ⟨lmC m a 11 (lpS m (h, none)).1, Ch_lmC, fun _ => ⟨rfl, 0, nI 12, ?_⟩, fun q => absurd c q⟩
      rw [← st_exit, r_MSt_readFrom_9]
      simp only [r_MSt_readFrom_10, r_MSt_readFrom_12, r_MSt_readFrom_15, r_MSt_readFrom_16, r_MSt_readFrom_19, r_MSt_readFrom_20, r_MSt_readFrom_20n, r_MSt_readFrom_21, r_MSt_readFrom_22, r_MSt_readFrom_25, r_MSt_readFrom_28, r_MSt_readFrom_29, r_MSt_readFrom_30, r_MSt_readFrom_31, r_MSt_readFrom_32, r_MSt_readFrom_33, r_MSt_readFrom_34, r_MSt_readFrom_37, r_MSt_readFrom_38, r_MSt_readFrom_41, r_MSt_readFrom_43, r_MSt_readFrom_46, r_MSt_readFrom_46n, r_MSt_readFrom_47, r_MSt_readFrom_49, r_MSt_readFrom_52, r_MSt_readFrom_55, r_MSt_readFrom_56, r_MSt_readFrom_59, r_MSt_readFrom_60, r_MSt_readFrom_61, r_MSt_readFrom_64, sL_0, sL_1, sL_2, mk_i, mk_r, mk_f, mk_n, mk_u, mk_l, List.set_cons_succ, List.set_cons_zero, Nat.reduceAdd, ckS_0, ckS_1, ckS_2, ckS_3, ckS_4, Option.bind_some, Option.isSome_some, psh, if_true, if_false, i10, not_true_eq_false, not_false_eq_true, Bool.false_eq_true, and_self, and_true, true_and, eq_self, o1, q4, z1, e1, eS, e4, z2]
      rw [tp_up (by omega)]
      rfl
    · rw [if_neg c] at e1
      refine ⟨m1, C1, fun q => absurd q c, fun _ => ?_⟩
      rw [r_MSt_readFrom_9]
      simp only [r_MSt_readFrom_10, r_MSt_readFrom_12, r_MSt_readFrom_15, r_MSt_readFrom_16, r_MSt_readFrom_19, r_MSt_readFrom_20, r_MSt_readFrom_20n, r_MSt_readFrom_21, r_MSt_readFrom_22, r_MSt_readFrom_25, r_MSt_readFrom_28, r_MSt_readFrom_29, sL_0, sL_1, sL_2, mk_i, mk_r, mk_f, mk_n, mk_u, mk_l, List.set_cons_succ, List.set_cons_zero, Nat.reduceAdd, ckS_0, ckS_1, ckS_2, ckS_3, ckS_4, Option.bind_some, Option.isSome_some, psh, if_true, if_false, i10, not_true_eq_false, not_false_eq_true, Bool.false_eq_true, and_self, and_true, true_and, eq_self, o1, z1, e1, true_or]
  | succ k ih =>
    intro L h m hk hR hh
    obtain ⟨m1, e1, i1, C1⟩ := c_lump (X := X) (d := d) (la := la) (ro := ro) (et := et) (L := L) hR qa ha (by omega) hh
    have hT2 := Tt_le (RT_M hR)
    have z1 : ¬ (12 : Int32) ≤ nI L := nI_ge (a := L) (b := 12) (by omega) (by decide)
    have z2 : ¬ (12 : Int32) ≤ nI (L + 1) := nI_ge (a := L + 1) (b := 12) (by omega) (by decide)
    by_cases c : noS (lpS m (h, none)).2 = true
    · have ei := i1 c
      subst ei
      rw [if_pos c, plS_n c] at e1
      have fx : fw m (h, none) (lpS m (h, none)).2 := fw_lp (fw_r hh (fun k hk => by cases hk))
      have e4 : up2 (tp (lmC0 m a L (lpS m (h, none)).1) (lpS m (h, none)).2.1) a 4 (nI (L + 1)) a 4 = nI (L + 1) := up2_s _ _ _ _
      have et2 : up2 (tp (lmC0 m a L (lpS m (h, none)).1) (lpS m (h, none)).2.1) a 4 (nI (L + 1)) = tp (lmC m a L (lpS m (h, none)).1) (lpS m (h, none)).2.1 := tp_up (by omega)
      have e4' : tp (lmC m a L (lpS m (h, none)).1) (lpS m (h, none)).2.1 a 4 = nI (L + 1) := by rw [← et2]; exact e4
      have C2 : ChA a m (lmC m a L (lpS m (h, none)).1) := Ch_lmC
      obtain ⟨b1, b2, b3, b4⟩ := Ch_bt o3 ha C2
      have hR2 := b4 hR
      have sk := e_skip (X := X) (d := d + 2) (la := la) (ro := ro) (et := et) (x := 59) (RT_C hR2) (show (lpS m (h, none)).2.1 ≤ 120 by have := fx.2.1; omega)
      have k59 := cb_k (h := (lpS m (h, none)).2.1) hR2 (k := 59) (by decide)
      rw [b1] at k59
      have eh : hrS m 59 (lpS m (h, none)).2 = decide (bt m (lpS m (h, none)).2.1 = 59) := by unfold hrS; rw [c, Bool.true_and]
      rw [lpsS]
      by_cases c9 : bt m (lpS m (h, none)).2.1 = 59
      · have c9' : hrS m 59 (lpS m (h, none)).2 = true := by rw [eh, decide_eq_true c9]
        have hlt := hr_lt (by decide) c9'
        have ec := k59.mpr c9
        rw [if_pos c9']
        have ein : inS (lpS m (h, none)).2 = ((lpS m (h, none)).2.1 + 1, none) := by
          unfold inS
          rw [noS_n c]
        obtain ⟨m', D1, D2, D3⟩ := ih (L + 1) ((lpS m (h, none)).2.1 + 1) (lmC m a L (lpS m (h, none)).1) (by omega) hR2 (by rw [b3]; omega)
        rw [lpS_c b1, lpsS_c b1, ← ein] at D2 D3
        have step : Rr X (d + 4) MSt_readFrom 9 [.ref a, .ref 1, .int 1, .int (nI L), l4] [] (Wd (tp m h) la ro et) = Rr X (d + 4) MSt_readFrom 9 [.ref a, .ref 1, .int 1, .int (nI (L + 1)), l4] [] (Wd (tp (lmC m a L (lpS m (h, none)).1) ((lpS m (h, none)).2.1 + 1)) la ro et) := by
          rw [r_MSt_readFrom_9]
          simp only [r_MSt_readFrom_10, r_MSt_readFrom_12, r_MSt_readFrom_15, r_MSt_readFrom_16, r_MSt_readFrom_19, r_MSt_readFrom_20, r_MSt_readFrom_20n, r_MSt_readFrom_21, r_MSt_readFrom_22, r_MSt_readFrom_25, r_MSt_readFrom_28, r_MSt_readFrom_29, r_MSt_readFrom_30, r_MSt_readFrom_31, r_MSt_readFrom_32, r_MSt_readFrom_33, r_MSt_readFrom_34, r_MSt_readFrom_37, r_MSt_readFrom_38, r_MSt_readFrom_41, r_MSt_readFrom_43, r_MSt_readFrom_46, r_MSt_readFrom_46n, r_MSt_readFrom_47, r_MSt_readFrom_49, r_MSt_readFrom_52, r_MSt_readFrom_55, r_MSt_readFrom_56, r_MSt_readFrom_59, r_MSt_readFrom_60, r_MSt_readFrom_61, r_MSt_readFrom_64, sL_0, sL_1, sL_2, mk_i, mk_r, mk_f, mk_n, mk_u, mk_l, List.set_cons_succ, List.set_cons_zero, Nat.reduceAdd, ckS_0, ckS_1, ckS_2, ckS_3, ckS_4, Option.bind_some, Option.isSome_some, psh, if_true, if_false, i10, not_true_eq_false, not_false_eq_true, Bool.false_eq_true, and_self, and_true, true_and, eq_self, qI_1_1, qI_1_2, qR_1_0, qRd_1_0, qO_1, o1, q4, z1, e1, nI_1, et2, e4', z2, sk, ec]
        refine ⟨m', Ch_t C2 D1, fun q => ?_, fun q => ?_⟩
        · obtain ⟨E1, x, y, E2⟩ := D2 q
          exact ⟨E1, x, y, step.trans E2⟩
        · exact step.trans (D3 q)
      · have c9' : ¬ hrS m 59 (lpS m (h, none)).2 = true := by rw [eh, decide_eq_false c9]; decide
        have ec : ¬ cb (lmC m a L (lpS m (h, none)).1) (lpS m (h, none)).2.1 = 59 := fun q => c9 (k59.mp q)
        rw [if_neg c9']
        refine ⟨lmC m a L (lpS m (h, none)).1, C2, fun _ => ⟨rfl, 0, nI (L + 1), ?_⟩, fun q => absurd c q⟩
        rw [← st_exit, r_MSt_readFrom_9]
        simp only [r_MSt_readFrom_10, r_MSt_readFrom_12, r_MSt_readFrom_15, r_MSt_readFrom_16, r_MSt_readFrom_19, r_MSt_readFrom_20, r_MSt_readFrom_20n, r_MSt_readFrom_21, r_MSt_readFrom_22, r_MSt_readFrom_25, r_MSt_readFrom_28, r_MSt_readFrom_29, r_MSt_readFrom_30, r_MSt_readFrom_31, r_MSt_readFrom_32, r_MSt_readFrom_33, r_MSt_readFrom_34, r_MSt_readFrom_37, r_MSt_readFrom_38, r_MSt_readFrom_41, r_MSt_readFrom_43, r_MSt_readFrom_46, r_MSt_readFrom_46n, r_MSt_readFrom_47, r_MSt_readFrom_49, r_MSt_readFrom_52, r_MSt_readFrom_55, r_MSt_readFrom_56, r_MSt_readFrom_59, r_MSt_readFrom_60, r_MSt_readFrom_61, r_MSt_readFrom_64, sL_0, sL_1, sL_2, mk_i, mk_r, mk_f, mk_n, mk_u, mk_l, List.set_cons_succ, List.set_cons_zero, Nat.reduceAdd, ckS_0, ckS_1, ckS_2, ckS_3, ckS_4, Option.bind_some, Option.isSome_some, psh, if_true, if_false, i10, not_true_eq_false, not_false_eq_true, Bool.false_eq_true, and_self, and_true, true_and, eq_self, qI_1_1, qI_1_2, qR_1_0, qRd_1_0, qO_1, o1, q4, z1, e1, nI_1, et2, e4', z2, sk, ec]
    · rw [if_neg c] at e1
      rw [lps_f c]
      refine ⟨m1, C1, fun q => absurd q c, fun _ => ?_⟩
      rw [r_MSt_readFrom_9]
      simp only [r_MSt_readFrom_10, r_MSt_readFrom_12, r_MSt_readFrom_15, r_MSt_readFrom_16, r_MSt_readFrom_19, r_MSt_readFrom_20, r_MSt_readFrom_20n, r_MSt_readFrom_21, r_MSt_readFrom_22, r_MSt_readFrom_25, r_MSt_readFrom_28, r_MSt_readFrom_29, sL_0, sL_1, sL_2, mk_i, mk_r, mk_f, mk_n, mk_u, mk_l, List.set_cons_succ, List.set_cons_zero, Nat.reduceAdd, ckS_0, ckS_1, ckS_2, ckS_3, ckS_4, Option.bind_some, Option.isSome_some, psh, if_true, if_false, i10, not_true_eq_false, not_false_eq_true, Bool.false_eq_true, and_self, and_true, true_and, eq_self, o1, z1, e1, true_or]
-- the rates
theorem tk_f {c : Int32} (h : ¬ noS s = true) : tkS m c s = s := by
  have h1 : hrS m c s = false := by unfold hrS; rw [Bool.eq_false_iff.mpr h, Bool.false_and]
  unfold tkS
  rw [h1, if_neg (by decide), flS_f h]
theorem nm_f {most : Int32} (h : ¬ noS s = true) : (nmS m most s).2 = s := by
  unfold nmS
  rw [if_neg h]
theorem tn_f {c most : Int32} (h : ¬ noS s = true) : (nmS m most (tkS m c s)).2 = s := by rw [tk_f h, nm_f h]
theorem c_rstep {c most x : Int32} (hR : RT m) (qa : snA a) (hc : c = 47 ∨ c = 44) (hk : k < 4) (hm : most = if k < 2 then 999 else 100) (hn : noS s = true) (hh : s.1 ≤ Tt m) : (noS (nmS m most (tkS m c s)).2 = true → Rr X (d + 4) MSt_readFrom 73 [.ref a, .ref 1, .int x, .int c, .int (nI k)] [] (Wd (tp m s.1) la ro et) = Rr X (d + 4) MSt_readFrom 73 [.ref a, .ref 1, .int x, .int 44, .int (nI (k + 1))] [] (Wd (tp (up2 m (a + 4) k (nmS m most (tkS m c s)).1) (nmS m most (tkS m c s)).2.1) la ro et)) ∧ (¬ noS (nmS m most (tkS m c s)).2 = true → Rr X (d + 4) MSt_readFrom 73 [.ref a, .ref 1, .int x, .int c, .int (nI k)] [] (Wd (tp m s.1) la ro et) = some (some (.int 0), Wd (tp m (plS (nmS m most (tkS m c s)).2)) la ro et)) := by
  have o1 := qa.1.1
  have o3 := qa.1.2.2
  obtain ⟨g1, g2, g3, g4, g5, g6⟩ := qa.2.2.2.2
  have hT2 := Tt_le (RT_M hR)
  have z : ¬ Int32.ofNat 4 ≤ nI k := nI_ge (a := k) (b := 4) hk (by omega)
  have sk := e_skip (X := X) (d := d + 2) (la := la) (ro := ro) (et := et) (x := c) (RT_C hR) (show s.1 ≤ 120 by omega)
  have kc := cb_k (h := s.1) hR (k := c) (by rcases hc with rfl | rfl <;> decide)
  have hc1 : ¬ c = -1 := by rcases hc with rfl | rfl <;> decide
  have eh : hrS m c s = decide (bt m s.1 = c) := by unfold hrS; rw [hn, Bool.true_and]
  by_cases c1 : bt m s.1 = c
  · have ec := kc.mpr c1
    have eT : tkS m c s = (s.1 + 1, none) := by
      unfold tkS
      rw [eh, decide_eq_true c1, if_pos rfl]
      unfold inS
      rw [noS_n hn]
    have hlt := hr_lt hc1 (by rw [eh, decide_eq_true c1] : hrS m c s = true)
    rw [eT]
    obtain ⟨m', e, i1, i2⟩ := c_rate (X := X) (d := d) (la := la) (ro := ro) (et := et) (h := s.1 + 1) hR qa hk hm (by omega)
    refine ⟨fun q => ?_, fun q => ?_⟩
    · rw [i1 q, if_pos q, plS_n q] at e
      rw [r_MSt_readFrom_73]
      simp only [r_MSt_readFrom_75, r_MSt_readFrom_76, r_MSt_readFrom_79, r_MSt_readFrom_80, r_MSt_readFrom_83, r_MSt_readFrom_83n, r_MSt_readFrom_84, r_MSt_readFrom_85, r_MSt_readFrom_88, r_MSt_readFrom_91, r_MSt_readFrom_92, r_MSt_readFrom_92n, r_MSt_readFrom_93, r_MSt_readFrom_95, r_MSt_readFrom_98, r_MSt_readFrom_101, r_MSt_readFrom_102, r_MSt_readFrom_103, r_MSt_readFrom_105, r_MSt_readFrom_106, r_MSt_readFrom_109, sL_0, sL_1, sL_2, mk_i, mk_r, mk_f, mk_n, mk_u, mk_l, List.set_cons_succ, List.set_cons_zero, Nat.reduceAdd, ckS_0, ckS_1, ckS_2, ckS_3, ckS_4, Option.bind_some, Option.isSome_some, psh, if_true, if_false, i10, not_true_eq_false, not_false_eq_true, Bool.false_eq_true, and_self, and_true, true_and, eq_self, qI_1_1, qI_1_2, qR_1_0, qRd_1_0, qO_1, o1, g1, g2, g5, g6, z, sk, ec, e, nI_1]
    · rw [i2 q, if_neg q] at e
      rw [r_MSt_readFrom_73]
      simp only [r_MSt_readFrom_75, r_MSt_readFrom_76, r_MSt_readFrom_79, r_MSt_readFrom_80, r_MSt_readFrom_83, r_MSt_readFrom_83n, r_MSt_readFrom_84, r_MSt_readFrom_85, r_MSt_readFrom_88, r_MSt_readFrom_91, r_MSt_readFrom_92, r_MSt_readFrom_92n, r_MSt_readFrom_93, r_MSt_readFrom_95, r_MSt_readFrom_98, r_MSt_readFrom_101, r_MSt_readFrom_102, sL_0, sL_1, sL_2, mk_i, mk_r, mk_f, mk_n, mk_u, mk_l, List.set_cons_succ, List.set_cons_zero, Nat.reduceAdd, ckS_0, ckS_1, ckS_2, ckS_3, ckS_4, Option.bind_some, Option.isSome_some, psh, if_true, if_false, i10, not_true_eq_false, not_false_eq_true, Bool.false_eq_true, and_self, and_true, true_and, eq_self, qI_1_1, qI_1_2, qR_1_0, qRd_1_0, qO_1, o1, g1, g2, g5, g6, z, sk, ec, e, true_or]
  · have ec : ¬ cb m s.1 = c := fun q => c1 (kc.mp q)
    have eT : tkS m c s = (s.1, some s.1) := by
      unfold tkS
      rw [eh, decide_eq_false c1, if_neg (by decide), flS_n hn]
    have nf : ¬ noS ((s.1, some s.1) : SS) = true := by show ¬ false = true; decide
    have e2 : (nmS m most (tkS m c s)).2 = (s.1, some s.1) := by rw [eT, nm_f nf]
    rw [e2]
    refine ⟨fun q => absurd q nf, fun _ => ?_⟩
    show _ = some (some (Value.int 0), Wd (tp m s.1) la ro et)
    rw [r_MSt_readFrom_73]
    simp only [r_MSt_readFrom_75, r_MSt_readFrom_76, r_MSt_readFrom_79, r_MSt_readFrom_80, r_MSt_readFrom_83, r_MSt_readFrom_83n, r_MSt_readFrom_84, r_MSt_readFrom_85, r_MSt_readFrom_88, r_MSt_readFrom_91, r_MSt_readFrom_92, r_MSt_readFrom_92n, r_MSt_readFrom_93, r_MSt_readFrom_95, r_MSt_readFrom_98, r_MSt_readFrom_101, r_MSt_readFrom_102, sL_0, sL_1, sL_2, mk_i, mk_r, mk_f, mk_n, mk_u, mk_l, List.set_cons_succ, List.set_cons_zero, Nat.reduceAdd, ckS_0, ckS_1, ckS_2, ckS_3, ckS_4, Option.bind_some, Option.isSome_some, psh, if_true, if_false, i10, not_true_eq_false, not_false_eq_true, Bool.false_eq_true, and_self, and_true, true_and, eq_self, qI_1_1, qI_1_2, qR_1_0, qRd_1_0, qO_1, o1, g1, g2, g5, g6, z, sk, ec, true_or]
/-- rates laid on the class's side -/
noncomputable def rtC4 (m : Mu) (a : Nat) (r0 r1 r2 r3 : Int32) : Mu := up2 (up2 (up2 (up2 m (a + 4) 0 r0) (a + 4) 1 r1) (a + 4) 2 r2) (a + 4) 3 r3
theorem c_rates {x y : Int32} {l4 : Value} (hR : RT m) (qa : snA a) (ha : a ≤ 44) (hn : noS s = true) (hh : s.1 ≤ Tt m) : ∃ m', ChA a m m' ∧ (noS (rtD m s).2 = true → m' = rtC4 m a (rtA m s).1 (rtB m s).1 (rtC m s).1 (rtD m s).1 ∧ Rr X (d + 4) MSt_readFrom 67 [.ref a, .ref 1, .int x, .int y, l4] [] (Wd (tp m s.1) la ro et) = Rr X (d + 4) MSt_readFrom 112 [.ref a, .ref 1, .int x, .int 44, .int 4] [] (Wd (tp m' (rtD m s).2.1) la ro et)) ∧ (¬ noS (rtD m s).2 = true → Rr X (d + 4) MSt_readFrom 67 [.ref a, .ref 1, .int x, .int y, l4] [] (Wd (tp m s.1) la ro et) = some (some (.int 0), Wd (tp m' (plS (rtD m s).2)) la ro et)) := by
  have o3 := qa.1.2.2
  obtain ⟨g1, g2, g3, g4, g5, g6⟩ := qa.2.2.2.2
  have st : Rr X (d + 4) MSt_readFrom 67 [.ref a, .ref 1, .int x, .int y, l4] [] (Wd (tp m s.1) la ro et) = Rr X (d + 4) MSt_readFrom 73 [.ref a, .ref 1, .int x, .int 47, .int (nI 0)] [] (Wd (tp m s.1) la ro et) := by
    simp only [r_MSt_readFrom_67, r_MSt_readFrom_69, r_MSt_readFrom_70, r_MSt_readFrom_71, sL_0, sL_1, sL_2, mk_i, mk_r, mk_f, mk_n, mk_u, mk_l, List.set_cons_succ, List.set_cons_zero, Nat.reduceAdd, ckS_0, ckS_1, ckS_2, ckS_3, ckS_4, Option.bind_some, Option.isSome_some, psh, if_true, if_false]
    rfl
  rw [st]
  have f0 : fw m s s := fw_r hh (fun k hk => by rw [noS_n hn] at hk; cases hk)
  -- one after the other
  obtain ⟨p1, p2⟩ := c_rstep (X := X) (d := d) (la := la) (ro := ro) (et := et) (c := 47) (most := 999) (k := 0) (x := x) hR qa (.inl rfl) (by decide) rfl hn hh
  have eA : nmS m 999 (tkS m 47 s) = rtA m s := rfl
  rw [eA] at p1 p2
  by_cases cA : noS (rtA m s).2 = true
  · have fA : fw m s (rtA m s).2 := fw_nm (fw_tk (by decide) f0)
    have C1 : ChA a m (up2 m (a + 4) 0 (rtA m s).1) := Ch_up (by omega) (by omega)
    obtain ⟨m1, hm1⟩ : ∃ m1, m1 = up2 m (a + 4) 0 (rtA m s).1 := ⟨_, rfl⟩
    rw [p1 cA]
    rw [← hm1] at C1 ⊢
    obtain ⟨b1, b2, b3, b4⟩ := Ch_bt o3 ha C1
    obtain ⟨q1, q2⟩ := c_rstep (X := X) (d := d) (la := la) (ro := ro) (et := et) (c := 44) (most := 999) (k := 1) (x := x) (b4 hR) qa (.inr rfl) (by decide) rfl cA (by rw [b3]; exact fA.2.1)
    rw [tkS_c b1, nmS_c b1] at q1 q2
    have eB : nmS m 999 (tkS m 44 (rtA m s).2) = rtB m s := rfl
    rw [eB] at q1 q2
    by_cases cB : noS (rtB m s).2 = true
    · have fB : fw m s (rtB m s).2 := fw_nm (fw_tk (by decide) fA)
      have C2 : ChA a m (up2 m1 (a + 4) 1 (rtB m s).1) := Ch_t C1 (Ch_up (by omega) (by omega))
      obtain ⟨m2, hm2⟩ : ∃ m2, m2 = up2 m1 (a + 4) 1 (rtB m s).1 := ⟨_, rfl⟩
      rw [q1 cB]
      rw [← hm2] at C2 ⊢
      obtain ⟨d1, d2, d3, d4⟩ := Ch_bt o3 ha C2
      obtain ⟨u1, u2⟩ := c_rstep (X := X) (d := d) (la := la) (ro := ro) (et := et) (c := 44) (most := 100) (k := 2) (x := x) (d4 hR) qa (.inr rfl) (by decide) rfl cB (by rw [d3]; exact fB.2.1)
      rw [tkS_c d1, nmS_c d1] at u1 u2
      have eC : nmS m 100 (tkS m 44 (rtB m s).2) = rtC m s := rfl
      rw [eC] at u1 u2
      by_cases cC : noS (rtC m s).2 = true
      · have fC : fw m s (rtC m s).2 := fw_nm (fw_tk (by decide) fB)
        have C3 : ChA a m (up2 m2 (a + 4) 2 (rtC m s).1) := Ch_t C2 (Ch_up (by omega) (by omega))
        obtain ⟨m3, hm3⟩ : ∃ m3, m3 = up2 m2 (a + 4) 2 (rtC m s).1 := ⟨_, rfl⟩
        rw [u1 cC]
        rw [← hm3] at C3 ⊢
        obtain ⟨k1, k2, k3, k4⟩ := Ch_bt o3 ha C3
        obtain ⟨v1, v2⟩ := c_rstep (X := X) (d := d) (la := la) (ro := ro) (et := et) (c := 44) (most := 100) (k := 3) (x := x) (k4 hR) qa (.inr rfl) (by decide) rfl cC (by rw [k3]; exact fC.2.1)
        rw [tkS_c k1, nmS_c k1] at v1 v2
        have eD : nmS m 100 (tkS m 44 (rtC m s).2) = rtD m s := rfl
        rw [eD] at v1 v2
        by_cases cD : noS (rtD m s).2 = true
        · refine ⟨up2 m3 (a + 4) 3 (rtD m s).1, Ch_t C3 (Ch_up (by omega) (by omega)), fun _ => ⟨by rw [hm3, hm2, hm1]; rfl, ?_⟩, fun q => absurd cD q⟩
          have z : Int32.ofNat 4 ≤ nI (3 + 1) := nI_le (a := 4) (b := 4) (Nat.le_refl _) (by omega)
          rw [v1 cD, r_MSt_readFrom_73]
          simp only [r_MSt_readFrom_75, r_MSt_readFrom_76, r_MSt_readFrom_79, r_MSt_readFrom_80, sL_0, sL_1, sL_2, mk_i, mk_r, mk_f, mk_n, mk_u, mk_l, List.set_cons_succ, List.set_cons_zero, Nat.reduceAdd, ckS_0, ckS_1, ckS_2, ckS_3, ckS_4, Option.bind_some, Option.isSome_some, psh, if_true, if_false, i10, not_true_eq_false, not_false_eq_true, Bool.false_eq_true, and_self, and_true, true_and, eq_self, g1, g2, g5, g6, z]
          rfl
        · exact ⟨m3, C3, fun q => absurd q cD, fun q => v2 q⟩
      · have eD : (rtD m s).2 = (rtC m s).2 := tn_f cC
        rw [eD]
        exact ⟨m2, C2, fun q => absurd q cC, fun q => u2 q⟩
    · have eD : (rtD m s).2 = (rtB m s).2 := (tn_f (by show ¬ noS (nmS m 100 (tkS m 44 (rtB m s).2)).2 = true; rw [tn_f cB]; exact cB)).trans (tn_f cB)
      rw [eD]
      exact ⟨m1, C1, fun q => absurd q cB, fun q => q2 q⟩
  · have eB : (rtB m s).2 = (rtA m s).2 := tn_f cA
    have cB : ¬ noS (rtB m s).2 = true := by rw [eB]; exact cA
    have eC : (rtC m s).2 = (rtB m s).2 := tn_f cB
    have cC : ¬ noS (rtC m s).2 = true := by rw [eC]; exact cB
    have eD : (rtD m s).2 = (rtC m s).2 := tn_f cC
    rw [eD, eC, eB]
    exact ⟨m, Ch_r, fun q => absurd q cA, fun q => p2 q⟩
-- the sums
theorem wgK_row {c j : Nat} (h : ¬ c = a) : wgK m a k c j = m c j := by
  unfold wgK
  rw [up2_a h, up2_a h, up2_a h, up2_a h, up2_a h, up2_a h]
theorem wgK_s : up2 (up2 (up2 (up2 (up2 (up2 (wgK m a k) a 5 (smS (fun j => m (a + 1) j) k + m (a + 1) k)) a 6 (smS (fun j => m (a + 1) j * m (a + 2) j) k + m (a + 1) k * m (a + 2) k)) a 7 (smS (fun j => m (a + 1) j * m (a + 3) j) k + m (a + 1) k * m (a + 3) k)) a 8 (smS (fun j => m (a + 1) j * m (a + 2) j * m (a + 2) j) k + m (a + 1) k * m (a + 2) k * m (a + 2) k)) a 9 (smS (fun j => m (a + 1) j * m (a + 3) j * m (a + 3) j) k + m (a + 1) k * m (a + 3) k * m (a + 3) k)) a 10 (smS (fun j => m (a + 1) j * m (a + 2) j * m (a + 3) j) k + m (a + 1) k * m (a + 2) k * m (a + 3) k) = wgK m a (k + 1) := by
  refine funext fun c => funext fun j => ?_
  by_cases h : c = a
  · subst h
    by_cases j10 : j = 10
    · subst j10; rw [up2_s]; exact (up2_s _ _ _ _).symm
    by_cases j9 : j = 9
    · subst j9; unfold wgK; simp only [up2_e, Nat.reduceEqDiff, and_false, and_true, if_false, if_true]; rfl
    by_cases j8 : j = 8
    · subst j8; unfold wgK; simp only [up2_e, Nat.reduceEqDiff, and_false, and_true, if_false, if_true]; rfl
    by_cases j7 : j = 7
    · subst j7; unfold wgK; simp only [up2_e, Nat.reduceEqDiff, and_false, and_true, if_false, if_true]; rfl
    by_cases j6 : j = 6
    · subst j6; unfold wgK; simp only [up2_e, Nat.reduceEqDiff, and_false, and_true, if_false, if_true]; rfl
    by_cases j5 : j = 5
    · subst j5; unfold wgK; simp only [up2_e, Nat.reduceEqDiff, and_false, and_true, if_false, if_true]; rfl
    unfold wgK
    simp only [up2_e, j10, j9, j8, j7, j6, j5, and_false, if_false]
  · rw [up2_a h, up2_a h, up2_a h, up2_a h, up2_a h, up2_a h, wgK_row h, wgK_row h]
theorem wgK_v : wgK m a k a 5 = smS (fun j => m (a + 1) j) k ∧ wgK m a k a 6 = smS (fun j => m (a + 1) j * m (a + 2) j) k ∧ wgK m a k a 7 = smS (fun j => m (a + 1) j * m (a + 3) j) k ∧ wgK m a k a 8 = smS (fun j => m (a + 1) j * m (a + 2) j * m (a + 2) j) k ∧ wgK m a k a 9 = smS (fun j => m (a + 1) j * m (a + 3) j * m (a + 3) j) k ∧ wgK m a k a 10 = smS (fun j => m (a + 1) j * m (a + 2) j * m (a + 3) j) k ∧ wgK m a k a 4 = m a 4 := by
  unfold wgK
  refine ⟨?_, ?_, ?_, ?_, ?_, ?_, ?_⟩ <;> simp [up2_e]
theorem wgK_0 : up2 (up2 (up2 (up2 (up2 (up2 m a 5 0) a 6 0) a 7 0) a 8 0) a 9 0) a 10 0 = wgK m a 0 := rfl
set_option maxHeartbeats 2000000 in
theorem wg_loop (qa : snA a) (hL : L ≤ 12) (h4 : m a 4 = nI L) : ∀ (r k : Nat) (l2 l3 l4 : Value), k + r = L → Rr X d MSt_weigh 32 [.ref a, .int (nI k), l2, l3, l4] [] (Wd (wgK m a k) la ro et) = some (none, Wd (wgK m a L) la ro et) := by
  obtain ⟨⟨o1, ⟨q4, q5, q6, q7, q8, q9, q10⟩, o3⟩, ⟨g1, g2, g3, g4, g5, g6⟩, ⟨i1, i2, i3, i4, i5, i6⟩, ⟨j1, j2, j3, j4, j5, j6⟩, _⟩ := qa
  have n1 : ¬ a + 1 = a := by omega
  have n2 : ¬ a + 2 = a := by omega
  have n3 : ¬ a + 3 = a := by omega
  intro r
  induction r with
  | zero =>
    intro k l2 l3 l4 hk
    have : k = L := by omega
    subst this
    have z : nI k ≤ nI k := nI_le (Nat.le_refl _) (by omega)
    have v4 : wgK m a k a 4 = nI k := (wgK_v (m := m) (a := a) (k := k)).2.2.2.2.2.2.trans h4
    rw [r_MSt_weigh_32]
    simp only [r_MSt_weigh_33, r_MSt_weigh_34, r_MSt_weigh_37, r_MSt_weigh_154, sL_0, sL_1, sL_2, mk_i, mk_r, mk_f, mk_n, mk_u, mk_l, List.set_cons_succ, List.set_cons_zero, Nat.reduceAdd, ckS_0, ckS_1, ckS_2, ckS_3, ckS_4, Option.bind_some, Option.isSome_some, psh, if_true, if_false, i10, not_true_eq_false, not_false_eq_true, Bool.false_eq_true, and_self, and_true, true_and, eq_self, q4, v4, z]
  | succ r ih =>
    intro k l2 l3 l4 hk
    have z1 : ¬ nI L ≤ nI k := nI_ge (by omega) (by omega)
    have z2 : ¬ (12 : Int32) ≤ nI k := nI_ge (a := k) (b := 12) (by omega) (by omega)
    have cK : (nI k).toNatClampNeg = k := nI_clamp (by omega)
    have iK := ix (j := k) (N := 12) (by omega) (by decide)
    obtain ⟨v5, v6, v7, v8, v9, v10, v4⟩ := wgK_v (m := m) (a := a) (k := k)
    rw [h4] at v4
    have w1 : wgK m a k (a + 1) k = m (a + 1) k := wgK_row n1
    have w2 : wgK m a k (a + 2) k = m (a + 2) k := wgK_row n2
    have w3 : wgK m a k (a + 3) k = m (a + 3) k := wgK_row n3
    have kk : ∀ (M : Mu) (i j : Nat) (v : Int32), ¬ j = i → up2 M a i v a j = M a j := fun M i j v h => up2_k h
    have k65 := fun M v => kk M 5 6 v (by decide)
    have k75 := fun M v => kk M 5 7 v (by decide)
    have k76 := fun M v => kk M 6 7 v (by decide)
    have k85 := fun M v => kk M 5 8 v (by decide)
    have k86 := fun M v => kk M 6 8 v (by decide)
    have k87 := fun M v => kk M 7 8 v (by decide)
    have k95 := fun M v => kk M 5 9 v (by decide)
    have k96 := fun M v => kk M 6 9 v (by decide)
    have k97 := fun M v => kk M 7 9 v (by decide)
    have k98 := fun M v => kk M 8 9 v (by decide)
    have k05 := fun M v => kk M 5 10 v (by decide)
    have k06 := fun M v => kk M 6 10 v (by decide)
    have k07 := fun M v => kk M 7 10 v (by decide)
    have k08 := fun M v => kk M 8 10 v (by decide)
    have k09 := fun M v => kk M 9 10 v (by decide)
    have nx := ih (k + 1) (.int (m (a + 1) k)) (.int (m (a + 2) k)) (.int (m (a + 3) k)) (by omega)
    rw [← wgK_s] at nx
    rw [r_MSt_weigh_32]
    simp only [r_MSt_weigh_33, r_MSt_weigh_34, r_MSt_weigh_37, r_MSt_weigh_40, r_MSt_weigh_41, r_MSt_weigh_43, r_MSt_weigh_46, r_MSt_weigh_47, r_MSt_weigh_50, r_MSt_weigh_51, r_MSt_weigh_52, r_MSt_weigh_53, r_MSt_weigh_54, r_MSt_weigh_57, r_MSt_weigh_58, r_MSt_weigh_59, r_MSt_weigh_60, r_MSt_weigh_61, r_MSt_weigh_64, r_MSt_weigh_65, r_MSt_weigh_66, r_MSt_weigh_68, r_MSt_weigh_69, r_MSt_weigh_69i, r_MSt_weigh_70, r_MSt_weigh_73, r_MSt_weigh_74, r_MSt_weigh_75, r_MSt_weigh_78, r_MSt_weigh_79, r_MSt_weigh_79i, r_MSt_weigh_80, r_MSt_weigh_83, r_MSt_weigh_84, r_MSt_weigh_85, r_MSt_weigh_86, r_MSt_weigh_87, r_MSt_weigh_90, r_MSt_weigh_91, r_MSt_weigh_91i, r_MSt_weigh_92, r_MSt_weigh_95, r_MSt_weigh_96, r_MSt_weigh_98, r_MSt_weigh_99, r_MSt_weigh_100, r_MSt_weigh_103, r_MSt_weigh_104, r_MSt_weigh_104i, r_MSt_weigh_105, r_MSt_weigh_108, r_MSt_weigh_109, r_MSt_weigh_110, r_MSt_weigh_111, r_MSt_weigh_112, r_MSt_weigh_113, r_MSt_weigh_114, r_MSt_weigh_117, r_MSt_weigh_118, r_MSt_weigh_118i, r_MSt_weigh_119, r_MSt_weigh_122, r_MSt_weigh_123, r_MSt_weigh_125, r_MSt_weigh_126, r_MSt_weigh_128, r_MSt_weigh_129, r_MSt_weigh_130, r_MSt_weigh_133, r_MSt_weigh_134, r_MSt_weigh_134i, r_MSt_weigh_135, r_MSt_weigh_138, r_MSt_weigh_139, r_MSt_weigh_140, r_MSt_weigh_141, r_MSt_weigh_143, r_MSt_weigh_144, r_MSt_weigh_145, r_MSt_weigh_148, r_MSt_weigh_151, sL_0, sL_1, sL_2, mk_i, mk_r, mk_f, mk_n, mk_u, mk_l, List.set_cons_succ, List.set_cons_zero, Nat.reduceAdd, ckS_0, ckS_1, ckS_2, ckS_3, ckS_4, Option.bind_some, Option.isSome_some, psh, if_true, if_false, i10, not_true_eq_false, not_false_eq_true, Bool.false_eq_true, and_self, and_true, true_and, eq_self, q4, q5, q6, q7, q8, q9, q10, g1, g2, g3, g4, i1, i2, i3, i4, j1, j2, j3, j4, v4, z1, z2, cK, iK, w1, w2, w3, v5, v6, v7, v8, v9, v10, k65, k75, k76, k85, k86, k87, k95, k96, k97, k98, k05, k06, k07, k08, k09, nI_1]
    exact nx
theorem e_weigh (qa : snA a) (hL : L ≤ 12) (h4 : m a 4 = nI L) : Rr X d MSt_weigh 0 [.ref a, mkU, mkU, mkU, mkU] [] (Wd m la ro et) = some (none, Wd (wgK m a L) la ro et) := by
  have lp := wg_loop (X := X) (d := d) (la := la) (ro := ro) (et := et) qa hL h4 L 0 mkU mkU mkU (by omega)
  obtain ⟨o1, ⟨q4, q5, q6, q7, q8, q9, q10⟩, o3⟩ := qa.1
  rw [nI_0] at lp
  simp only [r_MSt_weigh_0, r_MSt_weigh_1, r_MSt_weigh_2, r_MSt_weigh_5, r_MSt_weigh_6, r_MSt_weigh_7, r_MSt_weigh_10, r_MSt_weigh_11, r_MSt_weigh_12, r_MSt_weigh_15, r_MSt_weigh_16, r_MSt_weigh_17, r_MSt_weigh_20, r_MSt_weigh_21, r_MSt_weigh_22, r_MSt_weigh_25, r_MSt_weigh_26, r_MSt_weigh_27, r_MSt_weigh_30, r_MSt_weigh_31, sL_0, sL_1, sL_2, mk_i, mk_r, mk_f, mk_n, mk_u, mk_l, List.set_cons_succ, List.set_cons_zero, Nat.reduceAdd, ckS_0, ckS_1, ckS_2, ckS_3, ckS_4, Option.bind_some, Option.isSome_some, psh, if_true, if_false, i10, not_true_eq_false, not_false_eq_true, Bool.false_eq_true, and_self, and_true, true_and, eq_self, q5, q6, q7, q8, q9, q10, wgK_0, lp]
theorem wgK_ok : sumsOk (wgK m a L) a L := by
  obtain ⟨v5, v6, v7, v8, v9, v10, v4⟩ := wgK_v (m := m) (a := a) (k := L)
  unfold sumsOk
  simp only [wgK_row (m := m) (a := a) (k := L) (show ¬ a + 1 = a by omega), wgK_row (m := m) (a := a) (k := L) (show ¬ a + 2 = a by omega), wgK_row (m := m) (a := a) (k := L) (show ¬ a + 3 = a by omega)]
  exact ⟨v5, v6, v7, v8, v9, v10⟩
theorem Ch_wg : ChA a m (wgK m a L) := Ch_t (Ch_t (Ch_t (Ch_t (Ch_t (Ch_f (by omega) (by omega)) (Ch_f (by omega) (by omega))) (Ch_f (by omega) (by omega))) (Ch_f (by omega) (by omega))) (Ch_f (by omega) (by omega))) (Ch_f (by omega) (by omega))
end
