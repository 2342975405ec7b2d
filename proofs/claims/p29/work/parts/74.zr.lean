-- ===== by hand: acts, both sides one number; their contracts
noncomputable def mdS (q a b x : Int32) : Int32 × List Int32 := if a = 0 then rlS q b x [] else if a = 1 then trS q b x [] else if a = 2 then enS q b x [] else tlS q b x []
theorem as_0_0 {b x : Int32} : askS 0 b 10 (some 0) 0 x [] = some (mdS 0 0 b x) := by
  simp [askS, fndF, abN, ow, owL, mdS, rlS, pTS, tTS, enS, trS, pLS, tlS]
theorem as_0_1 {b x : Int32} : askS 0 b 10 (some 0) 1 x [] = some (mdS 0 1 b x) := by
  simp [askS, fndF, abN, ow, owL, mdS, rlS, pTS, tTS, enS, trS, pLS, tlS]
theorem as_0_2 {b x : Int32} : askS 0 b 10 (some 0) 2 x [] = some (mdS 0 2 b x) := by
  simp [askS, fndF, abN, ow, owL, mdS, rlS, pTS, tTS, enS, trS, pLS, tlS]
theorem as_0_3 {b x : Int32} : askS 0 b 10 (some 0) 3 x [] = some (mdS 0 3 b x) := by
  simp [askS, fndF, abN, ow, owL, mdS, rlS, pTS, tTS, enS, trS, pLS, tlS]
theorem as_1_0 {b x : Int32} : askS 1 b 10 (some 1) 0 x [] = some (mdS 1 0 b x) := by
  simp [askS, fndF, abN, ow, owL, mdS, rlS, pTS, tTS, enS, trS, pLS, tlS]
theorem as_1_1 {b x : Int32} : askS 1 b 10 (some 1) 1 x [] = some (mdS 1 1 b x) := by
  simp [askS, fndF, abN, ow, owL, mdS, rlS, pTS, tTS, enS, trS, pLS, tlS]
theorem as_1_2 {b x : Int32} : askS 1 b 10 (some 1) 2 x [] = some (mdS 1 2 b x) := by
  simp [askS, fndF, abN, ow, owL, mdS, rlS, pTS, tTS, enS, trS, pLS, tlS]
theorem as_1_3 {b x : Int32} : askS 1 b 10 (some 1) 3 x [] = some (mdS 1 3 b x) := by
  simp [askS, fndF, abN, ow, owL, mdS, rlS, pTS, tTS, enS, trS, pLS, tlS]
theorem as_2_0 {b x : Int32} : askS 2 b 10 (some 2) 0 x [] = some (mdS 2 0 b x) := by
  simp [askS, fndF, abN, ow, owL, mdS, rlS, pTS, tTS, enS, trS, pLS, tlS]
theorem as_2_1 {b x : Int32} : askS 2 b 10 (some 2) 1 x [] = some (mdS 2 1 b x) := by
  simp [askS, fndF, abN, ow, owL, mdS, rlS, pTS, tTS, enS, trS, pLS, tlS]
theorem as_2_2 {b x : Int32} : askS 2 b 10 (some 2) 2 x [] = some (mdS 2 2 b x) := by
  simp [askS, fndF, abN, ow, owL, mdS, rlS, pTS, tTS, enS, trS, pLS, tlS]
theorem as_2_3 {b x : Int32} : askS 2 b 10 (some 2) 3 x [] = some (mdS 2 3 b x) := by
  simp [askS, fndF, abN, ow, owL, mdS, rlS, pTS, tTS, enS, trS, pLS, tlS]
theorem as_3_0 {b x : Int32} : askS 3 b 10 (some 3) 0 x [] = some (mdS 3 0 b x) := by
  simp [askS, fndF, abN, ow, owL, mdS, rlS, pTS, tTS, enS, trS, pLS, tlS]
theorem as_3_1 {b x : Int32} : askS 3 b 10 (some 3) 1 x [] = some (mdS 3 1 b x) := by
  simp [askS, fndF, abN, ow, owL, mdS, rlS, pTS, tTS, enS, trS, pLS, tlS]
theorem as_3_2 {b x : Int32} : askS 3 b 10 (some 3) 2 x [] = some (mdS 3 2 b x) := by
  simp [askS, fndF, abN, ow, owL, mdS, rlS, pTS, tTS, enS, trS, pLS, tlS]
theorem as_3_3 {b x : Int32} : askS 3 b 10 (some 3) 3 x [] = some (mdS 3 3 b x) := by
  simp [askS, fndF, abN, ow, owL, mdS, rlS, pTS, tTS, enS, trS, pLS, tlS]
theorem as_4_0 {b x : Int32} : askS 4 b 10 (some 4) 0 x [] = some (mdS 4 0 b x) := by
  simp [askS, fndF, abN, ow, owL, mdS, rlS, pTS, tTS, enS, trS, pLS, tlS]
theorem as_4_1 {b x : Int32} : askS 4 b 10 (some 4) 1 x [] = some (mdS 4 1 b x) := by
  simp [askS, fndF, abN, ow, owL, mdS, rlS, pTS, tTS, enS, trS, pLS, tlS]
theorem as_4_2 {b x : Int32} : askS 4 b 10 (some 4) 2 x [] = some (mdS 4 2 b x) := by
  simp [askS, fndF, abN, ow, owL, mdS, rlS, pTS, tTS, enS, trS, pLS, tlS]
theorem as_4_3 {b x : Int32} : askS 4 b 10 (some 4) 3 x [] = some (mdS 4 3 b x) := by
  simp [askS, fndF, abN, ow, owL, mdS, rlS, pTS, tTS, enS, trS, pLS, tlS]
theorem as_5_0 {b x : Int32} : askS 5 b 10 (some 5) 0 x [] = some (mdS 5 0 b x) := by
  simp [askS, fndF, abN, ow, owL, mdS, rlS, pTS, tTS, enS, trS, pLS, tlS]
theorem as_5_1 {b x : Int32} : askS 5 b 10 (some 5) 1 x [] = some (mdS 5 1 b x) := by
  simp [askS, fndF, abN, ow, owL, mdS, rlS, pTS, tTS, enS, trS, pLS, tlS]
theorem as_5_2 {b x : Int32} : askS 5 b 10 (some 5) 2 x [] = some (mdS 5 2 b x) := by
  simp [askS, fndF, abN, ow, owL, mdS, rlS, pTS, tTS, enS, trS, pLS, tlS]
theorem as_5_3 {b x : Int32} : askS 5 b 10 (some 5) 3 x [] = some (mdS 5 3 b x) := by
  simp [askS, fndF, abN, ow, owL, mdS, rlS, pTS, tTS, enS, trS, pLS, tlS]
theorem as_6_0 {b x : Int32} : askS 6 b 10 (some 6) 0 x [] = some (mdS 6 0 b x) := by
  simp [askS, fndF, abN, ow, owL, mdS, rlS, pTS, tTS, enS, trS, pLS, tlS]
theorem as_6_1 {b x : Int32} : askS 6 b 10 (some 6) 1 x [] = some (mdS 6 1 b x) := by
  simp [askS, fndF, abN, ow, owL, mdS, rlS, pTS, tTS, enS, trS, pLS, tlS]
theorem as_6_2 {b x : Int32} : askS 6 b 10 (some 6) 2 x [] = some (mdS 6 2 b x) := by
  simp [askS, fndF, abN, ow, owL, mdS, rlS, pTS, tTS, enS, trS, pLS, tlS]
theorem as_6_3 {b x : Int32} : askS 6 b 10 (some 6) 3 x [] = some (mdS 6 3 b x) := by
  simp [askS, fndF, abN, ow, owL, mdS, rlS, pTS, tTS, enS, trS, pLS, tlS]
theorem as_7_0 {b x : Int32} : askS 7 b 10 (some 7) 0 x [] = some (mdS 7 0 b x) := by
  simp [askS, fndF, abN, ow, owL, mdS, rlS, pTS, tTS, enS, trS, pLS, tlS]
theorem as_7_1 {b x : Int32} : askS 7 b 10 (some 7) 1 x [] = some (mdS 7 1 b x) := by
  simp [askS, fndF, abN, ow, owL, mdS, rlS, pTS, tTS, enS, trS, pLS, tlS]
theorem as_7_2 {b x : Int32} : askS 7 b 10 (some 7) 2 x [] = some (mdS 7 2 b x) := by
  simp [askS, fndF, abN, ow, owL, mdS, rlS, pTS, tTS, enS, trS, pLS, tlS]
theorem as_7_3 {b x : Int32} : askS 7 b 10 (some 7) 3 x [] = some (mdS 7 3 b x) := by
  simp [askS, fndF, abN, ow, owL, mdS, rlS, pTS, tTS, enS, trS, pLS, tlS]
theorem as_all {s a : Nat} {b x : Int32} (hs : s < 8) (ha : a < 4) : askS s b 10 (some s) a x [] = some (mdS (nI s) (nI a) b x) := by
  match s, hs, a, ha with
  | 0, _, 0, _ => exact as_0_0
  | 0, _, 1, _ => exact as_0_1
  | 0, _, 2, _ => exact as_0_2
  | 0, _, 3, _ => exact as_0_3
  | 1, _, 0, _ => exact as_1_0
  | 1, _, 1, _ => exact as_1_1
  | 1, _, 2, _ => exact as_1_2
  | 1, _, 3, _ => exact as_1_3
  | 2, _, 0, _ => exact as_2_0
  | 2, _, 1, _ => exact as_2_1
  | 2, _, 2, _ => exact as_2_2
  | 2, _, 3, _ => exact as_2_3
  | 3, _, 0, _ => exact as_3_0
  | 3, _, 1, _ => exact as_3_1
  | 3, _, 2, _ => exact as_3_2
  | 3, _, 3, _ => exact as_3_3
  | 4, _, 0, _ => exact as_4_0
  | 4, _, 1, _ => exact as_4_1
  | 4, _, 2, _ => exact as_4_2
  | 4, _, 3, _ => exact as_4_3
  | 5, _, 0, _ => exact as_5_0
  | 5, _, 1, _ => exact as_5_1
  | 5, _, 2, _ => exact as_5_2
  | 5, _, 3, _ => exact as_5_3
  | 6, _, 0, _ => exact as_6_0
  | 6, _, 1, _ => exact as_6_1
  | 6, _, 2, _ => exact as_6_2
  | 6, _, 3, _ => exact as_6_3
  | 7, _, 0, _ => exact as_7_0
  | 7, _, 1, _ => exact as_7_1
  | 7, _, 2, _ => exact as_7_2
  | 7, _, 3, _ => exact as_7_3
section
variable {X : Tok} {d : Nat} {mu mu' : Mu} {la la' : La} {ro ro' : Ro} {et : Nat → Option va_E} {h : Hp}
theorem trG_up {cf kf cr c j : Nat} {v : Int32} {T : List Int32} (h1 : ¬ (c = cf ∧ j = kf)) (h2 : ¬ c = cr) : up2 (trG cf kf cr mu T) c j v = trG cf kf cr (up2 mu c j v) T := by
  refine funext fun c' => funext fun j' => ?_
  rw [up2_e]
  unfold trG
  by_cases q : c' = c ∧ j' = j
  · obtain ⟨rfl, rfl⟩ := q
    rw [if_pos ⟨rfl, rfl⟩, if_neg h1, if_neg (fun q => h2 q.1), up2_s]
  · have e : up2 mu c j v c' j' = mu c' j' := by rw [up2_e, if_neg q]
    rw [if_neg q, e]
    by_cases g1 : c' = cf ∧ j' = kf
    · rw [if_pos g1, if_pos g1]
    · rw [if_neg g1, if_neg g1]
      by_cases g2 : c' = cr ∧ j' < 24
      · rw [if_pos g2, if_pos g2]
        cases T[j']? with
        | some v => rfl
        | none => exact (up2_a (fun q => h2 q.symm)).symm
      · rw [if_neg g2, if_neg g2]
/-- the kind of a body of the class -/
noncomputable def kdC (mu : Mu) (b : Int32) : Int32 := if (0 ≤ b ∧ b < mu 16 2) ∧ b < 50 then mu 17 b.toNatClampNeg else -1
theorem e_kindOfA {m : Mu} {b : Int32} (h2 : m 16 2 = mu 16 2) (h17 : ∀ j, m 17 j = mu 17 j) : Rr X d MBo_kindOf 0 [.ref 16, .int b] [] (Wd m la ro et) = some (some (.int (kdC mu b)), Wd m la ro et) := by
  unfold kdC
  by_cases c1 : 0 ≤ b
  · by_cases c2 : b < mu 16 2
    · by_cases c3 : b < 50
      · have i1 : ¬ 50 ≤ b.toNatClampNeg := fun q => by
          rw [Int32.lt_iff_toInt_lt, show (50 : Int32).toInt = 50 from rfl] at c3
          have : 50 ≤ b.toInt.toNat := q
          omega
        rw [if_pos ⟨⟨c1, c2⟩, c3⟩]
        simp only [r_MBo_kindOf_0, r_MBo_kindOf_1, r_MBo_kindOf_4, r_MBo_kindOf_5, r_MBo_kindOf_6, r_MBo_kindOf_9, r_MBo_kindOf_12, r_MBo_kindOf_13, r_MBo_kindOf_15, r_MBo_kindOf_18, r_MBo_kindOf_19, r_MBo_kindOf_22, r_MBo_kindOf_23, r_MBo_kindOf_23a, r_MBo_kindOf_23o, r_MBo_kindOf_24, r_MBo_kindOf_27, r_MBo_kindOf_28, sL_0, sL_1, sL_2, mk_i, mk_r, mk_f, mk_n, mk_u, mk_l, List.set_cons_succ, List.set_cons_zero, Nat.reduceAdd, ckS_0, ckS_1, ckS_2, ckS_3, ckS_4, Option.bind_some, Option.isSome_some, psh, if_true, if_false, i10, not_true_eq_false, not_false_eq_true, Bool.false_eq_true, and_self, and_true, true_and, eq_self, qI_16_2, qI_16_3, qI_16_4, qI_16_5, qR_16_0, qRd_16_0, qR_16_1, qRd_16_1, qA_17, qAd_17, qO_16, qL_17, qLd_17, h2, h17, Int32.not_lt.mpr c1, Int32.not_le.mpr c2, Int32.not_le.mpr c3, i1, or_self]
      · rw [if_neg (fun q => c3 q.2)]
        simp only [r_MBo_kindOf_0, r_MBo_kindOf_1, r_MBo_kindOf_4, r_MBo_kindOf_5, r_MBo_kindOf_6, r_MBo_kindOf_9, r_MBo_kindOf_12, r_MBo_kindOf_13, r_MBo_kindOf_15, r_MBo_kindOf_18, r_MBo_kindOf_19, r_MBo_kindOf_22, r_MBo_kindOf_23, r_MBo_kindOf_23a, r_MBo_kindOf_23o, r_MBo_kindOf_24, r_MBo_kindOf_27, r_MBo_kindOf_28, sL_0, sL_1, sL_2, mk_i, mk_r, mk_f, mk_n, mk_u, mk_l, List.set_cons_succ, List.set_cons_zero, Nat.reduceAdd, ckS_0, ckS_1, ckS_2, ckS_3, ckS_4, Option.bind_some, Option.isSome_some, psh, if_true, if_false, i10, not_true_eq_false, not_false_eq_true, Bool.false_eq_true, and_self, and_true, true_and, eq_self, qI_16_2, qI_16_3, qI_16_4, qI_16_5, qR_16_0, qRd_16_0, qR_16_1, qRd_16_1, qA_17, qAd_17, qO_16, qL_17, qLd_17, h2, Int32.not_lt.mpr c1, Int32.not_le.mpr c2, Int32.not_lt.mp c3]
    · rw [if_neg (fun q => c2 q.1.2)]
      simp only [r_MBo_kindOf_0, r_MBo_kindOf_1, r_MBo_kindOf_4, r_MBo_kindOf_5, r_MBo_kindOf_6, r_MBo_kindOf_9, r_MBo_kindOf_12, r_MBo_kindOf_13, r_MBo_kindOf_15, r_MBo_kindOf_18, r_MBo_kindOf_19, r_MBo_kindOf_22, r_MBo_kindOf_23, r_MBo_kindOf_23a, r_MBo_kindOf_23o, r_MBo_kindOf_24, r_MBo_kindOf_27, r_MBo_kindOf_28, sL_0, sL_1, sL_2, mk_i, mk_r, mk_f, mk_n, mk_u, mk_l, List.set_cons_succ, List.set_cons_zero, Nat.reduceAdd, ckS_0, ckS_1, ckS_2, ckS_3, ckS_4, Option.bind_some, Option.isSome_some, psh, if_true, if_false, i10, not_true_eq_false, not_false_eq_true, Bool.false_eq_true, and_self, and_true, true_and, eq_self, qI_16_2, qI_16_3, qI_16_4, qI_16_5, qR_16_0, qRd_16_0, qR_16_1, qRd_16_1, qA_17, qAd_17, qO_16, qL_17, qLd_17, h2, Int32.not_lt.mpr c1, Int32.not_lt.mp c2]
  · rw [if_neg (fun q => c1 q.1.1)]
    simp only [r_MBo_kindOf_0, r_MBo_kindOf_1, r_MBo_kindOf_4, r_MBo_kindOf_5, r_MBo_kindOf_6, r_MBo_kindOf_9, r_MBo_kindOf_12, r_MBo_kindOf_13, r_MBo_kindOf_15, r_MBo_kindOf_18, r_MBo_kindOf_19, r_MBo_kindOf_22, r_MBo_kindOf_23, r_MBo_kindOf_23a, r_MBo_kindOf_23o, r_MBo_kindOf_24, r_MBo_kindOf_27, r_MBo_kindOf_28, sL_0, sL_1, sL_2, mk_i, mk_r, mk_f, mk_n, mk_u, mk_l, List.set_cons_succ, List.set_cons_zero, Nat.reduceAdd, ckS_0, ckS_1, ckS_2, ckS_3, ckS_4, Option.bind_some, Option.isSome_some, psh, if_true, if_false, i10, not_true_eq_false, not_false_eq_true, Bool.false_eq_true, and_self, and_true, true_and, eq_self, qI_16_2, qI_16_3, qI_16_4, qI_16_5, qR_16_0, qRd_16_0, qR_16_1, qRd_16_1, qA_17, qAd_17, qO_16, qL_17, qLd_17, Int32.not_le.mp c1]
theorem kd_v (hg : gOk ivG mu) {b : Int32} : kdC mu b = -1 ∨ ∃ s, s < 8 ∧ kdC mu b = nI s := by
  unfold kdC
  split
  · have h : (0 : Int) ≤ (mu 17 b.toNatClampNeg).toInt ∧ (mu 17 b.toNatClampNeg).toInt ≤ 7 := (hg 17 b.toNatClampNeg).1
    exact .inr ⟨(mu 17 b.toNatClampNeg).toInt.toNat, by omega, Int32.toInt_inj.mp (by rw [nI_toInt (by omega)]; omega)⟩
  · exact .inl rfl
noncomputable def a4 (a : Int32) : Bool := decide (0 ≤ a ∧ a ≤ 3)
theorem a4_of {a : Int32} (h : a4 a = true) : ∃ n, n < 4 ∧ a = nI n := by
  obtain ⟨h1, h2⟩ := of_decide_eq_true h
  obtain ⟨n, n1, n2, n3⟩ := i_between (a := 0) (b := 3) (by omega) (by omega) h1 h2
  exact ⟨n, by omega, n3⟩
noncomputable def acR (k a b x : Int32) : Int32 × List Int32 := if k = -1 then (0, []) else if a4 a = true then mdS k a b x else (0, [])
theorem lt4 {a : Int32} : (¬ a < 0 ∧ a < 4) ↔ (0 ≤ a ∧ a ≤ 3) := by
  simp only [Int32.lt_iff_toInt_lt, Int32.le_iff_toInt_le, show (0 : Int32).toInt = 0 from rfl, show (3 : Int32).toInt = 3 from rfl, show (4 : Int32).toInt = 4 from rfl]
  omega
theorem e_actC {b a x : Int32} (hE : tEx X) (hg : gOk ivG mu) : Rr X (d + 24) MTo_act 0 [.ref 0, .int b, .int a, .int x] [] (Wd mu la ro et) = some (some (.int (acR (kdC mu b) a b x).1), Wd (trC (up2 (up2 mu 16 5 (kdC mu b)) 16 4 b) (acR (kdC mu b) a b x).2) la ro et) := by
  have t0 : up2 mu 16 3 0 = trC mu [] := trG_0 (by decide)
  have ek := e_kindOfA (X := X) (d := d + 22) (mu := mu) (m := trC mu []) (la := la) (ro := ro) (et := et) (b := b) (trG_o (by decide) (by decide)) (fun j => trG_o (by omega) (by decide))
  have u1 : ∀ k, up2 (up2 (trC mu []) 16 5 k) 16 4 b = trC (up2 (up2 mu 16 5 k) 16 4 b) [] := fun k => by rw [trG_up (by decide) (by decide), trG_up (by decide) (by decide)]
  have u5 : ∀ k, trC (up2 (up2 mu 16 5 k) 16 4 b) [] 16 5 = k := fun k => (trG_o (by decide) (by decide)).trans ((up2_k (by decide)).trans (up2_s _ _ _ _))
  have u6 : ∀ k, up2 (trC mu []) 16 5 k 16 5 = k := fun k => up2_s _ _ _ _
  unfold acR
  rcases kd_v (b := b) hg with hk | ⟨s, hs, hk⟩
  · rw [hk] at ek
    rw [hk, if_pos rfl]
    simp only [r_MTo_act_0, r_MTo_act_1, r_MTo_act_4, r_MTo_act_5, r_MTo_act_6, r_MTo_act_7, r_MTo_act_10, r_MBo_perform_0, r_MBo_perform_1, r_MBo_perform_2, r_MBo_perform_5, r_MBo_perform_6, r_MBo_perform_7, r_MBo_perform_8, r_MBo_perform_11, r_MBo_perform_14, r_MBo_perform_15, r_MBo_perform_16, r_MBo_perform_19, r_MBo_perform_20, r_MBo_perform_23, r_MBo_perform_24, r_MBo_perform_27, r_MBo_perform_28, r_MBo_perform_31, r_MBo_perform_32, r_MBo_perform_33, r_MBo_perform_36, r_MBo_perform_37, r_MBo_perform_40, r_MBo_perform_41, r_MBo_perform_42, r_MBo_perform_45, r_MBo_perform_46, r_MBo_perform_47, r_MBo_perform_48, r_MBo_perform_51, sL_0, sL_1, sL_2, mk_i, mk_r, mk_f, mk_n, mk_u, mk_l, List.set_cons_succ, List.set_cons_zero, Nat.reduceAdd, ckS_0, ckS_1, ckS_2, ckS_3, ckS_4, Option.bind_some, Option.isSome_some, psh, if_true, if_false, i10, not_true_eq_false, not_false_eq_true, Bool.false_eq_true, and_self, and_true, true_and, eq_self, qI_0_9, qI_0_10, qI_16_2, qI_16_3, qI_16_4, qI_16_5, qR_0_0, qRd_0_0, qR_0_1, qRd_0_1, qR_0_2, qRd_0_2, qR_0_3, qRd_0_3, qR_0_4, qRd_0_4, qR_0_5, qRd_0_5, qR_0_6, qRd_0_6, qR_0_7, qRd_0_7, qR_0_8, qRd_0_8, qR_16_0, qRd_16_0, qR_16_1, qRd_16_1, qO_0, qO_16, t0, ek, u1, u5, u6]
  · rw [hk] at ek
    have hn : ¬ nI s = -1 := fun q => by
      have := congrArg Int32.toInt q
      rw [nI_toInt (by omega), show (-1 : Int32).toInt = -1 from rfl] at this
      omega
    rw [hk, if_neg hn]
    by_cases c : a4 a = true
    · rw [if_pos c]
      obtain ⟨n, hn4, rfl⟩ := a4_of c
      obtain ⟨l1, l2⟩ := lt4.mpr (of_decide_eq_true c)
      have e := e_ask (X := X) (mu := up2 (up2 mu 16 5 (nI s)) 16 4 b) (la := la) (ro := ro) (et := et) (b := b) hE hs (up2_s _ _ _ _) ((up2_k (by decide)).trans (up2_s _ _ _ _)) 10 (d + 1) (some s) n 0 x [] (mdS (nI s) (nI n) b x).1 (mdS (nI s) (nI n) b x).2 (fun j hj => by cases hj; exact hs) hn4 (by omega) (as_all hs hn4)
      rw [nI_0] at e
      have e' : Rr X (d + 22) MBo_ask 0 [.ref 16, .int (nI s), .int (nI n), .int x, .int 0, mkU, mkU] [] (Wd (trC (up2 (up2 mu 16 5 (nI s)) 16 4 b) []) la ro et) = some (some (.int (mdS (nI s) (nI n) b x).1), Wd (trC (up2 (up2 mu 16 5 (nI s)) 16 4 b) (mdS (nI s) (nI n) b x).2) la ro et) := e
      simp only [r_MTo_act_0, r_MTo_act_1, r_MTo_act_4, r_MTo_act_5, r_MTo_act_6, r_MTo_act_7, r_MTo_act_10, r_MBo_perform_0, r_MBo_perform_1, r_MBo_perform_2, r_MBo_perform_5, r_MBo_perform_6, r_MBo_perform_7, r_MBo_perform_8, r_MBo_perform_11, r_MBo_perform_14, r_MBo_perform_15, r_MBo_perform_16, r_MBo_perform_19, r_MBo_perform_20, r_MBo_perform_23, r_MBo_perform_24, r_MBo_perform_27, r_MBo_perform_28, r_MBo_perform_31, r_MBo_perform_32, r_MBo_perform_33, r_MBo_perform_36, r_MBo_perform_37, r_MBo_perform_40, r_MBo_perform_41, r_MBo_perform_42, r_MBo_perform_45, r_MBo_perform_46, r_MBo_perform_47, r_MBo_perform_48, r_MBo_perform_51, sL_0, sL_1, sL_2, mk_i, mk_r, mk_f, mk_n, mk_u, mk_l, List.set_cons_succ, List.set_cons_zero, Nat.reduceAdd, ckS_0, ckS_1, ckS_2, ckS_3, ckS_4, Option.bind_some, Option.isSome_some, psh, if_true, if_false, i10, not_true_eq_false, not_false_eq_true, Bool.false_eq_true, and_self, and_true, true_and, eq_self, qI_0_9, qI_0_10, qI_16_2, qI_16_3, qI_16_4, qI_16_5, qR_0_0, qRd_0_0, qR_0_1, qRd_0_1, qR_0_2, qRd_0_2, qR_0_3, qRd_0_3, qR_0_4, qRd_0_4, qR_0_5, qRd_0_5, qR_0_6, qRd_0_6, qR_0_7, qRd_0_7, qR_0_8, qRd_0_8, qR_16_0, qRd_16_0, qR_16_1, qRd_16_1, qO_0, qO_16, t0, ek, u1, u5, u6, hn, l1, l2, e']
    · rw [if_neg c]
      by_cases l1 : a < 0
      · simp only [r_MTo_act_0, r_MTo_act_1, r_MTo_act_4, r_MTo_act_5, r_MTo_act_6, r_MTo_act_7, r_MTo_act_10, r_MBo_perform_0, r_MBo_perform_1, r_MBo_perform_2, r_MBo_perform_5, r_MBo_perform_6, r_MBo_perform_7, r_MBo_perform_8, r_MBo_perform_11, r_MBo_perform_14, r_MBo_perform_15, r_MBo_perform_16, r_MBo_perform_19, r_MBo_perform_20, r_MBo_perform_23, r_MBo_perform_24, r_MBo_perform_27, r_MBo_perform_28, r_MBo_perform_31, r_MBo_perform_32, r_MBo_perform_33, r_MBo_perform_36, r_MBo_perform_37, r_MBo_perform_40, r_MBo_perform_41, r_MBo_perform_42, r_MBo_perform_45, r_MBo_perform_46, r_MBo_perform_47, r_MBo_perform_48, r_MBo_perform_51, sL_0, sL_1, sL_2, mk_i, mk_r, mk_f, mk_n, mk_u, mk_l, List.set_cons_succ, List.set_cons_zero, Nat.reduceAdd, ckS_0, ckS_1, ckS_2, ckS_3, ckS_4, Option.bind_some, Option.isSome_some, psh, if_true, if_false, i10, not_true_eq_false, not_false_eq_true, Bool.false_eq_true, and_self, and_true, true_and, eq_self, qI_0_9, qI_0_10, qI_16_2, qI_16_3, qI_16_4, qI_16_5, qR_0_0, qRd_0_0, qR_0_1, qRd_0_1, qR_0_2, qRd_0_2, qR_0_3, qRd_0_3, qR_0_4, qRd_0_4, qR_0_5, qRd_0_5, qR_0_6, qRd_0_6, qR_0_7, qRd_0_7, qR_0_8, qRd_0_8, qR_16_0, qRd_16_0, qR_16_1, qRd_16_1, qO_0, qO_16, t0, ek, u1, u5, u6, hn, l1]
      · have l2 : ¬ a < 4 := fun q => c (decide_eq_true (lt4.mp ⟨l1, q⟩))
        simp only [r_MTo_act_0, r_MTo_act_1, r_MTo_act_4, r_MTo_act_5, r_MTo_act_6, r_MTo_act_7, r_MTo_act_10, r_MBo_perform_0, r_MBo_perform_1, r_MBo_perform_2, r_MBo_perform_5, r_MBo_perform_6, r_MBo_perform_7, r_MBo_perform_8, r_MBo_perform_11, r_MBo_perform_14, r_MBo_perform_15, r_MBo_perform_16, r_MBo_perform_19, r_MBo_perform_20, r_MBo_perform_23, r_MBo_perform_24, r_MBo_perform_27, r_MBo_perform_28, r_MBo_perform_31, r_MBo_perform_32, r_MBo_perform_33, r_MBo_perform_36, r_MBo_perform_37, r_MBo_perform_40, r_MBo_perform_41, r_MBo_perform_42, r_MBo_perform_45, r_MBo_perform_46, r_MBo_perform_47, r_MBo_perform_48, r_MBo_perform_51, sL_0, sL_1, sL_2, mk_i, mk_r, mk_f, mk_n, mk_u, mk_l, List.set_cons_succ, List.set_cons_zero, Nat.reduceAdd, ckS_0, ckS_1, ckS_2, ckS_3, ckS_4, Option.bind_some, Option.isSome_some, psh, if_true, if_false, i10, not_true_eq_false, not_false_eq_true, Bool.false_eq_true, and_self, and_true, true_and, eq_self, qI_0_9, qI_0_10, qI_16_2, qI_16_3, qI_16_4, qI_16_5, qR_0_0, qRd_0_0, qR_0_1, qRd_0_1, qR_0_2, qRd_0_2, qR_0_3, qRd_0_3, qR_0_4, qRd_0_4, qR_0_5, qRd_0_5, qR_0_6, qRd_0_6, qR_0_7, qRd_0_7, qR_0_8, qRd_0_8, qR_16_0, qRd_16_0, qR_16_1, qRd_16_1, qO_0, qO_16, t0, ek, u1, u5, u6, hn, l1, l2]
/-- the kind of a body of the model -/
noncomputable def kdM (mu : Mu) (b : Int32) : Int32 := if 0 ≤ b ∧ b ≤ mu 81 51 - 1 then mu 105 b.toNatClampNeg else -1
theorem e_isBodyA {m : Mu} {b : Int32} (h2 : m 81 51 = mu 81 51) : Rr X (d + 1) MRm_isBody 0 [.ref 81, .int b] [] (Wd m la ro et) = some (some (.int (if 0 ≤ b ∧ b ≤ mu 81 51 - 1 then 1 else 0)), Wd m la ro et) := by
  by_cases c : 0 ≤ b ∧ b ≤ mu 81 51 - 1
  · simp [r_MRm_isBody_0, r_MRm_isBody_1, r_MRm_isBody_2, r_MRm_isBody_3, r_MRm_isBody_6, r_MRm_isBody_7, r_MRm_isBody_8, r_MRm_isBody_11, sL_0, sL_1, sL_2, mk_i, mk_r, mk_f, mk_n, mk_u, mk_l, List.set_cons_succ, List.set_cons_zero, Nat.reduceAdd, ckS_0, ckS_1, ckS_2, ckS_3, ckS_4, Option.bind_some, Option.isSome_some, psh, if_true, if_false, qI_81_0, qI_81_2, qI_81_3, qI_81_9, qI_81_10, qI_81_11, qI_81_12, qI_81_13, qI_81_18, qI_81_19, qI_81_20, qI_81_21, qI_81_29, qI_81_30, qI_81_31, qI_81_32, qI_81_33, qI_81_34, qI_81_35, qI_81_39, qI_81_40, qI_81_41, qI_81_42, qI_81_43, qI_81_44, qI_81_45, qI_81_46, qI_81_47, qI_81_51, qI_81_53, qR_81_1, qRd_81_1, qR_81_4, qRd_81_4, qR_81_5, qRd_81_5, qR_81_6, qRd_81_6, qR_81_7, qRd_81_7, qR_81_8, qRd_81_8, qR_81_14, qRd_81_14, qR_81_15, qRd_81_15, qR_81_16, qRd_81_16, qR_81_17, qRd_81_17, qR_81_22, qRd_81_22, qR_81_23, qRd_81_23, qR_81_24, qRd_81_24, qR_81_25, qRd_81_25, qR_81_26, qRd_81_26, qR_81_27, qRd_81_27, qR_81_28, qRd_81_28, qR_81_36, qRd_81_36, qR_81_37, qRd_81_37, qR_81_38, qRd_81_38, qR_81_48, qRd_81_48, qR_81_49, qRd_81_49, qR_81_50, qRd_81_50, qR_81_52, qRd_81_52, qR_81_54, qRd_81_54, qR_81_55, qRd_81_55, qR_81_56, qRd_81_56, qR_81_57, qRd_81_57, qR_81_58, qRd_81_58, qO_81, h2, e_in, c]
  · simp [r_MRm_isBody_0, r_MRm_isBody_1, r_MRm_isBody_2, r_MRm_isBody_3, r_MRm_isBody_6, r_MRm_isBody_7, r_MRm_isBody_8, r_MRm_isBody_11, sL_0, sL_1, sL_2, mk_i, mk_r, mk_f, mk_n, mk_u, mk_l, List.set_cons_succ, List.set_cons_zero, Nat.reduceAdd, ckS_0, ckS_1, ckS_2, ckS_3, ckS_4, Option.bind_some, Option.isSome_some, psh, if_true, if_false, qI_81_0, qI_81_2, qI_81_3, qI_81_9, qI_81_10, qI_81_11, qI_81_12, qI_81_13, qI_81_18, qI_81_19, qI_81_20, qI_81_21, qI_81_29, qI_81_30, qI_81_31, qI_81_32, qI_81_33, qI_81_34, qI_81_35, qI_81_39, qI_81_40, qI_81_41, qI_81_42, qI_81_43, qI_81_44, qI_81_45, qI_81_46, qI_81_47, qI_81_51, qI_81_53, qR_81_1, qRd_81_1, qR_81_4, qRd_81_4, qR_81_5, qRd_81_5, qR_81_6, qRd_81_6, qR_81_7, qRd_81_7, qR_81_8, qRd_81_8, qR_81_14, qRd_81_14, qR_81_15, qRd_81_15, qR_81_16, qRd_81_16, qR_81_17, qRd_81_17, qR_81_22, qRd_81_22, qR_81_23, qRd_81_23, qR_81_24, qRd_81_24, qR_81_25, qRd_81_25, qR_81_26, qRd_81_26, qR_81_27, qRd_81_27, qR_81_28, qRd_81_28, qR_81_36, qRd_81_36, qR_81_37, qRd_81_37, qR_81_38, qRd_81_38, qR_81_48, qRd_81_48, qR_81_49, qRd_81_49, qR_81_50, qRd_81_50, qR_81_52, qRd_81_52, qR_81_54, qRd_81_54, qR_81_55, qRd_81_55, qR_81_56, qRd_81_56, qR_81_57, qRd_81_57, qR_81_58, qRd_81_58, qO_81, h2, e_in, c]
theorem g_body (hg : gOk ivG mu) {b : Int32} (h : 0 ≤ b ∧ b ≤ mu 81 51 - 1) : ∃ B, B < 50 ∧ b = nI B := by
  have g : (0 : Int) ≤ (mu 81 51).toInt ∧ (mu 81 51).toInt ≤ 50 := (hg 81 51).2
  have e1 : (mu 81 51 - 1).toInt = (mu 81 51).toInt - 1 := by
    rw [Int32.toInt_sub, show (1 : Int32).toInt = 1 from rfl]
    exact Int.bmod_eq_of_le (by omega) (by omega)
  have h1 := h.1
  have h2 := h.2
  rw [Int32.le_iff_toInt_le] at h1 h2
  rw [show (0 : Int32).toInt = 0 from rfl] at h1
  refine ⟨b.toInt.toNat, by omega, Int32.toInt_inj.mp ?_⟩
  rw [nI_toInt (by omega)]
  omega
theorem e_actM {b a x : Int32} (hg : gOk ivG mu) : Rr X (d + 9) MRm_act 0 [.ref 81, .int b, .int a, .int x] [] (Wd mu la ro et) = some (some (.int (acR (kdM mu b) a b x).1), Wd (trM mu (acR (kdM mu b) a b x).2) la ro et) := by
  have t0 : up2 mu 81 53 0 = trM mu [] := trG_0 (by decide)
  have eb := e_isBodyA (X := X) (d := d + 7) (mu := mu) (m := trM mu []) (la := la) (ro := ro) (et := et) (b := b) (trG_o (by decide) (by decide))
  unfold acR kdM
  by_cases c1 : 0 ≤ b ∧ b ≤ mu 81 51 - 1
  · obtain ⟨B, hB, rfl⟩ := g_body hg c1
    have cB : (nI B).toNatClampNeg = B := nI_clamp (by omega)
    rw [if_pos c1] at eb ⊢
    rw [cB]
    have g : (0 : Int) ≤ (mu 105 B).toInt ∧ (mu 105 B).toInt ≤ 7 := (hg 105 B).1
    have hn : ¬ mu 105 B = -1 := fun q => by rw [q] at g; exact absurd g.1 (by decide)
    rw [if_neg hn]
    by_cases c : a4 a = true
    · have c2 := of_decide_eq_true c
      rw [if_pos c]
      obtain ⟨n, hn4, rfl⟩ := a4_of c
      unfold mdS
      match n, hn4 with
      | 0, _ =>
        have e := e_rolls (X := X) (mu := mu) (d := d + 5) (la := la) (ro := ro) (et := et) (x := x) (T := []) hB rfl (by decide : 0 + 3 < 24)
        have z : nI 0 = 0 := rfl
        rw [z] at c2 ⊢
        simp only [r_MRm_act_0, r_MRm_act_1, r_MRm_act_2, r_MRm_act_5, r_MRm_act_6, r_MRm_act_7, r_MRm_act_10, r_MRm_act_13, r_MRm_act_14, r_MRm_act_15, r_MRm_act_16, r_MRm_act_19, r_MRm_act_22, r_MRm_act_23, r_MRm_act_24, r_MRm_act_25, r_MRm_act_28, r_MRm_act_29, r_MRm_act_30, r_MRm_act_31, r_MRm_act_34, r_MRm_act_37, r_MRm_act_38, r_MRm_act_39, r_MRm_act_42, r_MRm_act_43, r_MRm_act_44, r_MRm_act_45, r_MRm_act_48, r_MRm_act_51, r_MRm_act_52, r_MRm_act_53, r_MRm_act_56, r_MRm_act_57, r_MRm_act_58, r_MRm_act_59, r_MRm_act_62, r_MRm_act_65, r_MRm_act_66, r_MRm_act_67, r_MRm_act_68, r_MRm_act_71, sL_0, sL_1, sL_2, mk_i, mk_r, mk_f, mk_n, mk_u, mk_l, List.set_cons_succ, List.set_cons_zero, Nat.reduceAdd, ckS_0, ckS_1, ckS_2, ckS_3, ckS_4, Option.bind_some, Option.isSome_some, psh, if_true, if_false, i10, not_true_eq_false, not_false_eq_true, Bool.false_eq_true, and_self, and_true, true_and, eq_self, qI_81_0, qI_81_2, qI_81_3, qI_81_9, qI_81_10, qI_81_11, qI_81_12, qI_81_13, qI_81_18, qI_81_19, qI_81_20, qI_81_21, qI_81_29, qI_81_30, qI_81_31, qI_81_32, qI_81_33, qI_81_34, qI_81_35, qI_81_39, qI_81_40, qI_81_41, qI_81_42, qI_81_43, qI_81_44, qI_81_45, qI_81_46, qI_81_47, qI_81_51, qI_81_53, qR_81_1, qRd_81_1, qR_81_4, qRd_81_4, qR_81_5, qRd_81_5, qR_81_6, qRd_81_6, qR_81_7, qRd_81_7, qR_81_8, qRd_81_8, qR_81_14, qRd_81_14, qR_81_15, qRd_81_15, qR_81_16, qRd_81_16, qR_81_17, qRd_81_17, qR_81_22, qRd_81_22, qR_81_23, qRd_81_23, qR_81_24, qRd_81_24, qR_81_25, qRd_81_25, qR_81_26, qRd_81_26, qR_81_27, qRd_81_27, qR_81_28, qRd_81_28, qR_81_36, qRd_81_36, qR_81_37, qRd_81_37, qR_81_38, qRd_81_38, qR_81_48, qRd_81_48, qR_81_49, qRd_81_49, qR_81_50, qRd_81_50, qR_81_52, qRd_81_52, qR_81_54, qRd_81_54, qR_81_55, qRd_81_55, qR_81_56, qRd_81_56, qR_81_57, qRd_81_57, qR_81_58, qRd_81_58, qO_81, t0, eb, e_in, c2, e]
      | 1, _ =>
        have e := e_trades (X := X) (mu := mu) (d := d + 2) (la := la) (ro := ro) (et := et) (x := x) (T := []) hB rfl (by decide : 0 + 10 < 24)
        have z : nI 1 = 1 := rfl
        rw [z] at c2 ⊢
        simp only [r_MRm_act_0, r_MRm_act_1, r_MRm_act_2, r_MRm_act_5, r_MRm_act_6, r_MRm_act_7, r_MRm_act_10, r_MRm_act_13, r_MRm_act_14, r_MRm_act_15, r_MRm_act_16, r_MRm_act_19, r_MRm_act_22, r_MRm_act_23, r_MRm_act_24, r_MRm_act_25, r_MRm_act_28, r_MRm_act_29, r_MRm_act_30, r_MRm_act_31, r_MRm_act_34, r_MRm_act_37, r_MRm_act_38, r_MRm_act_39, r_MRm_act_42, r_MRm_act_43, r_MRm_act_44, r_MRm_act_45, r_MRm_act_48, r_MRm_act_51, r_MRm_act_52, r_MRm_act_53, r_MRm_act_56, r_MRm_act_57, r_MRm_act_58, r_MRm_act_59, r_MRm_act_62, r_MRm_act_65, r_MRm_act_66, r_MRm_act_67, r_MRm_act_68, r_MRm_act_71, sL_0, sL_1, sL_2, mk_i, mk_r, mk_f, mk_n, mk_u, mk_l, List.set_cons_succ, List.set_cons_zero, Nat.reduceAdd, ckS_0, ckS_1, ckS_2, ckS_3, ckS_4, Option.bind_some, Option.isSome_some, psh, if_true, if_false, i10, not_true_eq_false, not_false_eq_true, Bool.false_eq_true, and_self, and_true, true_and, eq_self, qI_81_0, qI_81_2, qI_81_3, qI_81_9, qI_81_10, qI_81_11, qI_81_12, qI_81_13, qI_81_18, qI_81_19, qI_81_20, qI_81_21, qI_81_29, qI_81_30, qI_81_31, qI_81_32, qI_81_33, qI_81_34, qI_81_35, qI_81_39, qI_81_40, qI_81_41, qI_81_42, qI_81_43, qI_81_44, qI_81_45, qI_81_46, qI_81_47, qI_81_51, qI_81_53, qR_81_1, qRd_81_1, qR_81_4, qRd_81_4, qR_81_5, qRd_81_5, qR_81_6, qRd_81_6, qR_81_7, qRd_81_7, qR_81_8, qRd_81_8, qR_81_14, qRd_81_14, qR_81_15, qRd_81_15, qR_81_16, qRd_81_16, qR_81_17, qRd_81_17, qR_81_22, qRd_81_22, qR_81_23, qRd_81_23, qR_81_24, qRd_81_24, qR_81_25, qRd_81_25, qR_81_26, qRd_81_26, qR_81_27, qRd_81_27, qR_81_28, qRd_81_28, qR_81_36, qRd_81_36, qR_81_37, qRd_81_37, qR_81_38, qRd_81_38, qR_81_48, qRd_81_48, qR_81_49, qRd_81_49, qR_81_50, qRd_81_50, qR_81_52, qRd_81_52, qR_81_54, qRd_81_54, qR_81_55, qRd_81_55, qR_81_56, qRd_81_56, qR_81_57, qRd_81_57, qR_81_58, qRd_81_58, qO_81, t0, eb, e_in, c2, e]
      | 2, _ =>
        have e := e_ends (X := X) (mu := mu) (d := d + 4) (la := la) (ro := ro) (et := et) (x := x) (T := []) hB rfl (by decide : 0 + 5 < 24)
        have z : nI 2 = 2 := rfl
        rw [z] at c2 ⊢
        simp only [r_MRm_act_0, r_MRm_act_1, r_MRm_act_2, r_MRm_act_5, r_MRm_act_6, r_MRm_act_7, r_MRm_act_10, r_MRm_act_13, r_MRm_act_14, r_MRm_act_15, r_MRm_act_16, r_MRm_act_19, r_MRm_act_22, r_MRm_act_23, r_MRm_act_24, r_MRm_act_25, r_MRm_act_28, r_MRm_act_29, r_MRm_act_30, r_MRm_act_31, r_MRm_act_34, r_MRm_act_37, r_MRm_act_38, r_MRm_act_39, r_MRm_act_42, r_MRm_act_43, r_MRm_act_44, r_MRm_act_45, r_MRm_act_48, r_MRm_act_51, r_MRm_act_52, r_MRm_act_53, r_MRm_act_56, r_MRm_act_57, r_MRm_act_58, r_MRm_act_59, r_MRm_act_62, r_MRm_act_65, r_MRm_act_66, r_MRm_act_67, r_MRm_act_68, r_MRm_act_71, sL_0, sL_1, sL_2, mk_i, mk_r, mk_f, mk_n, mk_u, mk_l, List.set_cons_succ, List.set_cons_zero, Nat.reduceAdd, ckS_0, ckS_1, ckS_2, ckS_3, ckS_4, Option.bind_some, Option.isSome_some, psh, if_true, if_false, i10, not_true_eq_false, not_false_eq_true, Bool.false_eq_true, and_self, and_true, true_and, eq_self, qI_81_0, qI_81_2, qI_81_3, qI_81_9, qI_81_10, qI_81_11, qI_81_12, qI_81_13, qI_81_18, qI_81_19, qI_81_20, qI_81_21, qI_81_29, qI_81_30, qI_81_31, qI_81_32, qI_81_33, qI_81_34, qI_81_35, qI_81_39, qI_81_40, qI_81_41, qI_81_42, qI_81_43, qI_81_44, qI_81_45, qI_81_46, qI_81_47, qI_81_51, qI_81_53, qR_81_1, qRd_81_1, qR_81_4, qRd_81_4, qR_81_5, qRd_81_5, qR_81_6, qRd_81_6, qR_81_7, qRd_81_7, qR_81_8, qRd_81_8, qR_81_14, qRd_81_14, qR_81_15, qRd_81_15, qR_81_16, qRd_81_16, qR_81_17, qRd_81_17, qR_81_22, qRd_81_22, qR_81_23, qRd_81_23, qR_81_24, qRd_81_24, qR_81_25, qRd_81_25, qR_81_26, qRd_81_26, qR_81_27, qRd_81_27, qR_81_28, qRd_81_28, qR_81_36, qRd_81_36, qR_81_37, qRd_81_37, qR_81_38, qRd_81_38, qR_81_48, qRd_81_48, qR_81_49, qRd_81_49, qR_81_50, qRd_81_50, qR_81_52, qRd_81_52, qR_81_54, qRd_81_54, qR_81_55, qRd_81_55, qR_81_56, qRd_81_56, qR_81_57, qRd_81_57, qR_81_58, qRd_81_58, qO_81, t0, eb, e_in, c2, show ((2 : Int32) = 0) = False by simp, show ((2 : Int32) = 1) = False by simp, e]
      | 3, _ =>
        have e := e_tells (X := X) (mu := mu) (d := d) (la := la) (ro := ro) (et := et) (x := x) (T := []) hB rfl (by decide : 0 + 20 < 24)
        have z : nI 3 = 3 := rfl
        rw [z] at c2 ⊢
        simp only [r_MRm_act_0, r_MRm_act_1, r_MRm_act_2, r_MRm_act_5, r_MRm_act_6, r_MRm_act_7, r_MRm_act_10, r_MRm_act_13, r_MRm_act_14, r_MRm_act_15, r_MRm_act_16, r_MRm_act_19, r_MRm_act_22, r_MRm_act_23, r_MRm_act_24, r_MRm_act_25, r_MRm_act_28, r_MRm_act_29, r_MRm_act_30, r_MRm_act_31, r_MRm_act_34, r_MRm_act_37, r_MRm_act_38, r_MRm_act_39, r_MRm_act_42, r_MRm_act_43, r_MRm_act_44, r_MRm_act_45, r_MRm_act_48, r_MRm_act_51, r_MRm_act_52, r_MRm_act_53, r_MRm_act_56, r_MRm_act_57, r_MRm_act_58, r_MRm_act_59, r_MRm_act_62, r_MRm_act_65, r_MRm_act_66, r_MRm_act_67, r_MRm_act_68, r_MRm_act_71, sL_0, sL_1, sL_2, mk_i, mk_r, mk_f, mk_n, mk_u, mk_l, List.set_cons_succ, List.set_cons_zero, Nat.reduceAdd, ckS_0, ckS_1, ckS_2, ckS_3, ckS_4, Option.bind_some, Option.isSome_some, psh, if_true, if_false, i10, not_true_eq_false, not_false_eq_true, Bool.false_eq_true, and_self, and_true, true_and, eq_self, qI_81_0, qI_81_2, qI_81_3, qI_81_9, qI_81_10, qI_81_11, qI_81_12, qI_81_13, qI_81_18, qI_81_19, qI_81_20, qI_81_21, qI_81_29, qI_81_30, qI_81_31, qI_81_32, qI_81_33, qI_81_34, qI_81_35, qI_81_39, qI_81_40, qI_81_41, qI_81_42, qI_81_43, qI_81_44, qI_81_45, qI_81_46, qI_81_47, qI_81_51, qI_81_53, qR_81_1, qRd_81_1, qR_81_4, qRd_81_4, qR_81_5, qRd_81_5, qR_81_6, qRd_81_6, qR_81_7, qRd_81_7, qR_81_8, qRd_81_8, qR_81_14, qRd_81_14, qR_81_15, qRd_81_15, qR_81_16, qRd_81_16, qR_81_17, qRd_81_17, qR_81_22, qRd_81_22, qR_81_23, qRd_81_23, qR_81_24, qRd_81_24, qR_81_25, qRd_81_25, qR_81_26, qRd_81_26, qR_81_27, qRd_81_27, qR_81_28, qRd_81_28, qR_81_36, qRd_81_36, qR_81_37, qRd_81_37, qR_81_38, qRd_81_38, qR_81_48, qRd_81_48, qR_81_49, qRd_81_49, qR_81_50, qRd_81_50, qR_81_52, qRd_81_52, qR_81_54, qRd_81_54, qR_81_55, qRd_81_55, qR_81_56, qRd_81_56, qR_81_57, qRd_81_57, qR_81_58, qRd_81_58, qO_81, t0, eb, e_in, c2, show ((3 : Int32) = 0) = False by simp, show ((3 : Int32) = 1) = False by simp, show ((3 : Int32) = 2) = False by simp, e]
    · have c2 : ¬ (0 ≤ a ∧ a ≤ 3) := fun q => c (decide_eq_true q)
      rw [if_neg c]
      simp only [r_MRm_act_0, r_MRm_act_1, r_MRm_act_2, r_MRm_act_5, r_MRm_act_6, r_MRm_act_7, r_MRm_act_10, r_MRm_act_13, r_MRm_act_14, r_MRm_act_15, r_MRm_act_16, r_MRm_act_19, r_MRm_act_22, r_MRm_act_23, r_MRm_act_24, r_MRm_act_25, r_MRm_act_28, r_MRm_act_29, r_MRm_act_30, r_MRm_act_31, r_MRm_act_34, r_MRm_act_37, r_MRm_act_38, r_MRm_act_39, r_MRm_act_42, r_MRm_act_43, r_MRm_act_44, r_MRm_act_45, r_MRm_act_48, r_MRm_act_51, r_MRm_act_52, r_MRm_act_53, r_MRm_act_56, r_MRm_act_57, r_MRm_act_58, r_MRm_act_59, r_MRm_act_62, r_MRm_act_65, r_MRm_act_66, r_MRm_act_67, r_MRm_act_68, r_MRm_act_71, sL_0, sL_1, sL_2, mk_i, mk_r, mk_f, mk_n, mk_u, mk_l, List.set_cons_succ, List.set_cons_zero, Nat.reduceAdd, ckS_0, ckS_1, ckS_2, ckS_3, ckS_4, Option.bind_some, Option.isSome_some, psh, if_true, if_false, i10, not_true_eq_false, not_false_eq_true, Bool.false_eq_true, and_self, and_true, true_and, eq_self, qI_81_0, qI_81_2, qI_81_3, qI_81_9, qI_81_10, qI_81_11, qI_81_12, qI_81_13, qI_81_18, qI_81_19, qI_81_20, qI_81_21, qI_81_29, qI_81_30, qI_81_31, qI_81_32, qI_81_33, qI_81_34, qI_81_35, qI_81_39, qI_81_40, qI_81_41, qI_81_42, qI_81_43, qI_81_44, qI_81_45, qI_81_46, qI_81_47, qI_81_51, qI_81_53, qR_81_1, qRd_81_1, qR_81_4, qRd_81_4, qR_81_5, qRd_81_5, qR_81_6, qRd_81_6, qR_81_7, qRd_81_7, qR_81_8, qRd_81_8, qR_81_14, qRd_81_14, qR_81_15, qRd_81_15, qR_81_16, qRd_81_16, qR_81_17, qRd_81_17, qR_81_22, qRd_81_22, qR_81_23, qRd_81_23, qR_81_24, qRd_81_24, qR_81_25, qRd_81_25, qR_81_26, qRd_81_26, qR_81_27, qRd_81_27, qR_81_28, qRd_81_28, qR_81_36, qRd_81_36, qR_81_37, qRd_81_37, qR_81_38, qRd_81_38, qR_81_48, qRd_81_48, qR_81_49, qRd_81_49, qR_81_50, qRd_81_50, qR_81_52, qRd_81_52, qR_81_54, qRd_81_54, qR_81_55, qRd_81_55, qR_81_56, qRd_81_56, qR_81_57, qRd_81_57, qR_81_58, qRd_81_58, qO_81, t0, eb, e_in, c2]
  · rw [if_neg c1] at eb ⊢
    rw [if_pos rfl]
    simp only [r_MRm_act_0, r_MRm_act_1, r_MRm_act_2, r_MRm_act_5, r_MRm_act_6, r_MRm_act_7, r_MRm_act_10, r_MRm_act_13, r_MRm_act_14, r_MRm_act_15, r_MRm_act_16, r_MRm_act_19, r_MRm_act_22, r_MRm_act_23, r_MRm_act_24, r_MRm_act_25, r_MRm_act_28, r_MRm_act_29, r_MRm_act_30, r_MRm_act_31, r_MRm_act_34, r_MRm_act_37, r_MRm_act_38, r_MRm_act_39, r_MRm_act_42, r_MRm_act_43, r_MRm_act_44, r_MRm_act_45, r_MRm_act_48, r_MRm_act_51, r_MRm_act_52, r_MRm_act_53, r_MRm_act_56, r_MRm_act_57, r_MRm_act_58, r_MRm_act_59, r_MRm_act_62, r_MRm_act_65, r_MRm_act_66, r_MRm_act_67, r_MRm_act_68, r_MRm_act_71, sL_0, sL_1, sL_2, mk_i, mk_r, mk_f, mk_n, mk_u, mk_l, List.set_cons_succ, List.set_cons_zero, Nat.reduceAdd, ckS_0, ckS_1, ckS_2, ckS_3, ckS_4, Option.bind_some, Option.isSome_some, psh, if_true, if_false, i10, not_true_eq_false, not_false_eq_true, Bool.false_eq_true, and_self, and_true, true_and, eq_self, qI_81_0, qI_81_2, qI_81_3, qI_81_9, qI_81_10, qI_81_11, qI_81_12, qI_81_13, qI_81_18, qI_81_19, qI_81_20, qI_81_21, qI_81_29, qI_81_30, qI_81_31, qI_81_32, qI_81_33, qI_81_34, qI_81_35, qI_81_39, qI_81_40, qI_81_41, qI_81_42, qI_81_43, qI_81_44, qI_81_45, qI_81_46, qI_81_47, qI_81_51, qI_81_53, qR_81_1, qRd_81_1, qR_81_4, qRd_81_4, qR_81_5, qRd_81_5, qR_81_6, qRd_81_6, qR_81_7, qRd_81_7, qR_81_8, qRd_81_8, qR_81_14, qRd_81_14, qR_81_15, qRd_81_15, qR_81_16, qRd_81_16, qR_81_17, qRd_81_17, qR_81_22, qRd_81_22, qR_81_23, qRd_81_23, qR_81_24, qRd_81_24, qR_81_25, qRd_81_25, qR_81_26, qRd_81_26, qR_81_27, qRd_81_27, qR_81_28, qRd_81_28, qR_81_36, qRd_81_36, qR_81_37, qRd_81_37, qR_81_38, qRd_81_38, qR_81_48, qRd_81_48, qR_81_49, qRd_81_49, qR_81_50, qRd_81_50, qR_81_52, qRd_81_52, qR_81_54, qRd_81_54, qR_81_55, qRd_81_55, qR_81_56, qRd_81_56, qR_81_57, qRd_81_57, qR_81_58, qRd_81_58, qO_81, t0, eb]
theorem frm_trG {cf kf cr : Nat} {T : List Int32} {w : WS} (h1 : wIn w cf (kf + 1) = true) (h2 : wIn w cr 0 = true) : frm w mu la ro (trG cf kf cr mu T) la ro := by
  refine ⟨fun a k q1 q2 => trG_o (fun q => ?_) (fun q => ?_), fun _ _ => rfl, fun _ _ _ => rfl, fun _ => rfl⟩
  · rw [q.1, q.2, h1] at q2; cases q2
  · rw [q, h2] at q1; cases q1
theorem gOk_trG {cf kf cr : Nat} {T : List Int32} (hg : gOk ivG mu) (h1 : ivL ivG cf (kf + 1) = (iLo, iHi)) (h2 : ivF ivG cf = true) (h3 : ivR ivG cr = true) (h4 : ivL ivG cr 0 = (iLo, iHi)) : gOk ivG (trG cf kf cr mu T) := by
  intro a k
  by_cases c1 : a = cf ∧ k = kf
  · obtain ⟨rfl, rfl⟩ := c1
    exact ⟨by rw [ivF_ok h2]; exact top_ok _, by rw [h1]; exact top_ok _⟩
  · by_cases c2 : a = cr
    · subst c2
      exact ⟨by rw [h4]; exact top_ok _, by rw [ivR_ok h3]; exact top_ok _⟩
    · rw [trG_o c1 c2]
      exact hg a k
theorem hand_acC {J : Jt} (hE : tEx X) (hJ : JS DJ J) : ctrT ivG J X et h15 := by
  intro d av mu la ro hd ha hg hr hj
  obtain ⟨b, a, x, rfl⟩ := ap4 ha
  obtain ⟨d, rfl⟩ : ∃ e, d = e + 24 := ⟨d - 24, by have : 30 ≤ d := hd; omega⟩
  have f : frm [(16, 4), (16, 5), (16, 6), (18, 0)] mu la ro (trC (up2 (up2 mu 16 5 (kdC mu b)) 16 4 b) (acR (kdC mu b) a b x).2) la ro := frm_t (frm_t (frm_up (k := 5) (.inr (by decide))) (frm_up (k := 4) (.inr (by decide)))) (frm_trG (by decide) (by decide))
  exact ⟨_, _, _, _, e_actC hE hg, gOk_trG (gOk_up (gOk_up hg (by rw [ivF_ok (by decide)]; exact top_ok _) (top_ok _)) (by rw [ivF_ok (by decide)]; exact top_ok _) (top_ok _)) rfl (by decide) (by decide) rfl, hr, hJ _ (by decide) _ _ _ _ _ _ f hj, f, resT _⟩
theorem hand_acM {J : Jt} (hJ : JS DJ J) : ctrT ivG J X et h16 := by
  intro d av mu la ro hd ha hg hr hj
  obtain ⟨b, a, x, rfl⟩ := ap4 ha
  obtain ⟨d, rfl⟩ : ∃ e, d = e + 9 := ⟨d - 9, by have : 10 ≤ d := hd; omega⟩
  have f : frm [(81, 54), (106, 0)] mu la ro (trM mu (acR (kdM mu b) a b x).2) la ro := frm_trG (by decide) (by decide)
  exact ⟨_, _, _, _, e_actM hg, gOk_trG hg rfl (by decide) (by decide) rfl, hr, hJ _ (by decide) _ _ _ _ _ _ f hj, f, resT _⟩
end
