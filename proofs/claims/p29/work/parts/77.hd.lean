-- ===== the class reads a stone
abbrev snA (a : Nat) : Prop := (qO a 7 = true ∧ (qI a 7 4 = true ∧ qI a 7 5 = true ∧ qI a 7 6 = true ∧ qI a 7 7 = true ∧ qI a 7 8 = true ∧ qI a 7 9 = true ∧ qI a 7 10 = true) ∧ 19 ≤ a) ∧ ((qR a 7 0).isSome = true ∧ qRd a 7 0 = a + 1 ∧ (qA (a + 1) 0).isSome = true ∧ qAd (a + 1) 0 = 12 ∧ (qL (a + 1)).isSome = true ∧ qLd (a + 1) = 12) ∧ ((qR a 7 1).isSome = true ∧ qRd a 7 1 = a + 2 ∧ (qA (a + 2) 0).isSome = true ∧ qAd (a + 2) 0 = 12 ∧ (qL (a + 2)).isSome = true ∧ qLd (a + 2) = 12) ∧ ((qR a 7 2).isSome = true ∧ qRd a 7 2 = a + 3 ∧ (qA (a + 3) 0).isSome = true ∧ qAd (a + 3) 0 = 12 ∧ (qL (a + 3)).isSome = true ∧ qLd (a + 3) = 12) ∧ ((qR a 7 3).isSome = true ∧ qRd a 7 3 = a + 4 ∧ (qA (a + 4) 0).isSome = true ∧ qAd (a + 4) 0 = 4 ∧ (qL (a + 4)).isSome = true ∧ qLd (a + 4) = 4)
theorem snA_of {S : Nat} (h : S < 6) : snA (19 + 5 * S) := by
  match S, h with
  | 0, _ => decide
  | 1, _ => decide
  | 2, _ => decide
  | 3, _ => decide
  | 4, _ => decide
  | 5, _ => decide
/-- where a reading stands, or failed -/
noncomputable def plS (s : SS) : Nat := match s.2 with
  | none => s.1
  | some f => f
/-- only the stone at a has changed -/
def ChA (a : Nat) (m m' : Mu) : Prop := ∀ c j, (c < a ∨ a + 4 < c ∨ (c = a ∧ (j < 4 ∨ 10 < j))) → m' c j = m c j
section
variable {X : Tok} {d : Nat} {mu m m' m2 mu' : Mu} {la la' : La} {ro ro' : Ro} {et : Nat → Option va_E} {a h z i k L : Nat} {s : SS} {l v : Int32}
theorem plS_n (h : noS s = true) : plS s = s.1 := by
  unfold plS
  rw [noS_n h]
theorem Ch_r : ChA a m m := fun _ _ _ => rfl
theorem Ch_t (h : ChA a m m') (g : ChA a m' m2) : ChA a m m2 := fun c j q => (g c j q).trans (h c j q)
theorem Ch_up {c : Nat} (h : a < c) (h2 : c ≤ a + 4) : ChA a m (up2 m c k v) := fun c' j q => up2_a (by omega)
theorem Ch_f (h : 4 ≤ k) (h2 : k ≤ 10) : ChA a m (up2 m a k v) := fun c' j q => by
  rw [up2_e, if_neg (by omega)]
theorem Ch_bt (ha : 19 ≤ a) (ha2 : a ≤ 44) (h : ChA a m m') : bt m' = bt m ∧ cb m' = cb m ∧ Tt m' = Tt m ∧ (RT m → RT m') := by
  have e1 : m' 81 2 = m 81 2 := h 81 2 (by omega)
  have e2 : ∀ j, m' 82 j = m 82 j := fun j => h 82 j (by omega)
  have e3 : m' 1 1 = m 1 1 := h 1 1 (by omega)
  have e4 : ∀ j, m' 2 j = m 2 j := fun j => h 2 j (by omega)
  refine ⟨bt_f e1 e2, funext fun h => by unfold cb; rw [e3, e4], Tt_f e1, fun ⟨T, t1, t2, t3, t4⟩ => ⟨T, t1, e3.trans t2, e1.trans t3, fun i hi => ?_⟩⟩
  rw [e4, e2]
  exact t4 i hi
theorem tp_up (hz : ¬ z = 1) : up2 (tp m h) z i v = tp (up2 m z i v) h := by
  refine funext fun c => funext fun j => ?_
  unfold tp
  simp only [up2_e]
  by_cases q : c = z ∧ j = i
  · rw [if_pos q, if_neg (by omega), if_pos q]
  · rw [if_neg q, if_neg q]
theorem tp_o {c j : Nat} (hc : ¬ c = 1) : tp m h c j = m c j := up2_a hc
theorem tpp {k : Nat} : up2 (tp m h) 1 2 (nI k) = tp m k := tp_s
theorem dg_dOk (hR : RT m) (hl : l = 0 ∨ l = 1) : dgC m l h = dOkM m l h := by
  have hl2 : 0 ≤ l.toInt ∧ l.toInt ≤ 9 := by rcases hl with rfl | rfl <;> decide
  have e1 : ((48 : Int32) + l).toInt = 48 + l.toInt := by
    rw [Int32.toInt_add, show (48 : Int32).toInt = 48 from rfl]
    exact Int.bmod_eq_of_le (by omega) (by omega)
  by_cases c : dOkM m l h = true
  · obtain ⟨n, n1, n2, n3, n4⟩ := dOk_n hl c
    have e := (cb_k hR (k := nI (48 + n)) (by rw [nI_toInt (by omega)]; omega)).mpr n3
    rw [c]
    refine decide_eq_true ?_
    rw [e]
    simp only [Int32.lt_iff_toInt_lt, Int32.le_iff_toInt_le, e1, nI_toInt (show 48 + n < 2 ^ 31 by omega), show (57 : Int32).toInt = 57 from rfl]
    omega
  · by_cases c2 : dgC m l h = true
    · obtain ⟨n, n1, n2, n3, n4⟩ := dg_n hl2 c2
      have e := (cb_k hR (k := nI (48 + n)) (by rw [nI_toInt (by omega)]; omega)).mp n3
      have e9 : nI (48 + n) - 48 = nI n := by rw [← n3]; exact n4
      exact absurd (decide_eq_true (by
        rw [e, e9]
        simp only [Int32.le_iff_toInt_le, nI_toInt (show n < 2 ^ 31 by omega), show (9 : Int32).toInt = 9 from rfl]
        omega)) c
    · rw [Bool.eq_false_iff.mpr c, Bool.eq_false_iff.mpr c2]
theorem dg_val (hR : RT m) (hl : l = 0 ∨ l = 1) (c : dOkM m l h = true) : cb m h = bt m h := by
  obtain ⟨n, n1, n2, n3, n4⟩ := dOk_n hl c
  rw [n3]
  exact (cb_k hR (k := nI (48 + n)) (by rw [nI_toInt (by omega)]; omega)).mpr n3
theorem dg_none : dgS m l (h, none) = if dOkM m l h = true then (bt m h - 48, (h + 1, none)) else (0, (h, some h)) := rfl
theorem dg_f (q : ¬ noS s = true) : dgS m l s = (0, s) := by
  unfold dgS
  rw [if_neg q]
theorem ng9 : ∀ n, n < 10 → (-1 : Int32) * nI n = -nI n := by decide +kernel
theorem hr_n (c : Int32) : hrS m c (h, none) = decide (bt m h = c) := by
  unfold hrS
  show (true && _) = _
  rw [Bool.true_and]
set_option maxHeartbeats 2000000 in
theorem c_signed (hR : RT m) (hz : (qA z 0).isSome = true ∧ qAd z 0 = 12 ∧ (qL z).isSome = true ∧ qLd z = 12) (hz1 : 19 ≤ z) (hi : i < 12) (hh : h ≤ Tt m) : ∃ m', Rr X (d + 2) MSt_readSigned 0 [.ref 1, .ref z, .int (nI i), mkU, mkU] [] (Wd (tp m h) la ro et) = some (some (.int (if noS (sgS m (h, none)).2 = true then 1 else 0)), Wd (tp m' (plS (sgS m (h, none)).2)) la ro et) ∧ (noS (sgS m (h, none)).2 = true → m' = up2 m z i (sgS m (h, none)).1) ∧ (¬ noS (sgS m (h, none)).2 = true → m' = m) := by
  obtain ⟨f1, f2, f3, f4⟩ := hz
  have hT := RT_M hR
  have hT2 := Tt_le hT
  have n0 : ¬ nI i < 0 := nI_pos (by omega)
  have n1 : nI i < Int32.ofNat 12 := nI_lt (a := i) (b := 12) hi (by omega)
  have cI : (nI i).toNatClampNeg = i := nI_clamp (by omega)
  have iI : ¬ 12 ≤ i := by omega
  have k45 := cb_k (h := h) hR (k := 45) (by decide)
  have k43 := cb_k (h := h) hR (k := 43) (by decide)
  have s45 := fun d => e_skip (X := X) (d := d) (la := la) (ro := ro) (et := et) (x := 45) (RT_C hR) (show h ≤ 120 by omega)
  have s43 := fun d => e_skip (X := X) (d := d) (la := la) (ro := ro) (et := et) (x := 43) (RT_C hR) (show h ≤ 120 by omega)
  have h45 : hrS m 45 (h, none) = decide (bt m h = 45) := hr_n 45
  have h43 : hrS m 43 (h, none) = decide (bt m h = 43) := hr_n 43
  have zz : ¬ (-1 : Int32) < 0 → False := fun q => q (by decide)
  -- behind the sign
  have tail : ∀ (mi : Int32), (mi = 0 ∨ mi = 1) → h < Tt m → ∃ m', Rr X (d + 2) MSt_readSigned 22 [.ref 1, .ref z, .int (nI i), .int mi, mkU] [] (Wd (tp m (h + 1)) la ro et) = some (some (.int (if noS (dgS m 0 (h + 1, none)).2 = true then 1 else 0)), Wd (tp m' (plS (dgS m 0 (h + 1, none)).2)) la ro et) ∧ (noS (dgS m 0 (h + 1, none)).2 = true → m' = up2 m z i ((if mi = 1 then -1 else 1) * (dgS m 0 (h + 1, none)).1)) ∧ (¬ noS (dgS m 0 (h + 1, none)).2 = true → m' = m) := fun mi hmi hlt => by
    have ed := e_digit (X := X) (d := d) (la := la) (ro := ro) (et := et) (l := 0) (h := h + 1) (RT_C hR) (by omega)
    rw [dg_dOk hR (.inl rfl)] at ed
    rw [dg_none]
    by_cases c : dOkM m 0 (h + 1) = true
    · rw [if_pos c, if_pos c, dg_val hR (.inl rfl) c] at ed
      obtain ⟨n, n2, n3, n4, n5⟩ := dOk_n (.inl rfl) c
      rw [n5] at ed
      rw [if_pos c]
      show ∃ m', _ = some (some (Value.int 1), Wd (tp m' (h + 1 + 1)) la ro et) ∧ (_ → m' = up2 m z i ((if mi = 1 then -1 else 1) * (bt m (h + 1) - 48))) ∧ _
      rw [n5]
      have nn : ¬ nI n < 0 := nI_pos (by omega)
      rcases hmi with rfl | rfl
      · refine ⟨up2 m z i (nI n), ?_, fun _ => ?_, fun q => absurd rfl q⟩
        · simp only [r_MSt_readSigned_22, r_MSt_readSigned_23, r_MSt_readSigned_24, r_MSt_readSigned_27, r_MSt_readSigned_29, r_MSt_readSigned_31, r_MSt_readSigned_34, r_MSt_readSigned_35, r_MSt_readSigned_38, r_MSt_readSigned_39, r_MSt_readSigned_39n, r_MSt_readSigned_40, r_MSt_readSigned_41, r_MSt_readSigned_44, r_MSt_readSigned_45, r_MSt_readSigned_46, r_MSt_readSigned_46n, r_MSt_readSigned_47, r_MSt_readSigned_48, r_MSt_readSigned_49, r_MSt_readSigned_52, r_MSt_readSigned_54, r_MSt_readSigned_55, r_MSt_readSigned_58, r_MSt_readSigned_60, r_MSt_readSigned_61, r_MSt_readSigned_62, sL_0, sL_1, sL_2, mk_i, mk_r, mk_f, mk_n, mk_u, mk_l, List.set_cons_succ, List.set_cons_zero, Nat.reduceAdd, ckS_0, ckS_1, ckS_2, ckS_3, ckS_4, Option.bind_some, Option.isSome_some, psh, if_true, if_false, i10, not_true_eq_false, not_false_eq_true, Bool.false_eq_true, and_self, and_true, true_and, eq_self, qI_1_1, qI_1_2, qR_1_0, qRd_1_0, qO_1, ed, nn, n0, f1, f2, f3, f4, n1, cI, iI, or_self, tp_up (show ¬ z = 1 by omega), or_true]
        · rw [if_neg (by decide), Int32.one_mul]
      · refine ⟨up2 m z i (-nI n), ?_, fun _ => ?_, fun q => absurd rfl q⟩
        · simp only [r_MSt_readSigned_22, r_MSt_readSigned_23, r_MSt_readSigned_24, r_MSt_readSigned_27, r_MSt_readSigned_29, r_MSt_readSigned_31, r_MSt_readSigned_34, r_MSt_readSigned_35, r_MSt_readSigned_38, r_MSt_readSigned_39, r_MSt_readSigned_39n, r_MSt_readSigned_40, r_MSt_readSigned_41, r_MSt_readSigned_44, r_MSt_readSigned_45, r_MSt_readSigned_46, r_MSt_readSigned_46n, r_MSt_readSigned_47, r_MSt_readSigned_48, r_MSt_readSigned_49, r_MSt_readSigned_52, r_MSt_readSigned_54, r_MSt_readSigned_55, r_MSt_readSigned_58, r_MSt_readSigned_60, r_MSt_readSigned_61, r_MSt_readSigned_62, sL_0, sL_1, sL_2, mk_i, mk_r, mk_f, mk_n, mk_u, mk_l, List.set_cons_succ, List.set_cons_zero, Nat.reduceAdd, ckS_0, ckS_1, ckS_2, ckS_3, ckS_4, Option.bind_some, Option.isSome_some, psh, if_true, if_false, i10, not_true_eq_false, not_false_eq_true, Bool.false_eq_true, and_self, and_true, true_and, eq_self, qI_1_1, qI_1_2, qR_1_0, qRd_1_0, qO_1, ed, nn, n0, f1, f2, f3, f4, n1, cI, iI, or_self, tp_up (show ¬ z = 1 by omega), or_true]
        · rw [if_pos rfl, ng9 n (by omega)]
    · rw [if_neg c, if_neg c] at ed
      rw [if_neg c]
      have zn : (-1 : Int32) < 0 := by decide
      refine ⟨m, ?_, fun q => absurd q (by show ¬ noS (flS (h + 1, none)) = true; rw [flS_no]; decide), fun _ => rfl⟩
      show _ = some (some (Value.int 0), Wd (tp m (h + 1)) la ro et)
      simp only [r_MSt_readSigned_22, r_MSt_readSigned_23, r_MSt_readSigned_24, r_MSt_readSigned_27, r_MSt_readSigned_29, r_MSt_readSigned_31, r_MSt_readSigned_34, r_MSt_readSigned_35, r_MSt_readSigned_38, r_MSt_readSigned_39, r_MSt_readSigned_39n, r_MSt_readSigned_40, r_MSt_readSigned_41, r_MSt_readSigned_44, r_MSt_readSigned_45, sL_0, sL_1, sL_2, mk_i, mk_r, mk_f, mk_n, mk_u, mk_l, List.set_cons_succ, List.set_cons_zero, Nat.reduceAdd, ckS_0, ckS_1, ckS_2, ckS_3, ckS_4, Option.bind_some, Option.isSome_some, psh, if_true, if_false, i10, not_true_eq_false, not_false_eq_true, Bool.false_eq_true, and_self, and_true, true_and, eq_self, qI_1_1, qI_1_2, qR_1_0, qRd_1_0, qO_1, ed, zn, true_or]
  by_cases c5 : bt m h = 45
  · have c3 : ¬ bt m h = 43 := by rw [c5]; decide
    have hlt := bt_lt (mu := m) (k := h) (by rw [c5]; decide)
    have e5 := k45.mpr c5
    obtain ⟨m', t1, t2, t3⟩ := tail 1 (.inr rfl) hlt
    have es : sgS m (h, none) = (-1 * (dgS m 0 (h + 1, none)).1, (dgS m 0 (h + 1, none)).2) := by
      have e : pmS m (h, none) = (h + 1, none) := by
        unfold pmS
        rw [h43, decide_eq_false c3, if_neg (by decide), h45, decide_eq_true c5, if_pos rfl]
        rfl
      unfold sgS
      rw [e, h45, decide_eq_true c5, if_pos rfl]
    rw [es]
    refine ⟨m', ?_, t2, t3⟩
    rw [← t1]
    simp only [r_MSt_readSigned_0, r_MSt_readSigned_1, r_MSt_readSigned_3, r_MSt_readSigned_6, r_MSt_readSigned_7, r_MSt_readSigned_8, r_MSt_readSigned_11, r_MSt_readSigned_12, r_MSt_readSigned_14, r_MSt_readSigned_17, r_MSt_readSigned_20, r_MSt_readSigned_21, sL_0, sL_1, sL_2, mk_i, mk_r, mk_f, mk_n, mk_u, mk_l, List.set_cons_succ, List.set_cons_zero, Nat.reduceAdd, ckS_0, ckS_1, ckS_2, ckS_3, ckS_4, Option.bind_some, Option.isSome_some, psh, if_true, if_false, i10, not_true_eq_false, not_false_eq_true, Bool.false_eq_true, and_self, and_true, true_and, eq_self, qI_1_1, qI_1_2, qR_1_0, qRd_1_0, qO_1, s45, e5]
  · have e5 : ¬ cb m h = 45 := fun q => c5 (k45.mp q)
    by_cases c3 : bt m h = 43
    · have hlt := bt_lt (mu := m) (k := h) (by rw [c3]; decide)
      have e3 := k43.mpr c3
      obtain ⟨m', t1, t2, t3⟩ := tail 0 (.inl rfl) hlt
      have es : sgS m (h, none) = (1 * (dgS m 0 (h + 1, none)).1, (dgS m 0 (h + 1, none)).2) := by
        have e : pmS m (h, none) = (h + 1, none) := by
          unfold pmS
          rw [h43, decide_eq_true c3, if_pos rfl]
          rfl
        unfold sgS
        rw [e, h45, decide_eq_false c5, if_neg (by decide)]
      rw [es]
      refine ⟨m', ?_, t2, t3⟩
      rw [← t1]
      have z435 : ((43 : Int32) = 45) = False := eq_false (by decide)
      simp only [r_MSt_readSigned_0, r_MSt_readSigned_1, r_MSt_readSigned_3, r_MSt_readSigned_6, r_MSt_readSigned_7, r_MSt_readSigned_8, r_MSt_readSigned_11, r_MSt_readSigned_12, r_MSt_readSigned_14, r_MSt_readSigned_17, r_MSt_readSigned_20, r_MSt_readSigned_21, sL_0, sL_1, sL_2, mk_i, mk_r, mk_f, mk_n, mk_u, mk_l, List.set_cons_succ, List.set_cons_zero, Nat.reduceAdd, ckS_0, ckS_1, ckS_2, ckS_3, ckS_4, Option.bind_some, Option.isSome_some, psh, if_true, if_false, i10, not_true_eq_false, not_false_eq_true, Bool.false_eq_true, and_self, and_true, true_and, eq_self, qI_1_1, qI_1_2, qR_1_0, qRd_1_0, qO_1, s45, e5, s43, e3, z435]
    · have e3 : ¬ cb m h = 43 := fun q => c3 (k43.mp q)
      have es : (sgS m (h, none)).2 = (h, some h) := by
        have e : pmS m (h, none) = (h, some h) := by
          unfold pmS
          rw [h43, decide_eq_false c3, if_neg (by decide), h45, decide_eq_false c5, if_neg (by decide)]
          rfl
        unfold sgS
        rw [e, dg_f (by show ¬ false = true; decide)]
      rw [es]
      refine ⟨m, ?_, fun q => absurd q (by show ¬ false = true; decide), fun _ => rfl⟩
      show _ = some (some (Value.int 0), Wd (tp m h) la ro et)
      simp only [r_MSt_readSigned_0, r_MSt_readSigned_1, r_MSt_readSigned_3, r_MSt_readSigned_6, r_MSt_readSigned_7, r_MSt_readSigned_8, r_MSt_readSigned_11, r_MSt_readSigned_12, r_MSt_readSigned_14, r_MSt_readSigned_17, r_MSt_readSigned_20, r_MSt_readSigned_21, sL_0, sL_1, sL_2, mk_i, mk_r, mk_f, mk_n, mk_u, mk_l, List.set_cons_succ, List.set_cons_zero, Nat.reduceAdd, ckS_0, ckS_1, ckS_2, ckS_3, ckS_4, Option.bind_some, Option.isSome_some, psh, if_true, if_false, i10, not_true_eq_false, not_false_eq_true, Bool.false_eq_true, and_self, and_true, true_and, eq_self, qI_1_1, qI_1_2, qR_1_0, qRd_1_0, qO_1, s45, e5, s43, e3, true_or]
/-- one lump more on the class's side -/
noncomputable def lmC0 (m : Mu) (a L : Nat) (x : Lp) : Mu := up2 (up2 (up2 m (a + 1) L x.1) (a + 2) L x.2.1) (a + 3) L x.2.2
theorem sg_f (h : ¬ noS s = true) : (sgS m s).2 = s := by
  have e : pmS m s = s := by
    have h1 : ∀ c, hrS m c s = false := fun c => by unfold hrS; rw [Bool.eq_false_iff.mpr h, Bool.false_and]
    unfold pmS
    rw [h1, h1, if_neg (by decide), if_neg (by decide), flS_f h]
  unfold sgS
  rw [e]
  unfold dgS
  rw [if_neg h]
theorem ss_n (h : noS s = true) : s = (s.1, none) := Prod.ext rfl (noS_n h)
set_option maxHeartbeats 2000000 in
theorem c_lump (hR : RT m) (qa : snA a) (ha : a ≤ 44) (hL : L < 12) (hh : h ≤ Tt m) : ∃ m', Rr X (d + 3) MSt_readLump 0 [.ref a, .ref 1, .int (nI L), mkU] [] (Wd (tp m h) la ro et) = some (some (.int (if noS (lpS m (h, none)).2 = true then 1 else 0)), Wd (tp m' (plS (lpS m (h, none)).2)) la ro et) ∧ (noS (lpS m (h, none)).2 = true → m' = lmC0 m a L (lpS m (h, none)).1) ∧ ChA a m m' := by
  obtain ⟨⟨o1, o2, o3⟩, ⟨g1, g2, g3, g4, g5, g6⟩, ⟨i1, i2, i3, i4, i5, i6⟩, ⟨j1, j2, j3, j4, j5, j6⟩, _⟩ := qa
  have hT := RT_M hR
  have hT2 := Tt_le hT
  have n0 : ¬ nI L < 0 := nI_pos (by omega)
  have n1 : nI L < Int32.ofNat 12 := nI_lt (a := L) (b := 12) hL (by omega)
  have cL : (nI L).toNatClampNeg = L := nI_clamp (by omega)
  have iL : ¬ 12 ≤ L := by omega
  have ed := e_digit (X := X) (d := d + 1) (la := la) (ro := ro) (et := et) (l := 1) (h := h) (RT_C hR) (by omega)
  rw [dg_dOk hR (.inr rfl)] at ed
  have zn : (-1 : Int32) < 0 := by decide
  unfold lpS
  by_cases c : dOkM m 1 h = true
  · rw [if_pos c, if_pos c, dg_val hR (.inr rfl) c] at ed
    obtain ⟨n, n2, n3, n4, n5⟩ := dOk_n (.inr rfl) c
    have nn : ¬ nI n < 0 := nI_pos (by omega)
    have hlt := dOk_lt (.inr rfl) c
    have e1 : dgS m 1 (h, none) = (nI n, (h + 1, none)) := by
      rw [dg_none, if_pos c, n5]
    rw [n5] at ed
    rw [e1]
    dsimp only
    have C1 : ChA a m (up2 m (a + 1) L (nI n)) := Ch_up (by omega) (by omega)
    obtain ⟨b1, b2, b3, b4⟩ := Ch_bt o3 ha C1
    obtain ⟨mx, x1, x2, x3⟩ := c_signed (X := X) (d := d) (la := la) (ro := ro) (et := et) (z := a + 2) (i := L) (h := h + 1) (b4 hR) ⟨i3, i4, i5, i6⟩ (by omega) hL (by rw [b3]; omega)
    rw [sgS_c b1] at x1 x2 x3
    by_cases cx : noS (sgS m (h + 1, none)).2 = true
    · have ex := x2 cx
      subst ex
      rw [if_pos cx, plS_n cx] at x1
      have C2 : ChA a m (up2 (up2 m (a + 1) L (nI n)) (a + 2) L (sgS m (h + 1, none)).1) := Ch_t C1 (Ch_up (by omega) (by omega))
      obtain ⟨p1, p2, p3, p4⟩ := Ch_bt o3 ha C2
      have fx : fw m (h + 1, none) (sgS m (h + 1, none)).2 := fw_sg (fw_r (show h + 1 ≤ Tt m by omega) (fun k hk => by cases hk))
      obtain ⟨my, y1, y2, y3⟩ := c_signed (X := X) (d := d) (la := la) (ro := ro) (et := et) (z := a + 3) (i := L) (h := (sgS m (h + 1, none)).2.1) (p4 hR) ⟨j3, j4, j5, j6⟩ (by omega) hL (by rw [p3]; exact fx.2.1)
      rw [sgS_c p1, ← ss_n cx] at y1 y2 y3
      by_cases cy : noS (sgS m (sgS m (h + 1, none)).2).2 = true
      · have ey := y2 cy
        subst ey
        rw [if_pos cy] at y1 ⊢
        refine ⟨_, ?_, fun _ => rfl, Ch_t C2 (Ch_up (by omega) (by omega))⟩
        simp only [r_MSt_readLump_0, r_MSt_readLump_0n, r_MSt_readLump_1, r_MSt_readLump_2, r_MSt_readLump_5, r_MSt_readLump_6, r_MSt_readLump_7, r_MSt_readLump_10, r_MSt_readLump_11, r_MSt_readLump_14, r_MSt_readLump_15, r_MSt_readLump_16, r_MSt_readLump_19, r_MSt_readLump_20, r_MSt_readLump_23, r_MSt_readLump_24, r_MSt_readLump_25, r_MSt_readLump_26, r_MSt_readLump_29, r_MSt_readLump_30, r_MSt_readLump_31, r_MSt_readLump_32, r_MSt_readLump_32n, r_MSt_readLump_33, r_MSt_readLump_34, r_MSt_readLump_37, r_MSt_readLump_38, r_MSt_readLump_41, r_MSt_readLump_44, r_MSt_readLump_44n, r_MSt_readLump_45, r_MSt_readLump_46, r_MSt_readLump_49, r_MSt_readLump_50, r_MSt_readLump_53, r_MSt_readLump_56, r_MSt_readLump_57, r_MSt_readLump_60, r_MSt_readLump_61, sL_0, sL_1, sL_2, mk_i, mk_r, mk_f, mk_n, mk_u, mk_l, List.set_cons_succ, List.set_cons_zero, Nat.reduceAdd, ckS_0, ckS_1, ckS_2, ckS_3, ckS_4, Option.bind_some, Option.isSome_some, psh, if_true, if_false, i10, not_true_eq_false, not_false_eq_true, Bool.false_eq_true, and_self, and_true, true_and, eq_self, qI_1_1, qI_1_2, qR_1_0, qRd_1_0, qO_1, ed, nn, n0, g1, g2, g3, g4, g5, g6, n1, cL, iL, or_self, tp_up (show ¬ a + 1 = 1 by omega), i1, i2, x1, j1, j2, y1, or_true]
        rfl
      · have ey := y3 cy
        subst ey
        rw [if_neg cy] at y1 ⊢
        refine ⟨_, ?_, fun q => absurd q cy, C2⟩
        simp only [r_MSt_readLump_0, r_MSt_readLump_0n, r_MSt_readLump_1, r_MSt_readLump_2, r_MSt_readLump_5, r_MSt_readLump_6, r_MSt_readLump_7, r_MSt_readLump_10, r_MSt_readLump_11, r_MSt_readLump_14, r_MSt_readLump_15, r_MSt_readLump_16, r_MSt_readLump_19, r_MSt_readLump_20, r_MSt_readLump_23, r_MSt_readLump_24, r_MSt_readLump_25, r_MSt_readLump_26, r_MSt_readLump_29, r_MSt_readLump_30, r_MSt_readLump_31, r_MSt_readLump_32, r_MSt_readLump_32n, r_MSt_readLump_33, r_MSt_readLump_34, r_MSt_readLump_37, r_MSt_readLump_38, r_MSt_readLump_41, r_MSt_readLump_44, r_MSt_readLump_44n, r_MSt_readLump_45, r_MSt_readLump_46, r_MSt_readLump_49, r_MSt_readLump_50, r_MSt_readLump_53, r_MSt_readLump_56, r_MSt_readLump_57, r_MSt_readLump_60, r_MSt_readLump_61, sL_0, sL_1, sL_2, mk_i, mk_r, mk_f, mk_n, mk_u, mk_l, List.set_cons_succ, List.set_cons_zero, Nat.reduceAdd, ckS_0, ckS_1, ckS_2, ckS_3, ckS_4, Option.bind_some, Option.isSome_some, psh, if_true, if_false, i10, not_true_eq_false, not_false_eq_true, Bool.false_eq_true, and_self, and_true, true_and, eq_self, qI_1_1, qI_1_2, qR_1_0, qRd_1_0, qO_1, ed, nn, n0, g1, g2, g3, g4, g5, g6, n1, cL, iL, or_self, tp_up (show ¬ a + 1 = 1 by omega), i1, i2, x1, j1, j2, y1, true_or]
    · have ex := x3 cx
      subst ex
      rw [if_neg cx] at x1
      have ef : (sgS m (sgS m (h + 1, none)).2).2 = (sgS m (h + 1, none)).2 := sg_f cx
      rw [ef, if_neg cx]
      refine ⟨_, ?_, fun q => absurd q cx, C1⟩
      simp only [r_MSt_readLump_0, r_MSt_readLump_0n, r_MSt_readLump_1, r_MSt_readLump_2, r_MSt_readLump_5, r_MSt_readLump_6, r_MSt_readLump_7, r_MSt_readLump_10, r_MSt_readLump_11, r_MSt_readLump_14, r_MSt_readLump_15, r_MSt_readLump_16, r_MSt_readLump_19, r_MSt_readLump_20, r_MSt_readLump_23, r_MSt_readLump_24, r_MSt_readLump_25, r_MSt_readLump_26, r_MSt_readLump_29, r_MSt_readLump_30, r_MSt_readLump_31, r_MSt_readLump_32, r_MSt_readLump_32n, r_MSt_readLump_33, r_MSt_readLump_34, r_MSt_readLump_37, r_MSt_readLump_38, r_MSt_readLump_41, r_MSt_readLump_44, r_MSt_readLump_44n, r_MSt_readLump_45, r_MSt_readLump_46, r_MSt_readLump_49, r_MSt_readLump_50, r_MSt_readLump_53, r_MSt_readLump_56, r_MSt_readLump_57, r_MSt_readLump_60, r_MSt_readLump_61, sL_0, sL_1, sL_2, mk_i, mk_r, mk_f, mk_n, mk_u, mk_l, List.set_cons_succ, List.set_cons_zero, Nat.reduceAdd, ckS_0, ckS_1, ckS_2, ckS_3, ckS_4, Option.bind_some, Option.isSome_some, psh, if_true, if_false, i10, not_true_eq_false, not_false_eq_true, Bool.false_eq_true, and_self, and_true, true_and, eq_self, qI_1_1, qI_1_2, qR_1_0, qRd_1_0, qO_1, ed, nn, n0, g1, g2, g3, g4, g5, g6, n1, cL, iL, or_self, tp_up (show ¬ a + 1 = 1 by omega), i1, i2, x1, true_or]
  · rw [if_neg c, if_neg c] at ed
    have e1 : (dgS m 1 (h, none)).2 = (h, some h) := by
      rw [dg_none, if_neg c]
    have nf : ¬ noS ((h, some h) : SS) = true := by show ¬ false = true; decide
    have e2 : (sgS m (sgS m (dgS m 1 (h, none)).2).2).2 = (h, some h) := by rw [e1, sg_f nf, sg_f nf]
    dsimp only
    rw [e2, if_neg nf]
    refine ⟨m, ?_, fun q => absurd q nf, Ch_r⟩
    show _ = some (some (Value.int 0), Wd (tp m h) la ro et)
    simp only [r_MSt_readLump_0, r_MSt_readLump_0n, r_MSt_readLump_1, r_MSt_readLump_2, r_MSt_readLump_5, r_MSt_readLump_6, r_MSt_readLump_7, r_MSt_readLump_10, r_MSt_readLump_11, r_MSt_readLump_14, r_MSt_readLump_15, r_MSt_readLump_16, r_MSt_readLump_19, r_MSt_readLump_20, r_MSt_readLump_23, r_MSt_readLump_24, sL_0, sL_1, sL_2, mk_i, mk_r, mk_f, mk_n, mk_u, mk_l, List.set_cons_succ, List.set_cons_zero, Nat.reduceAdd, ckS_0, ckS_1, ckS_2, ckS_3, ckS_4, Option.bind_some, Option.isSome_some, psh, if_true, if_false, i10, not_true_eq_false, not_false_eq_true, Bool.false_eq_true, and_self, and_true, true_and, eq_self, qI_1_1, qI_1_2, qR_1_0, qRd_1_0, qO_1, ed, zn, true_or]
set_option maxHeartbeats 2000000 in
theorem c_rate {most : Int32} (hR : RT m) (qa : snA a) (hk : k < 4) (hm : most = if k < 2 then 999 else 100) (hh : h ≤ Tt m) : ∃ m', Rr X (d + 3) MSt_readRate 0 [.ref a, .ref 1, .int (nI k), mkU, mkU] [] (Wd (tp m h) la ro et) = some (some (.int (if noS (nmS m most (h, none)).2 = true then 1 else 0)), Wd (tp m' (plS (nmS m most (h, none)).2)) la ro et) ∧ (noS (nmS m most (h, none)).2 = true → m' = up2 m (a + 4) k (nmS m most (h, none)).1) ∧ (¬ noS (nmS m most (h, none)).2 = true → m' = m) := by
  obtain ⟨⟨o1, o2, o3⟩, _, _, _, ⟨g1, g2, g3, g4, g5, g6⟩⟩ := qa
  have hT := RT_M hR
  have hT2 := Tt_le hT
  have n0 : ¬ nI k < 0 := nI_pos (by omega)
  have n1 : nI k < Int32.ofNat 4 := nI_lt (a := k) (b := 4) hk (by omega)
  have cK : (nI k).toNatClampNeg = k := nI_clamp (by omega)
  have iK : ¬ 4 ≤ k := by omega
  have eM : Rr X (d + 2) MSt_mostRate 0 [.int (nI k)] [] (Wd (tp m (nbC m 3 h).1) la ro et) = some (some (.int most), Wd (tp m (nbC m 3 h).1) la ro et) := by
    rw [hm]
    by_cases c : k < 2
    · have z : ¬ (2 : Int32) ≤ nI k := nI_ge (a := k) (b := 2) c (by omega)
      rw [if_pos c]
      simp only [r_MSt_mostRate_0, r_MSt_mostRate_1, r_MSt_mostRate_2, r_MSt_mostRate_5, r_MSt_mostRate_8, r_MSt_mostRate_11, r_MSt_mostRate_13, sL_0, sL_1, sL_2, mk_i, mk_r, mk_f, mk_n, mk_u, mk_l, List.set_cons_succ, List.set_cons_zero, Nat.reduceAdd, ckS_0, ckS_1, ckS_2, ckS_3, ckS_4, Option.bind_some, Option.isSome_some, psh, if_true, if_false, i10, not_true_eq_false, not_false_eq_true, Bool.false_eq_true, and_self, and_true, true_and, eq_self, z]
    · have z : (2 : Int32) ≤ nI k := nI_le (a := 2) (b := k) (by omega) (by omega)
      rw [if_neg c]
      simp only [r_MSt_mostRate_0, r_MSt_mostRate_1, r_MSt_mostRate_2, r_MSt_mostRate_5, r_MSt_mostRate_8, r_MSt_mostRate_11, r_MSt_mostRate_13, sL_0, sL_1, sL_2, mk_i, mk_r, mk_f, mk_n, mk_u, mk_l, List.set_cons_succ, List.set_cons_zero, Nat.reduceAdd, ckS_0, ckS_1, ckS_2, ckS_3, ckS_4, Option.bind_some, Option.isSome_some, psh, if_true, if_false, i10, not_true_eq_false, not_false_eq_true, Bool.false_eq_true, and_self, and_true, true_and, eq_self, z]
  have en : Rr X (d + 2) MTa_number 0 [.ref 1, .int 3, mkU, mkU, mkU, mkU] [] (Wd (tp m h) la ro et) = _ := e_number (X := X) (d := d) (la := la) (ro := ro) (et := et) (M := 3) (RT_C hR) (by decide) (by decide) (h := h) (by rw [RT_T hR]; exact hh)
  unfold nmS
  rw [if_pos (show noS ((h, none) : SS) = true from rfl)]
  dsimp only
  by_cases c : dgC m 0 h = true
  · have c' : isD (bt m h) = true := by rw [← dg_eq hR]; exact c
    obtain ⟨n, n2, n3, n4, n5⟩ := dg_n l00 c
    have e1 : fgL m 3 h 0 0 = fgL m 2 (h + 1) (nI n) 1 := by
      rw [fgL, if_pos c', show (10 : Int32) * 0 = 0 from rfl, Int32.zero_add, ← cb_d hR c', n5]
    have e2 : nbC m 3 h = ((fgL m 2 (h + 1) (nI n) 1).1, (fgL m 2 (h + 1) (nI n) 1).2.1) := by
      unfold nbC
      rw [if_pos c, n5, nb_fg hR 2 (h + 1) (nI n) 1]
    obtain ⟨w, w1, w2⟩ := nb_b (mu := m) 2 (h + 1) n
    rw [nb_fg hR 2 (h + 1) (nI n) 1] at w1
    obtain ⟨a1, a2, a3⟩ := fgL_n (mu := m) 2 (h + 1) (nI n) 1
    have a4 := fgL_ge (mu := m) 2 (h + 1) (nI n) 1
    rw [e2] at en eM
    rw [e1]
    generalize fgL m 2 (h + 1) (nI n) 1 = q at *
    obtain ⟨h', vv, mm⟩ := q
    simp only at a1 a2 a3 a4 en eM w1 ⊢
    subst w1
    have zz : ¬ nI w < 0 := nI_pos (by omega)
    have hne : ¬ h' = h := by omega
    by_cases c3 : nI w ≤ most
    · have cc : ¬ (h' = h ∨ ¬ nI w ≤ most) := fun q => q.elim hne (fun q => q c3)
      rw [if_neg cc]
      refine ⟨up2 m (a + 4) k (nI w), ?_, fun _ => rfl, fun q => absurd rfl q⟩
      show _ = some (some (Value.int 1), Wd (tp (up2 m (a + 4) k (nI w)) h') la ro et)
      simp only [r_MSt_readRate_0, r_MSt_readRate_0n, r_MSt_readRate_1, r_MSt_readRate_4, r_MSt_readRate_5, r_MSt_readRate_5n, r_MSt_readRate_6, r_MSt_readRate_7, r_MSt_readRate_10, r_MSt_readRate_12, r_MSt_readRate_14, r_MSt_readRate_17, r_MSt_readRate_18, r_MSt_readRate_21, r_MSt_readRate_22, r_MSt_readRate_23, r_MSt_readRate_26, r_MSt_readRate_27, r_MSt_readRate_30, r_MSt_readRate_31, r_MSt_readRate_32, r_MSt_readRate_34, r_MSt_readRate_35, r_MSt_readRate_38, r_MSt_readRate_41, r_MSt_readRate_41n, r_MSt_readRate_42, r_MSt_readRate_43, r_MSt_readRate_46, r_MSt_readRate_47, r_MSt_readRate_48, r_MSt_readRate_49, r_MSt_readRate_52, r_MSt_readRate_53, r_MSt_readRate_55, r_MSt_readRate_56, r_MSt_readRate_57, sL_0, sL_1, sL_2, mk_i, mk_r, mk_f, mk_n, mk_u, mk_l, List.set_cons_succ, List.set_cons_zero, Nat.reduceAdd, ckS_0, ckS_1, ckS_2, ckS_3, ckS_4, Option.bind_some, Option.isSome_some, psh, if_true, if_false, i10, not_true_eq_false, not_false_eq_true, Bool.false_eq_true, and_self, and_true, true_and, eq_self, qI_1_1, qI_1_2, qR_1_0, qRd_1_0, qO_1, tp_12, en, zz, n0, g1, g2, g3, g4, g5, g6, n1, eM, c3, cK, iK, or_self, tp_up (show ¬ a + 4 = 1 by omega), or_true]
    · rw [if_pos (Or.inr c3)]
      refine ⟨m, ?_, fun q => absurd q (by show ¬ false = true; decide), fun _ => rfl⟩
      show _ = some (some (Value.int 0), Wd (tp m h) la ro et)
      simp only [r_MSt_readRate_0, r_MSt_readRate_0n, r_MSt_readRate_1, r_MSt_readRate_4, r_MSt_readRate_5, r_MSt_readRate_5n, r_MSt_readRate_6, r_MSt_readRate_7, r_MSt_readRate_10, r_MSt_readRate_12, r_MSt_readRate_14, r_MSt_readRate_17, r_MSt_readRate_18, r_MSt_readRate_21, r_MSt_readRate_22, r_MSt_readRate_23, r_MSt_readRate_26, r_MSt_readRate_27, r_MSt_readRate_30, r_MSt_readRate_31, r_MSt_readRate_32, r_MSt_readRate_34, r_MSt_readRate_35, r_MSt_readRate_38, r_MSt_readRate_41, r_MSt_readRate_41n, r_MSt_readRate_42, r_MSt_readRate_43, r_MSt_readRate_46, r_MSt_readRate_47, r_MSt_readRate_48, r_MSt_readRate_49, r_MSt_readRate_52, r_MSt_readRate_53, r_MSt_readRate_55, r_MSt_readRate_56, r_MSt_readRate_57, sL_0, sL_1, sL_2, mk_i, mk_r, mk_f, mk_n, mk_u, mk_l, List.set_cons_succ, List.set_cons_zero, Nat.reduceAdd, ckS_0, ckS_1, ckS_2, ckS_3, ckS_4, Option.bind_some, Option.isSome_some, psh, if_true, if_false, i10, not_true_eq_false, not_false_eq_true, Bool.false_eq_true, and_self, and_true, true_and, eq_self, qI_1_1, qI_1_2, qR_1_0, qRd_1_0, qO_1, tp_12, en, zz, n0, g1, g2, g3, g4, g5, g6, n1, eM, c3, tpp, true_or]
  · have c' : ¬ isD (bt m h) = true := by rw [← dg_eq hR]; exact c
    have e1 : fgL m 3 h 0 0 = (h, 0, 0) := by rw [fgL, if_neg c']
    have e2 : nbC m 3 h = (h, -1) := by
      unfold nbC
      rw [if_neg c]
    have zn : (-1 : Int32) < 0 := by decide
    rw [e2] at en
    rw [e1]
    dsimp only
    rw [if_pos (Or.inl rfl)]
    refine ⟨m, ?_, fun q => absurd q (by show ¬ false = true; decide), fun _ => rfl⟩
    show _ = some (some (Value.int 0), Wd (tp m h) la ro et)
    simp only [r_MSt_readRate_0, r_MSt_readRate_0n, r_MSt_readRate_1, r_MSt_readRate_4, r_MSt_readRate_5, r_MSt_readRate_5n, r_MSt_readRate_6, r_MSt_readRate_7, r_MSt_readRate_10, r_MSt_readRate_12, r_MSt_readRate_14, r_MSt_readRate_17, r_MSt_readRate_18, r_MSt_readRate_21, r_MSt_readRate_22, r_MSt_readRate_23, r_MSt_readRate_26, r_MSt_readRate_27, r_MSt_readRate_30, r_MSt_readRate_31, sL_0, sL_1, sL_2, mk_i, mk_r, mk_f, mk_n, mk_u, mk_l, List.set_cons_succ, List.set_cons_zero, Nat.reduceAdd, ckS_0, ckS_1, ckS_2, ckS_3, ckS_4, Option.bind_some, Option.isSome_some, psh, if_true, if_false, i10, not_true_eq_false, not_false_eq_true, Bool.false_eq_true, and_self, and_true, true_and, eq_self, qI_1_1, qI_1_2, qR_1_0, qRd_1_0, qO_1, tp_12, en, zn, true_or]
end
