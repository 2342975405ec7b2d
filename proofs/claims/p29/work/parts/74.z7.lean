-- ===== by hand: chance
theorem nI_cl {i n : Nat} (h : i < n) (hn : n < 2 ^ 31) : ¬ (nI i < 0 ∨ n ≤ (nI i).toNatClampNeg) := by
  rw [nI_clamp (by omega)]
  rintro (h1 | h1)
  · exact nI_pos (by omega) h1
  · omega
theorem e_isWithin {X : Tok} {d : Nat} {v a b : Int32} {h : Hp} : Rr X d MTo_isWithin 0 [.int v, .int a, .int b] [] h = some (some (.int (if a ≤ v ∧ v ≤ b then 1 else 0)), h) := by
  by_cases h1 : a ≤ v
  · by_cases h2 : v ≤ b
    · simp [r_MTo_isWithin_0, r_MTo_isWithin_1, r_MTo_isWithin_2, r_MTo_isWithin_5, r_MTo_isWithin_6, r_MTo_isWithin_7, r_MTo_isWithin_10, r_MTo_isWithin_11, r_MTo_isWithin_14, r_MTo_isWithin_15, h1, h2, Int32.not_lt.mpr h1, Int32.not_lt.mpr h2]
    · simp [r_MTo_isWithin_0, r_MTo_isWithin_1, r_MTo_isWithin_2, r_MTo_isWithin_5, r_MTo_isWithin_6, r_MTo_isWithin_7, r_MTo_isWithin_10, r_MTo_isWithin_11, r_MTo_isWithin_14, r_MTo_isWithin_15, h1, h2, Int32.not_lt.mpr h1, Int32.not_le.mp h2]
  · simp [r_MTo_isWithin_0, r_MTo_isWithin_1, r_MTo_isWithin_2, r_MTo_isWithin_5, r_MTo_isWithin_6, r_MTo_isWithin_7, r_MTo_isWithin_10, r_MTo_isWithin_11, r_MTo_isWithin_14, r_MTo_isWithin_15, h1, Int32.not_le.mp h1]
def fct : Nat → Nat
  | 0 => 1
  | n + 1 => (n + 1) * fct n
def bn (n i : Nat) : Nat := if i ≤ n then fct n / (fct i * fct (n - i)) else 0
def sm (n g : Nat) : Nat → Nat
  | 0 => 0
  | i + 1 => sm n g i + if g ≤ max i (n - i) then bn n i else 0
def chF (n m : Int32) : Int32 := if (1 ≤ n ∧ n ≤ 40) ∧ (0 ≤ m ∧ m ≤ n) then (lN (sm n.toNatClampNeg (max m.toNatClampNeg (n.toNatClampNeg - m.toNatClampNeg)) (n.toNatClampNeg + 1) * 1000 / 2 ^ n.toNatClampNeg)).toInt32 else -1
set_option maxRecDepth 100000 in
theorem ch_b1 : ∀ n, n < 41 → ∀ i, i < 41 → i ≤ n → bn n i * (n - i) / (i + 1) = bn n (i + 1) ∧ bn n i * (n - i) < 2 ^ 63 := by decide +kernel
set_option maxRecDepth 100000 in
theorem ch_b3 : ∀ n, n < 41 → ∀ g, g < 41 → sm n g (n + 1) * 1000 < 2 ^ 63 := by decide +kernel
set_option maxRecDepth 100000 in
theorem ch_b4 : ∀ n, n < 41 → sm n 0 (n + 1) = 2 ^ n := by decide +kernel
set_option maxRecDepth 100000 in
theorem ch_b5 : ∀ n, n < 40 → ∀ i, i < 40 → bn n (i + 1) + bn n i = bn (n + 1) (i + 1) := by decide +kernel
theorem ch_b6 : ∀ n, n < 41 → bn n 0 = 1 := by decide +kernel
set_option maxRecDepth 100000 in
theorem ch_sh : ∀ n, n < 41 → (1 : Int64) <<< ((nI n).toInt64 &&& 63) = lN (2 ^ n) := by decide +kernel
theorem nI_mx {a b : Nat} (ha : a < 2 ^ 31) (hb : b < 2 ^ 31) : (if nI a < nI b then nI b else nI a) = nI (max a b) := by
  by_cases h : a < b
  · rw [if_pos (nI_lt h hb), Nat.max_eq_right (by omega)]
  · rw [if_neg (nI_nlt (by omega) ha), Nat.max_eq_left (by omega)]
theorem ch_div {n S : Nat} (hn : n < 41) (hS : S * 1000 < 2 ^ 63) : lN S * 1000 / lN (2 ^ n) = lN (S * 1000 / 2 ^ n) := by
  have h1 : (1000 : Int64) = lN 1000 := rfl
  have h2 : 2 ^ n < 2 ^ 63 := Nat.pow_lt_pow_right (by decide) (by omega)
  rw [h1, lN_mul, pk_lDiv hS (Nat.two_pow_pos n) h2]
theorem ch_ne {n : Nat} (hn : n < 41) : ¬ lN (2 ^ n) = 0 := by
  intro h
  have h2 : 2 ^ n < 2 ^ 63 := Nat.pow_lt_pow_right (by decide) (by omega)
  have h3 : lN (2 ^ n) = lN 0 := h
  rw [pk_lEQ h2 (by decide)] at h3
  have := Nat.two_pow_pos n
  omega
set_option maxHeartbeats 4000000 in
theorem cc_loop {X : Tok} {d : Nat} {h : Hp} {m : Int32} {N g : Nat} (hN : N ≤ 40) (hg : g ≤ 40) : ∀ (k i : Nat), i + k = N + 1 → Rr X (d + 1) MTo_chance 38 [.ref 0, .int (nI N), .int m, .int (nI g), .long (lN (sm N g i)), mkU, .long (lN (bn N i)), mkU, .int (nI i)] [] h = some (some (.int (lN (sm N g (N + 1) * 1000 / 2 ^ N)).toInt32), h) := by
  intro k
  induction k with
  | zero =>
    intro i hi
    have : i = N + 1 := by omega
    subst this
    have h1 : nI N < nI (N + 1) := nI_lt (by omega) (by omega)
    have h2 := ch_div (S := sm N g (N + 1)) (show N < 41 by omega) (ch_b3 N (by omega) g (by omega))
    have h3 := ch_ne (show N < 41 by omega)
    rw [r_MTo_chance_38]
    simp only [r_MTo_chance_40, r_MTo_chance_41, r_MTo_chance_44, r_MTo_chance_46, r_MTo_chance_47, r_MTo_chance_49, r_MTo_chance_50, r_MTo_chance_53, r_MTo_chance_54, r_MTo_chance_57, r_MTo_chance_59, r_MTo_chance_61, r_MTo_chance_62, r_MTo_chance_64, r_MTo_chance_66, r_MTo_chance_67, r_MTo_chance_69, r_MTo_chance_70, r_MTo_chance_71, r_MTo_chance_72, r_MTo_chance_74, r_MTo_chance_75, r_MTo_chance_76, r_MTo_chance_77, r_MTo_chance_78, r_MTo_chance_80, r_MTo_chance_83, r_MTo_chance_86, r_MTo_chance_88, r_MTo_chance_91, r_MTo_chance_92, r_MTo_chance_93, r_MTo_chance_94, r_MTo_chance_95, r_MTo_chance_96, r_MTo_chance_97, sL_0, sL_1, sL_2, mk_i, mk_r, mk_f, mk_n, mk_u, mk_l, List.set_cons_succ, List.set_cons_zero, Nat.reduceAdd, ckS_0, ckS_1, ckS_2, ckS_3, ckS_4, h1, if_true, ch_sh N (by omega), h3, if_false, h2]
  | succ k ih =>
    intro i hi
    have h1 : ¬ nI N < nI i := nI_nlt (by omega) (by omega)
    have h2 : nI N - nI i = nI (N - i) := pk_sub (by omega)
    have h3 := nI_mx (a := i) (b := N - i) (by omega) (by omega)
    have h4 : (nI (N - i)).toInt64 = lN (N - i) := nI_l (by omega)
    have h5 : (nI (i + 1)).toInt64 = lN (i + 1) := nI_l (by omega)
    have h6 : ¬ lN (i + 1) = 0 := fun q => by
      have q2 : lN (i + 1) = lN 0 := q
      rw [pk_lEQ (by omega) (by decide)] at q2
      omega
    obtain ⟨b1, b2⟩ := ch_b1 N (by omega) i (by omega) (by omega)
    have h7 : lN (bn N i * (N - i)) / lN (i + 1) = lN (bn N (i + 1)) := by rw [pk_lDiv b2 (by omega) (by omega), b1]
    have e1 := ih (i + 1) (by omega)
    rw [r_MTo_chance_38]
    by_cases hc : g ≤ max i (N - i)
    · have h8 : ¬ nI (max i (N - i)) < nI g := nI_nlt hc (by omega)
      have h9 : lN (sm N g i) + lN (bn N i) = lN (sm N g (i + 1)) := by rw [lN_add, sm, if_pos hc]
      simp only [r_MTo_chance_40, r_MTo_chance_41, r_MTo_chance_44, r_MTo_chance_46, r_MTo_chance_47, r_MTo_chance_49, r_MTo_chance_50, r_MTo_chance_53, r_MTo_chance_54, r_MTo_chance_57, r_MTo_chance_59, r_MTo_chance_61, r_MTo_chance_62, r_MTo_chance_64, r_MTo_chance_66, r_MTo_chance_67, r_MTo_chance_69, r_MTo_chance_70, r_MTo_chance_71, r_MTo_chance_72, r_MTo_chance_74, r_MTo_chance_75, r_MTo_chance_76, r_MTo_chance_77, r_MTo_chance_78, r_MTo_chance_80, r_MTo_chance_83, sL_0, sL_1, sL_2, mk_i, mk_r, mk_f, mk_n, mk_u, mk_l, List.set_cons_succ, List.set_cons_zero, Nat.reduceAdd, ckS_0, ckS_1, ckS_2, ckS_3, ckS_4, h1, h2, h3, h8, if_false, h9, nI_1, h4, h5, h6, lN_mul, h7]
      exact e1
    · have h8 : nI (max i (N - i)) < nI g := nI_lt (by omega) (by omega)
      have h9 : sm N g (i + 1) = sm N g i := by rw [sm, if_neg hc, Nat.add_zero]
      rw [h9] at e1
      simp only [r_MTo_chance_40, r_MTo_chance_41, r_MTo_chance_44, r_MTo_chance_46, r_MTo_chance_47, r_MTo_chance_49, r_MTo_chance_50, r_MTo_chance_53, r_MTo_chance_54, r_MTo_chance_57, r_MTo_chance_59, r_MTo_chance_61, r_MTo_chance_62, r_MTo_chance_64, r_MTo_chance_66, r_MTo_chance_67, r_MTo_chance_69, r_MTo_chance_70, r_MTo_chance_71, r_MTo_chance_72, r_MTo_chance_74, r_MTo_chance_75, r_MTo_chance_76, r_MTo_chance_77, r_MTo_chance_78, r_MTo_chance_80, r_MTo_chance_83, sL_0, sL_1, sL_2, mk_i, mk_r, mk_f, mk_n, mk_u, mk_l, List.set_cons_succ, List.set_cons_zero, Nat.reduceAdd, ckS_0, ckS_1, ckS_2, ckS_3, ckS_4, h1, h2, h3, h8, if_true, if_false, nI_1, h4, h5, h6, lN_mul, h7]
      exact e1
set_option maxHeartbeats 4000000 in
theorem c_chance {X : Tok} {d : Nat} {mu : Nat → Nat → Int32} {la : Nat → Nat → Int64} {ro : Nat → Nat → Option Nat} {et : Nat → Option va_E} (n m : Int32) : Rr X (d + 1) MTo_chance 0 [.ref 0, .int n, .int m, mkU, mkU, mkU, mkU, mkU, mkU] [] (Wd mu la ro et) = some (some (.int (chF n m)), Wd mu la ro et) := by
  unfold chF
  by_cases hn : 1 ≤ n ∧ n ≤ 40
  · by_cases hm : 0 ≤ m ∧ m ≤ n
    · rw [if_pos ⟨hn, hm⟩]
      have hn0 : ¬ n < 0 := fun q => by
        have h1 := hn.1
        rw [Int32.le_iff_toInt_le] at h1
        rw [Int32.lt_iff_toInt_lt] at q
        have e1 : (1 : Int32).toInt = 1 := rfl
        have e2 : (0 : Int32).toInt = 0 := rfl
        omega
      obtain ⟨N, hN, rfl⟩ : ∃ N : Nat, N ≤ 40 ∧ n = nI N := nI_of2 (M := 40) (n := 40) rfl hn0 hn.2
      obtain ⟨K, hK, rfl⟩ : ∃ K : Nat, K ≤ N ∧ m = nI K := nI_of2 (M := nI N) (n := N) (nI_toInt (by omega)) (by rw [Int32.not_lt]; exact hm.1) hm.2
      have hN1 : 1 ≤ N := by
        have h1 := hn.1
        rw [show (1 : Int32) = nI 1 from rfl, nI_leI (by omega) (by omega)] at h1
        exact h1
      rw [nI_clamp (show N < 2 ^ 31 by omega), nI_clamp (show K < 2 ^ 31 by omega)]
      have h2 : nI N - nI K = nI (N - K) := pk_sub hK
      have h3 := nI_mx (a := K) (b := N - K) (by omega) (by omega)
      have e1 := cc_loop (X := X) (d := d) (h := Wd mu la ro et) (m := nI K) (N := N) (g := max K (N - K)) hN (by omega) (N + 1) 0 (by omega)
      have s0 : lN (sm N (max K (N - K)) 0) = 0 := rfl
      have s1 : lN (bn N 0) = 1 := by rw [ch_b6 N (by omega)]; rfl
      rw [s0, s1, nI_0] at e1
      simp only [r_MTo_chance_0, r_MTo_chance_1, r_MTo_chance_2, r_MTo_chance_4, r_MTo_chance_7, r_MTo_chance_10, r_MTo_chance_11, r_MTo_chance_12, r_MTo_chance_13, r_MTo_chance_16, r_MTo_chance_19, r_MTo_chance_20, r_MTo_chance_21, r_MTo_chance_22, r_MTo_chance_23, r_MTo_chance_24, r_MTo_chance_25, r_MTo_chance_28, r_MTo_chance_29, r_MTo_chance_30, r_MTo_chance_32, r_MTo_chance_33, r_MTo_chance_35, r_MTo_chance_36, sL_0, sL_1, sL_2, mk_i, mk_r, mk_f, mk_n, mk_u, mk_l, List.set_cons_succ, List.set_cons_zero, Nat.reduceAdd, ckS_0, ckS_1, ckS_2, ckS_3, ckS_4, e_isWithin, hn, hm, Option.bind_some, psh, and_self, if_true, ite_true, if_false, h2, h3, r_MTo_chance_7, show ((1 : Int32) = 0) = False from by decide, not_false_eq_true]
      exact e1
    · rw [if_neg (fun q => hm q.2)]
      simp [r_MTo_chance_0, r_MTo_chance_1, r_MTo_chance_2, r_MTo_chance_4, r_MTo_chance_7, r_MTo_chance_10, r_MTo_chance_11, r_MTo_chance_12, r_MTo_chance_13, r_MTo_chance_16, r_MTo_chance_19, r_MTo_chance_20, r_MTo_chance_21, r_MTo_chance_22, r_MTo_chance_23, r_MTo_chance_24, r_MTo_chance_25, r_MTo_chance_28, r_MTo_chance_29, r_MTo_chance_30, r_MTo_chance_32, r_MTo_chance_33, r_MTo_chance_35, r_MTo_chance_36, r_MTo_chance_38, r_MTo_chance_40, r_MTo_chance_41, r_MTo_chance_44, r_MTo_chance_46, r_MTo_chance_47, r_MTo_chance_49, r_MTo_chance_50, r_MTo_chance_53, r_MTo_chance_54, r_MTo_chance_57, r_MTo_chance_59, r_MTo_chance_61, r_MTo_chance_62, r_MTo_chance_64, r_MTo_chance_66, r_MTo_chance_67, r_MTo_chance_69, r_MTo_chance_70, r_MTo_chance_71, r_MTo_chance_72, r_MTo_chance_74, r_MTo_chance_75, r_MTo_chance_76, r_MTo_chance_77, r_MTo_chance_78, r_MTo_chance_80, r_MTo_chance_83, r_MTo_chance_86, r_MTo_chance_88, r_MTo_chance_91, r_MTo_chance_92, r_MTo_chance_93, r_MTo_chance_94, r_MTo_chance_95, r_MTo_chance_96, r_MTo_chance_97, qI_0_9, qI_0_10, qR_0_0, qRd_0_0, qR_0_1, qRd_0_1, qR_0_2, qRd_0_2, qR_0_3, qRd_0_3, qR_0_4, qRd_0_4, qR_0_5, qRd_0_5, qR_0_6, qRd_0_6, qR_0_7, qRd_0_7, qR_0_8, qRd_0_8, qO_0, ckS_0, ckS_1, ckS_2, ckS_3, ckS_4, Option.isSome_some, sL_0, sL_1, sL_2, mk_i, mk_r, mk_f, mk_n, mk_u, mk_l, ite_bind, Option.bind_some, Option.bind_none, psh, Nat.reduceAdd, Nat.reduceLeDiff, Nat.reduceSub, List.set_cons_succ, List.set_cons_zero, hn, hm, -Int32.not_le, -Int32.not_lt, -not_and, e_isWithin, up2_e]
  · rw [if_neg (fun q => hn q.1)]
    simp [r_MTo_chance_0, r_MTo_chance_1, r_MTo_chance_2, r_MTo_chance_4, r_MTo_chance_7, r_MTo_chance_10, r_MTo_chance_11, r_MTo_chance_12, r_MTo_chance_13, r_MTo_chance_16, r_MTo_chance_19, r_MTo_chance_20, r_MTo_chance_21, r_MTo_chance_22, r_MTo_chance_23, r_MTo_chance_24, r_MTo_chance_25, r_MTo_chance_28, r_MTo_chance_29, r_MTo_chance_30, r_MTo_chance_32, r_MTo_chance_33, r_MTo_chance_35, r_MTo_chance_36, r_MTo_chance_38, r_MTo_chance_40, r_MTo_chance_41, r_MTo_chance_44, r_MTo_chance_46, r_MTo_chance_47, r_MTo_chance_49, r_MTo_chance_50, r_MTo_chance_53, r_MTo_chance_54, r_MTo_chance_57, r_MTo_chance_59, r_MTo_chance_61, r_MTo_chance_62, r_MTo_chance_64, r_MTo_chance_66, r_MTo_chance_67, r_MTo_chance_69, r_MTo_chance_70, r_MTo_chance_71, r_MTo_chance_72, r_MTo_chance_74, r_MTo_chance_75, r_MTo_chance_76, r_MTo_chance_77, r_MTo_chance_78, r_MTo_chance_80, r_MTo_chance_83, r_MTo_chance_86, r_MTo_chance_88, r_MTo_chance_91, r_MTo_chance_92, r_MTo_chance_93, r_MTo_chance_94, r_MTo_chance_95, r_MTo_chance_96, r_MTo_chance_97, qI_0_9, qI_0_10, qR_0_0, qRd_0_0, qR_0_1, qRd_0_1, qR_0_2, qRd_0_2, qR_0_3, qRd_0_3, qR_0_4, qRd_0_4, qR_0_5, qRd_0_5, qR_0_6, qRd_0_6, qR_0_7, qRd_0_7, qR_0_8, qRd_0_8, qO_0, ckS_0, ckS_1, ckS_2, ckS_3, ckS_4, Option.isSome_some, sL_0, sL_1, sL_2, mk_i, mk_r, mk_f, mk_n, mk_u, mk_l, ite_bind, Option.bind_some, Option.bind_none, psh, Nat.reduceAdd, Nat.reduceLeDiff, Nat.reduceSub, List.set_cons_succ, List.set_cons_zero, hn, -Int32.not_le, -Int32.not_lt, -not_and, e_isWithin, up2_e]
set_option maxHeartbeats 4000000 in
theorem mc_init {X : Tok} {d : Nat} {mu : Nat → Nat → Int32} {ro : Nat → Nat → Option Nat} {et : Nat → Option va_E} {n m g : Int32} : ∀ (k i : Nat) (la : Nat → Nat → Int64), i + k = 41 → (∀ j, j < i → la 104 j = lN (bn 0 j)) → ∃ la1, (∀ j, j < 41 → la1 104 j = lN (bn 0 j)) ∧ (∀ a, ¬ a = 104 → la1 a = la a) ∧ Rr X (d + 1) MRm_chance 39 [.ref 81, .int n, .int m, .int g, .int (nI i), mkU, mkU, mkU, mkU] [] (Wd mu la ro et) = Rr X (d + 1) MRm_chance 69 [.ref 81, .int n, .int m, .int g, .int (nI 41), mkU, mkU, mkU, mkU] [] (Wd mu la1 ro et) := by
  intro k
  induction k with
  | zero =>
    intro i la hi hj
    have : i = 41 := by omega
    subst this
    refine ⟨la, hj, fun _ _ => rfl, ?_⟩
    have h1 : (40 : Int32) < nI 41 := by decide
    rw [r_MRm_chance_39]
    simp only [r_MRm_chance_41, r_MRm_chance_43, r_MRm_chance_46, r_MRm_chance_47, r_MRm_chance_50, r_MRm_chance_52, r_MRm_chance_54, r_MRm_chance_57, r_MRm_chance_58, r_MRm_chance_61, r_MRm_chance_62, r_MRm_chance_63, r_MRm_chance_66, sL_0, sL_1, sL_2, mk_i, mk_r, mk_f, mk_n, mk_u, mk_l, List.set_cons_succ, List.set_cons_zero, Nat.reduceAdd, ckS_0, ckS_1, ckS_2, ckS_3, ckS_4, h1, if_true]
  | succ k ih =>
    intro i la hi hj
    have h1 : ¬ (40 : Int32) < nI i := nI_nlt (a := 40) (b := i) (by omega) (by omega)
    have h3 := nI_cl (i := i) (n := 41) (by omega) (by omega)
    have hcl : (nI i).toNatClampNeg = i := nI_clamp (by omega)
    rw [hcl] at h3
    by_cases h0 : i = 0
    · subst h0
      obtain ⟨la1, p1, f1, e1⟩ := ih 1 (upJ la 104 0 1) (by omega) (fun j hj2 => by
        have : j = 0 := by omega
        subst this
        rfl)
      refine ⟨la1, p1, fun a h => (f1 a h).trans (if_neg h), ?_⟩
      rw [r_MRm_chance_39]
      have z0 : nI 0 = 0 := rfl
      have z1 : (0 : Int32) + 1 = nI 1 := rfl
      have z2 : ¬ (40 : Int32) < 0 := by decide
      have z3 : ¬ ((0 : Int32) < 0 ∨ 41 ≤ (0 : Int32).toNatClampNeg) := by decide
      have z4 : (0 : Int32).toNatClampNeg = 0 := rfl
      simp only [r_MRm_chance_41, r_MRm_chance_43, r_MRm_chance_46, r_MRm_chance_47, r_MRm_chance_50, r_MRm_chance_52, r_MRm_chance_54, r_MRm_chance_57, r_MRm_chance_58, r_MRm_chance_61, r_MRm_chance_62, r_MRm_chance_63, r_MRm_chance_66, sL_0, sL_1, sL_2, mk_i, mk_r, mk_f, mk_n, mk_u, mk_l, List.set_cons_succ, List.set_cons_zero, Nat.reduceAdd, ckS_0, ckS_1, ckS_2, ckS_3, ckS_4, z0, z1, z2, z3, z4, not_true_eq_false, if_false, qR_81_50, qRd_81_50, qJ_104, qJd_104, Option.isSome_some]
      exact e1
    · have h5 : ¬ nI i = 0 := nI_ne0 (by omega) (by omega)
      obtain ⟨la1, p1, f1, e1⟩ := ih (i + 1) (upJ la 104 i 0) (by omega) (fun j hj2 => by
        show (if (104 : Nat) = 104 then vp_updL (la 104) i 0 else la 104) j = _
        rw [if_pos rfl]
        unfold vp_updL
        by_cases q : j = i
        · rw [if_pos q, q]
          unfold bn
          rw [if_neg (by omega)]
          rfl
        · rw [if_neg q]
          exact hj j (by omega))
      refine ⟨la1, p1, fun a h => (f1 a h).trans (if_neg h), ?_⟩
      rw [r_MRm_chance_39]
      simp only [r_MRm_chance_41, r_MRm_chance_43, r_MRm_chance_46, r_MRm_chance_47, r_MRm_chance_50, r_MRm_chance_52, r_MRm_chance_54, r_MRm_chance_57, r_MRm_chance_58, r_MRm_chance_61, r_MRm_chance_62, r_MRm_chance_63, r_MRm_chance_66, sL_0, sL_1, sL_2, mk_i, mk_r, mk_f, mk_n, mk_u, mk_l, List.set_cons_succ, List.set_cons_zero, Nat.reduceAdd, ckS_0, ckS_1, ckS_2, ckS_3, ckS_4, h1, h3, h5, hcl, not_false_eq_true, if_true, if_false, nI_1, qR_81_50, qRd_81_50, qJ_104, qJd_104, Option.isSome_some]
      exact e1
set_option maxHeartbeats 4000000 in
theorem mc_in {X : Tok} {d : Nat} {mu : Nat → Nat → Int32} {ro : Nat → Nat → Option Nat} {et : Nat → Option va_E} {n m g t : Int32} {N T : Nat} (hN : N ≤ 40) (hT : T < N) : ∀ (i : Nat) (la : Nat → Nat → Int64), i ≤ N → (∀ j, j ≤ N → la 104 j = lN (if i < j then bn (T + 1) j else bn T j)) → ∃ la1, (∀ j, j ≤ N → la1 104 j = lN (bn (T + 1) j)) ∧ (∀ a, ¬ a = 104 → la1 a = la a) ∧ Rr X (d + 1) MRm_chance 81 [.ref 81, .int n, .int m, .int g, .int t, .int (nI i), mkU, mkU, mkU] [] (Wd mu la ro et) = Rr X (d + 1) MRm_chance 111 [.ref 81, .int n, .int m, .int g, .int t, .int 0, mkU, mkU, mkU] [] (Wd mu la1 ro et) := by
  intro i
  induction i with
  | zero =>
    intro la hi hj
    refine ⟨la, fun j h2 => ?_, fun _ _ => rfl, ?_⟩
    · rw [hj j h2]
      by_cases h0 : j = 0
      · subst h0
        rw [if_neg (by omega), ch_b6 T (by omega), ch_b6 (T + 1) (by omega)]
      · rw [if_pos (by omega)]
    · have z0 : nI 0 = 0 := rfl
      have z1 : (0 : Int32) ≤ 0 := by decide
      rw [r_MRm_chance_81]
      simp only [r_MRm_chance_83, r_MRm_chance_86, r_MRm_chance_87, r_MRm_chance_90, r_MRm_chance_92, r_MRm_chance_93, r_MRm_chance_94, r_MRm_chance_95, r_MRm_chance_98, r_MRm_chance_100, r_MRm_chance_101, r_MRm_chance_102, r_MRm_chance_103, r_MRm_chance_104, r_MRm_chance_105, r_MRm_chance_108, sL_0, sL_1, sL_2, mk_i, mk_r, mk_f, mk_n, mk_u, mk_l, List.set_cons_succ, List.set_cons_zero, Nat.reduceAdd, ckS_0, ckS_1, ckS_2, ckS_3, ckS_4, z0, z1, if_true]
  | succ i ih =>
    intro la hi hj
    have h1 : ¬ nI (i + 1) ≤ 0 := nI_nle (by omega) (by omega)
    have h3 := nI_cl (i := i + 1) (n := 41) (by omega) (by omega)
    have h4 := nI_cl (i := i) (n := 41) (by omega) (by omega)
    have hcl : (nI (i + 1)).toNatClampNeg = i + 1 := nI_clamp (by omega)
    have hcl2 : (nI i).toNatClampNeg = i := nI_clamp (by omega)
    rw [hcl] at h3
    rw [hcl2] at h4
    have h5 : nI (i + 1) - 1 = nI i := nI_pred i
    have h6 : nI (i + 1) + (-1) = nI i := pk_m1 i
    have v1 : la 104 (i + 1) = lN (bn T (i + 1)) := by rw [hj (i + 1) hi, if_neg (by omega)]
    have v2 : la 104 i = lN (bn T i) := by rw [hj i (by omega), if_neg (by omega)]
    have v3 : lN (bn T (i + 1)) + lN (bn T i) = lN (bn (T + 1) (i + 1)) := by rw [lN_add, ch_b5 T (by omega) i (by omega)]
    obtain ⟨la1, p1, f1, e1⟩ := ih (upJ la 104 (i + 1) (lN (bn (T + 1) (i + 1)))) (by omega) (fun j h2 => by
      show (if (104 : Nat) = 104 then vp_updL (la 104) (i + 1) _ else la 104) j = _
      rw [if_pos rfl]
      unfold vp_updL
      by_cases q : j = i + 1
      · rw [if_pos q, if_pos (by omega), q]
      · rw [if_neg q, hj j h2]
        by_cases q2 : i + 1 < j
        · rw [if_pos q2, if_pos (by omega)]
        · rw [if_neg q2, if_neg (by omega)])
    refine ⟨la1, p1, fun a h => (f1 a h).trans (if_neg h), ?_⟩
    rw [r_MRm_chance_81]
    simp only [r_MRm_chance_83, r_MRm_chance_86, r_MRm_chance_87, r_MRm_chance_90, r_MRm_chance_92, r_MRm_chance_93, r_MRm_chance_94, r_MRm_chance_95, r_MRm_chance_98, r_MRm_chance_100, r_MRm_chance_101, r_MRm_chance_102, r_MRm_chance_103, r_MRm_chance_104, r_MRm_chance_105, r_MRm_chance_108, sL_0, sL_1, sL_2, mk_i, mk_r, mk_f, mk_n, mk_u, mk_l, List.set_cons_succ, List.set_cons_zero, Nat.reduceAdd, ckS_0, ckS_1, ckS_2, ckS_3, ckS_4, h1, h3, h4, h5, h6, hcl, hcl2, v1, v2, v3, if_false, qR_81_50, qRd_81_50, qJ_104, qJd_104, Option.isSome_some]
    exact e1
set_option maxHeartbeats 4000000 in
theorem mc_out {X : Tok} {d : Nat} {mu : Nat → Nat → Int32} {ro : Nat → Nat → Option Nat} {et : Nat → Option va_E} {m g : Int32} {N : Nat} (hN : N ≤ 40) : ∀ (k T : Nat) (la : Nat → Nat → Int64) (l5 : Value), T + k = N → (∀ j, j ≤ N → la 104 j = lN (bn T j)) → (l5 = mkU ∨ l5 = .int 0) → ∃ la1 l5', (∀ j, j ≤ N → la1 104 j = lN (bn N j)) ∧ (l5' = mkU ∨ l5' = .int 0) ∧ (∀ a, ¬ a = 104 → la1 a = la a) ∧ Rr X (d + 1) MRm_chance 72 [.ref 81, .int (nI N), .int m, .int g, .int (nI T), l5, mkU, mkU, mkU] [] (Wd mu la ro et) = Rr X (d + 1) MRm_chance 117 [.ref 81, .int (nI N), .int m, .int g, .int (nI N), l5', mkU, mkU, mkU] [] (Wd mu la1 ro et) := by
  intro k
  induction k with
  | zero =>
    intro T la l5 hT hj hl
    have : T = N := by omega
    subst this
    refine ⟨la, l5, hj, hl, fun _ _ => rfl, ?_⟩
    have h1 : nI T ≤ nI T := nI_le (Nat.le_refl _) (by omega)
    rw [r_MRm_chance_72]
    simp only [r_MRm_chance_74, r_MRm_chance_75, r_MRm_chance_78, r_MRm_chance_79, sL_0, sL_1, sL_2, mk_i, mk_r, mk_f, mk_n, mk_u, mk_l, List.set_cons_succ, List.set_cons_zero, Nat.reduceAdd, ckS_0, ckS_1, ckS_2, ckS_3, ckS_4, h1, if_true]
  | succ k ih =>
    intro T la l5 hT hj hl
    have h1 : ¬ nI N ≤ nI T := nI_ge (by omega) (by omega)
    obtain ⟨la1, p1, f1, e1⟩ := mc_in (X := X) (d := d) (mu := mu) (ro := ro) (et := et) (n := nI N) (m := m) (g := g) (t := nI T) (N := N) (T := T) hN (by omega) N la (Nat.le_refl _) (fun j h2 => by rw [hj j h2, if_neg (by omega)])
    obtain ⟨la2, l5', p2, p3, f2, e2⟩ := ih (T + 1) la1 (.int 0) (by omega) p1 (Or.inr rfl)
    refine ⟨la2, l5', p2, p3, fun a h => (f2 a h).trans (f1 a h), ?_⟩
    rw [r_MRm_chance_72]
    simp only [r_MRm_chance_74, r_MRm_chance_75, r_MRm_chance_78, r_MRm_chance_79, sL_0, sL_1, sL_2, mk_i, mk_r, mk_f, mk_n, mk_u, mk_l, List.set_cons_succ, List.set_cons_zero, Nat.reduceAdd, ckS_0, ckS_1, ckS_2, ckS_3, ckS_4, h1, if_false, e1, nI_1]
    rcases hl with rfl | rfl
    · simp only [r_MRm_chance_111, r_MRm_chance_114, sL_0, sL_1, sL_2, mk_i, mk_r, mk_f, mk_n, mk_u, mk_l, List.set_cons_succ, List.set_cons_zero, Nat.reduceAdd, ckS_0, ckS_1, ckS_2, ckS_3, ckS_4, e1, nI_1]
      exact e2
    · simp only [r_MRm_chance_111, r_MRm_chance_114, sL_0, sL_1, sL_2, mk_i, mk_r, mk_f, mk_n, mk_u, mk_l, List.set_cons_succ, List.set_cons_zero, Nat.reduceAdd, ckS_0, ckS_1, ckS_2, ckS_3, ckS_4, e1, nI_1]
      exact e2
set_option maxHeartbeats 4000000 in
theorem mc_sum {X : Tok} {d : Nat} {mu : Nat → Nat → Int32} {la : Nat → Nat → Int64} {ro : Nat → Nat → Option Nat} {et : Nat → Option va_E} {m : Int32} {N g : Nat} (hN : N ≤ 40) (hg : g ≤ 40) (hj : ∀ j, j ≤ N → la 104 j = lN (bn N j)) : ∀ (k i : Nat), i + k = N + 1 → Rr X (d + 1) MRm_chance 126 [.ref 81, .int (nI N), .int m, .int (nI g), .long (lN (sm N 0 i)), mkU, .long (lN (sm N g i)), mkU, .int (nI i)] [] (Wd mu la ro et) = some (some (.int (lN (sm N g (N + 1) * 1000 / 2 ^ N)).toInt32), Wd mu la ro et) := by
  intro k
  induction k with
  | zero =>
    intro i hi
    have : i = N + 1 := by omega
    subst this
    have h1 : nI N < nI (N + 1) := nI_lt (by omega) (by omega)
    have h2 := ch_div (S := sm N g (N + 1)) (show N < 41 by omega) (ch_b3 N (by omega) g (by omega))
    have h3 := ch_ne (show N < 41 by omega)
    rw [r_MRm_chance_126]
    simp only [r_MRm_chance_128, r_MRm_chance_129, r_MRm_chance_132, r_MRm_chance_134, r_MRm_chance_135, r_MRm_chance_138, r_MRm_chance_140, r_MRm_chance_141, r_MRm_chance_142, r_MRm_chance_144, r_MRm_chance_146, r_MRm_chance_147, r_MRm_chance_150, r_MRm_chance_151, r_MRm_chance_153, r_MRm_chance_154, r_MRm_chance_155, r_MRm_chance_158, r_MRm_chance_160, r_MRm_chance_161, r_MRm_chance_164, r_MRm_chance_166, r_MRm_chance_167, r_MRm_chance_168, r_MRm_chance_170, r_MRm_chance_173, r_MRm_chance_176, r_MRm_chance_178, r_MRm_chance_181, r_MRm_chance_182, r_MRm_chance_184, r_MRm_chance_185, r_MRm_chance_186, sL_0, sL_1, sL_2, mk_i, mk_r, mk_f, mk_n, mk_u, mk_l, List.set_cons_succ, List.set_cons_zero, Nat.reduceAdd, ckS_0, ckS_1, ckS_2, ckS_3, ckS_4, h1, if_true, ch_b4 N (by omega), h3, if_false, h2]
  | succ k ih =>
    intro i hi
    have h1 : ¬ nI N < nI i := nI_nlt (by omega) (by omega)
    have h2 : nI N - nI i = nI (N - i) := pk_sub (by omega)
    have h3 := nI_cl (i := i) (n := 41) (by omega) (by omega)
    have hcl : (nI i).toNatClampNeg = i := nI_clamp (by omega)
    rw [hcl] at h3
    have v1 : la 104 i = lN (bn N i) := hj i (by omega)
    have e1 := ih (i + 1) (by omega)
    have s0 : lN (sm N 0 i) + lN (bn N i) = lN (sm N 0 (i + 1)) := by rw [lN_add, sm, if_pos (Nat.zero_le _)]
    rw [r_MRm_chance_126]
    by_cases hc : g ≤ max i (N - i)
    · have h9 : lN (sm N g i) + lN (bn N i) = lN (sm N g (i + 1)) := by rw [lN_add, sm, if_pos hc]
      by_cases hc1 : g ≤ i
      · have h8 : nI g ≤ nI i := nI_le hc1 (by omega)
        simp only [r_MRm_chance_128, r_MRm_chance_129, r_MRm_chance_132, r_MRm_chance_134, r_MRm_chance_135, r_MRm_chance_138, r_MRm_chance_140, r_MRm_chance_141, r_MRm_chance_142, r_MRm_chance_144, r_MRm_chance_146, r_MRm_chance_147, r_MRm_chance_150, r_MRm_chance_151, r_MRm_chance_153, r_MRm_chance_154, r_MRm_chance_155, r_MRm_chance_158, r_MRm_chance_160, r_MRm_chance_161, r_MRm_chance_164, r_MRm_chance_166, r_MRm_chance_167, r_MRm_chance_168, r_MRm_chance_170, r_MRm_chance_173, sL_0, sL_1, sL_2, mk_i, mk_r, mk_f, mk_n, mk_u, mk_l, List.set_cons_succ, List.set_cons_zero, Nat.reduceAdd, ckS_0, ckS_1, ckS_2, ckS_3, ckS_4, h1, h2, h3, h8, hcl, v1, s0, if_false, if_true, h9, nI_1, qR_81_50, qRd_81_50, qJ_104, qJd_104, Option.isSome_some]
        exact e1
      · have h8 : ¬ nI g ≤ nI i := nI_ge (by omega) (by omega)
        have h7 : ¬ nI (N - i) < nI g := nI_nlt (by omega) (by omega)
        simp only [r_MRm_chance_128, r_MRm_chance_129, r_MRm_chance_132, r_MRm_chance_134, r_MRm_chance_135, r_MRm_chance_138, r_MRm_chance_140, r_MRm_chance_141, r_MRm_chance_142, r_MRm_chance_144, r_MRm_chance_146, r_MRm_chance_147, r_MRm_chance_150, r_MRm_chance_151, r_MRm_chance_153, r_MRm_chance_154, r_MRm_chance_155, r_MRm_chance_158, r_MRm_chance_160, r_MRm_chance_161, r_MRm_chance_164, r_MRm_chance_166, r_MRm_chance_167, r_MRm_chance_168, r_MRm_chance_170, r_MRm_chance_173, sL_0, sL_1, sL_2, mk_i, mk_r, mk_f, mk_n, mk_u, mk_l, List.set_cons_succ, List.set_cons_zero, Nat.reduceAdd, ckS_0, ckS_1, ckS_2, ckS_3, ckS_4, h1, h2, h3, h8, h7, hcl, v1, s0, if_false, if_true, h9, nI_1, qR_81_50, qRd_81_50, qJ_104, qJd_104, Option.isSome_some]
        exact e1
    · have h8 : ¬ nI g ≤ nI i := nI_ge (by omega) (by omega)
      have h7 : nI (N - i) < nI g := nI_lt (by omega) (by omega)
      have h9 : sm N g (i + 1) = sm N g i := by rw [sm, if_neg hc, Nat.add_zero]
      rw [h9] at e1
      simp only [r_MRm_chance_128, r_MRm_chance_129, r_MRm_chance_132, r_MRm_chance_134, r_MRm_chance_135, r_MRm_chance_138, r_MRm_chance_140, r_MRm_chance_141, r_MRm_chance_142, r_MRm_chance_144, r_MRm_chance_146, r_MRm_chance_147, r_MRm_chance_150, r_MRm_chance_151, r_MRm_chance_153, r_MRm_chance_154, r_MRm_chance_155, r_MRm_chance_158, r_MRm_chance_160, r_MRm_chance_161, r_MRm_chance_164, r_MRm_chance_166, r_MRm_chance_167, r_MRm_chance_168, r_MRm_chance_170, r_MRm_chance_173, sL_0, sL_1, sL_2, mk_i, mk_r, mk_f, mk_n, mk_u, mk_l, List.set_cons_succ, List.set_cons_zero, Nat.reduceAdd, ckS_0, ckS_1, ckS_2, ckS_3, ckS_4, h1, h2, h3, h8, h7, hcl, v1, s0, if_false, if_true, nI_1, qR_81_50, qRd_81_50, qJ_104, qJd_104, Option.isSome_some]
      exact e1
set_option maxHeartbeats 4000000 in
theorem m_chance {X : Tok} {d : Nat} {mu : Nat → Nat → Int32} {la : Nat → Nat → Int64} {ro : Nat → Nat → Option Nat} {et : Nat → Option va_E} (n m : Int32) : ∃ la1, Rr X (d + 1) MRm_chance 0 [.ref 81, .int n, .int m, mkU, mkU, mkU, mkU, mkU, mkU] [] (Wd mu la ro et) = some (some (.int (chF n m)), Wd mu la1 ro et) ∧ (∀ a, ¬ a = 104 → la1 a = la a) := by
  unfold chF
  by_cases hn : 1 ≤ n ∧ n ≤ 40
  · by_cases hm : 0 ≤ m ∧ m ≤ n
    · rw [if_pos ⟨hn, hm⟩]
      have hn0 : ¬ n < 0 := fun q => by
        have h1 := hn.1
        rw [Int32.le_iff_toInt_le] at h1
        rw [Int32.lt_iff_toInt_lt] at q
        have e1 : (1 : Int32).toInt = 1 := rfl
        have e2 : (0 : Int32).toInt = 0 := rfl
        omega
      obtain ⟨N, hN, rfl⟩ : ∃ N : Nat, N ≤ 40 ∧ n = nI N := nI_of2 (M := 40) (n := 40) rfl hn0 hn.2
      obtain ⟨K, hK, rfl⟩ : ∃ K : Nat, K ≤ N ∧ m = nI K := nI_of2 (M := nI N) (n := N) (nI_toInt (by omega)) (by rw [Int32.not_lt]; exact hm.1) hm.2
      have hN1 : 1 ≤ N := by
        have h1 := hn.1
        rw [show (1 : Int32) = nI 1 from rfl, nI_leI (by omega) (by omega)] at h1
        exact h1
      rw [nI_clamp (show N < 2 ^ 31 by omega), nI_clamp (show K < 2 ^ 31 by omega)]
      have h2 : nI N - nI K = nI (N - K) := pk_sub hK
      obtain ⟨la1, p1, f1, e1⟩ := mc_init (X := X) (d := d) (mu := mu) (ro := ro) (et := et) (n := nI N) (m := nI K) (g := nI (max K (N - K))) 41 0 la (by omega) (fun j q => absurd q (by omega))
      obtain ⟨la2, l5, p2, p3, f2, e2⟩ := mc_out (X := X) (d := d) (mu := mu) (ro := ro) (et := et) (m := nI K) (g := nI (max K (N - K))) (N := N) hN N 0 la1 mkU (by omega) (fun j q => p1 j (by omega)) (Or.inl rfl)
      have e3 := mc_sum (X := X) (d := d) (mu := mu) (la := la2) (ro := ro) (et := et) (m := nI K) (N := N) (g := max K (N - K)) hN (by omega) p2 (N + 1) 0 (by omega)
      have s0 : lN (sm N (max K (N - K)) 0) = 0 := rfl
      have s1 : lN (sm N 0 0) = 0 := rfl
      rw [s0, s1, nI_0] at e3
      rw [nI_0] at e1 e2
      have hmid : Rr X (d + 1) MRm_chance 36 [.ref 81, .int (nI N), .int (nI K), .int (nI (max K (N - K))), mkU, mkU, mkU, mkU, mkU] [] (Wd mu la ro et) = some (some (.int (lN (sm N (max K (N - K)) (N + 1) * 1000 / 2 ^ N)).toInt32), Wd mu la2 ro et) := by
        simp only [r_MRm_chance_36, r_MRm_chance_37, r_MRm_chance_69, r_MRm_chance_70, r_MRm_chance_117, sL_0, sL_1, sL_2, mk_i, mk_r, mk_f, mk_n, mk_u, mk_l, List.set_cons_succ, List.set_cons_zero, Nat.reduceAdd, ckS_0, ckS_1, ckS_2, ckS_3, ckS_4, e1, e2]
        rcases p3 with rfl | rfl
        · simp only [r_MRm_chance_117, r_MRm_chance_118, r_MRm_chance_120, r_MRm_chance_121, r_MRm_chance_123, r_MRm_chance_124, sL_0, sL_1, sL_2, mk_i, mk_r, mk_f, mk_n, mk_u, mk_l, List.set_cons_succ, List.set_cons_zero, Nat.reduceAdd, ckS_0, ckS_1, ckS_2, ckS_3, ckS_4]
          exact e3
        · simp only [r_MRm_chance_117, r_MRm_chance_118, r_MRm_chance_120, r_MRm_chance_121, r_MRm_chance_123, r_MRm_chance_124, sL_0, sL_1, sL_2, mk_i, mk_r, mk_f, mk_n, mk_u, mk_l, List.set_cons_succ, List.set_cons_zero, Nat.reduceAdd, ckS_0, ckS_1, ckS_2, ckS_3, ckS_4]
          exact e3
      refine ⟨la2, ?_, fun a h => (f2 a h).trans (f1 a h)⟩
      by_cases hc : K ≤ N - K
      · have h4 : nI K ≤ nI (N - K) := nI_le hc (by omega)
        rw [Nat.max_eq_right hc] at hmid ⊢
        simp only [r_MRm_chance_0, r_MRm_chance_1, r_MRm_chance_2, r_MRm_chance_4, r_MRm_chance_7, r_MRm_chance_10, r_MRm_chance_11, r_MRm_chance_12, r_MRm_chance_13, r_MRm_chance_16, r_MRm_chance_19, r_MRm_chance_20, r_MRm_chance_21, r_MRm_chance_22, r_MRm_chance_23, r_MRm_chance_24, r_MRm_chance_25, r_MRm_chance_28, r_MRm_chance_29, r_MRm_chance_32, r_MRm_chance_33, r_MRm_chance_34, r_MRm_chance_35, sL_0, sL_1, sL_2, mk_i, mk_r, mk_f, mk_n, mk_u, mk_l, List.set_cons_succ, List.set_cons_zero, Nat.reduceAdd, ckS_0, ckS_1, ckS_2, ckS_3, ckS_4, e_in, hn, hm, Option.bind_some, psh, and_self, if_true, ite_true, if_false, h2, h4, show ((1 : Int32) = 0) = False from by decide, not_false_eq_true]
        exact hmid
      · have h4 : ¬ nI K ≤ nI (N - K) := nI_ge (by omega) (by omega)
        rw [Nat.max_eq_left (by omega)] at hmid ⊢
        simp only [r_MRm_chance_0, r_MRm_chance_1, r_MRm_chance_2, r_MRm_chance_4, r_MRm_chance_7, r_MRm_chance_10, r_MRm_chance_11, r_MRm_chance_12, r_MRm_chance_13, r_MRm_chance_16, r_MRm_chance_19, r_MRm_chance_20, r_MRm_chance_21, r_MRm_chance_22, r_MRm_chance_23, r_MRm_chance_24, r_MRm_chance_25, r_MRm_chance_28, r_MRm_chance_29, r_MRm_chance_32, r_MRm_chance_33, r_MRm_chance_34, r_MRm_chance_35, sL_0, sL_1, sL_2, mk_i, mk_r, mk_f, mk_n, mk_u, mk_l, List.set_cons_succ, List.set_cons_zero, Nat.reduceAdd, ckS_0, ckS_1, ckS_2, ckS_3, ckS_4, e_in, hn, hm, Option.bind_some, psh, and_self, if_true, ite_true, if_false, h2, h4, show ((1 : Int32) = 0) = False from by decide, not_false_eq_true]
        exact hmid
    · rw [if_neg (fun q => hm q.2)]
      refine ⟨la, ?_, fun _ _ => rfl⟩
      simp [r_MRm_chance_0, r_MRm_chance_1, r_MRm_chance_2, r_MRm_chance_4, r_MRm_chance_7, r_MRm_chance_10, r_MRm_chance_11, r_MRm_chance_12, r_MRm_chance_13, r_MRm_chance_16, r_MRm_chance_19, r_MRm_chance_20, r_MRm_chance_21, r_MRm_chance_22, r_MRm_chance_23, r_MRm_chance_24, r_MRm_chance_25, r_MRm_chance_28, r_MRm_chance_29, r_MRm_chance_32, r_MRm_chance_33, r_MRm_chance_34, r_MRm_chance_35, r_MRm_chance_36, r_MRm_chance_37, r_MRm_chance_39, r_MRm_chance_41, r_MRm_chance_43, r_MRm_chance_46, r_MRm_chance_47, r_MRm_chance_50, r_MRm_chance_52, r_MRm_chance_54, r_MRm_chance_57, r_MRm_chance_58, r_MRm_chance_61, r_MRm_chance_62, r_MRm_chance_63, r_MRm_chance_66, r_MRm_chance_69, r_MRm_chance_70, r_MRm_chance_72, r_MRm_chance_74, r_MRm_chance_75, r_MRm_chance_78, r_MRm_chance_79, r_MRm_chance_81, r_MRm_chance_83, r_MRm_chance_86, r_MRm_chance_87, r_MRm_chance_90, r_MRm_chance_92, r_MRm_chance_93, r_MRm_chance_94, r_MRm_chance_95, r_MRm_chance_98, r_MRm_chance_100, r_MRm_chance_101, r_MRm_chance_102, r_MRm_chance_103, r_MRm_chance_104, r_MRm_chance_105, r_MRm_chance_108, r_MRm_chance_111, r_MRm_chance_114, r_MRm_chance_117, r_MRm_chance_118, r_MRm_chance_120, r_MRm_chance_121, r_MRm_chance_123, r_MRm_chance_124, r_MRm_chance_126, r_MRm_chance_128, r_MRm_chance_129, r_MRm_chance_132, r_MRm_chance_134, r_MRm_chance_135, r_MRm_chance_138, r_MRm_chance_140, r_MRm_chance_141, r_MRm_chance_142, r_MRm_chance_144, r_MRm_chance_146, r_MRm_chance_147, r_MRm_chance_150, r_MRm_chance_151, r_MRm_chance_153, r_MRm_chance_154, r_MRm_chance_155, r_MRm_chance_158, r_MRm_chance_160, r_MRm_chance_161, r_MRm_chance_164, r_MRm_chance_166, r_MRm_chance_167, r_MRm_chance_168, r_MRm_chance_170, r_MRm_chance_173, r_MRm_chance_176, r_MRm_chance_178, r_MRm_chance_181, r_MRm_chance_182, r_MRm_chance_184, r_MRm_chance_185, r_MRm_chance_186, qI_81_0, qI_81_2, qI_81_3, qI_81_9, qI_81_10, qI_81_11, qI_81_12, qI_81_13, qI_81_18, qI_81_19, qI_81_20, qI_81_21, qI_81_29, qI_81_30, qI_81_31, qI_81_32, qI_81_33, qI_81_34, qI_81_35, qI_81_39, qI_81_40, qI_81_41, qI_81_42, qI_81_43, qI_81_44, qI_81_45, qI_81_46, qI_81_47, qI_81_51, qI_81_53, qR_81_1, qRd_81_1, qR_81_4, qRd_81_4, qR_81_5, qRd_81_5, qR_81_6, qRd_81_6, qR_81_7, qRd_81_7, qR_81_8, qRd_81_8, qR_81_14, qRd_81_14, qR_81_15, qRd_81_15, qR_81_16, qRd_81_16, qR_81_17, qRd_81_17, qR_81_22, qRd_81_22, qR_81_23, qRd_81_23, qR_81_24, qRd_81_24, qR_81_25, qRd_81_25, qR_81_26, qRd_81_26, qR_81_27, qRd_81_27, qR_81_28, qRd_81_28, qR_81_36, qRd_81_36, qR_81_37, qRd_81_37, qR_81_38, qRd_81_38, qR_81_48, qRd_81_48, qR_81_49, qRd_81_49, qR_81_50, qRd_81_50, qR_81_52, qRd_81_52, qR_81_54, qRd_81_54, qR_81_55, qRd_81_55, qR_81_56, qRd_81_56, qR_81_57, qRd_81_57, qR_81_58, qRd_81_58, qO_81, ckS_0, ckS_1, ckS_2, ckS_3, ckS_4, Option.isSome_some, sL_0, sL_1, sL_2, mk_i, mk_r, mk_f, mk_n, mk_u, mk_l, ite_bind, Option.bind_some, Option.bind_none, psh, Nat.reduceAdd, Nat.reduceLeDiff, Nat.reduceSub, List.set_cons_succ, List.set_cons_zero, hn, hm, -Int32.not_le, -Int32.not_lt, -not_and, e_in, up2_e]
  · rw [if_neg (fun q => hn q.1)]
    refine ⟨la, ?_, fun _ _ => rfl⟩
    simp [r_MRm_chance_0, r_MRm_chance_1, r_MRm_chance_2, r_MRm_chance_4, r_MRm_chance_7, r_MRm_chance_10, r_MRm_chance_11, r_MRm_chance_12, r_MRm_chance_13, r_MRm_chance_16, r_MRm_chance_19, r_MRm_chance_20, r_MRm_chance_21, r_MRm_chance_22, r_MRm_chance_23, r_MRm_chance_24, r_MRm_chance_25, r_MRm_chance_28, r_MRm_chance_29, r_MRm_chance_32, r_MRm_chance_33, r_MRm_chance_34, r_MRm_chance_35, r_MRm_chance_36, r_MRm_chance_37, r_MRm_chance_39, r_MRm_chance_41, r_MRm_chance_43, r_MRm_chance_46, r_MRm_chance_47, r_MRm_chance_50, r_MRm_chance_52, r_MRm_chance_54, r_MRm_chance_57, r_MRm_chance_58, r_MRm_chance_61, r_MRm_chance_62, r_MRm_chance_63, r_MRm_chance_66, r_MRm_chance_69, r_MRm_chance_70, r_MRm_chance_72, r_MRm_chance_74, r_MRm_chance_75, r_MRm_chance_78, r_MRm_chance_79, r_MRm_chance_81, r_MRm_chance_83, r_MRm_chance_86, r_MRm_chance_87, r_MRm_chance_90, r_MRm_chance_92, r_MRm_chance_93, r_MRm_chance_94, r_MRm_chance_95, r_MRm_chance_98, r_MRm_chance_100, r_MRm_chance_101, r_MRm_chance_102, r_MRm_chance_103, r_MRm_chance_104, r_MRm_chance_105, r_MRm_chance_108, r_MRm_chance_111, r_MRm_chance_114, r_MRm_chance_117, r_MRm_chance_118, r_MRm_chance_120, r_MRm_chance_121, r_MRm_chance_123, r_MRm_chance_124, r_MRm_chance_126, r_MRm_chance_128, r_MRm_chance_129, r_MRm_chance_132, r_MRm_chance_134, r_MRm_chance_135, r_MRm_chance_138, r_MRm_chance_140, r_MRm_chance_141, r_MRm_chance_142, r_MRm_chance_144, r_MRm_chance_146, r_MRm_chance_147, r_MRm_chance_150, r_MRm_chance_151, r_MRm_chance_153, r_MRm_chance_154, r_MRm_chance_155, r_MRm_chance_158, r_MRm_chance_160, r_MRm_chance_161, r_MRm_chance_164, r_MRm_chance_166, r_MRm_chance_167, r_MRm_chance_168, r_MRm_chance_170, r_MRm_chance_173, r_MRm_chance_176, r_MRm_chance_178, r_MRm_chance_181, r_MRm_chance_182, r_MRm_chance_184, r_MRm_chance_185, r_MRm_chance_186, qI_81_0, qI_81_2, qI_81_3, qI_81_9, qI_81_10, qI_81_11, qI_81_12, qI_81_13, qI_81_18, qI_81_19, qI_81_20, qI_81_21, qI_81_29, qI_81_30, qI_81_31, qI_81_32, qI_81_33, qI_81_34, qI_81_35, qI_81_39, qI_81_40, qI_81_41, qI_81_42, qI_81_43, qI_81_44, qI_81_45, qI_81_46, qI_81_47, qI_81_51, qI_81_53, qR_81_1, qRd_81_1, qR_81_4, qRd_81_4, qR_81_5, qRd_81_5, qR_81_6, qRd_81_6, qR_81_7, qRd_81_7, qR_81_8, qRd_81_8, qR_81_14, qRd_81_14, qR_81_15, qRd_81_15, qR_81_16, qRd_81_16, qR_81_17, qRd_81_17, qR_81_22, qRd_81_22, qR_81_23, qRd_81_23, qR_81_24, qRd_81_24, qR_81_25, qRd_81_25, qR_81_26, qRd_81_26, qR_81_27, qRd_81_27, qR_81_28, qRd_81_28, qR_81_36, qRd_81_36, qR_81_37, qRd_81_37, qR_81_38, qRd_81_38, qR_81_48, qRd_81_48, qR_81_49, qRd_81_49, qR_81_50, qRd_81_50, qR_81_52, qRd_81_52, qR_81_54, qRd_81_54, qR_81_55, qRd_81_55, qR_81_56, qRd_81_56, qR_81_57, qRd_81_57, qR_81_58, qRd_81_58, qO_81, ckS_0, ckS_1, ckS_2, ckS_3, ckS_4, Option.isSome_some, sL_0, sL_1, sL_2, mk_i, mk_r, mk_f, mk_n, mk_u, mk_l, ite_bind, Option.bind_some, Option.bind_none, psh, Nat.reduceAdd, Nat.reduceLeDiff, Nat.reduceSub, List.set_cons_succ, List.set_cons_zero, hn, -Int32.not_le, -Int32.not_lt, -not_and, e_in, up2_e]

theorem hand_chC {X : Tok} {et : Nat → Option va_E} {J : Jt} : ctrT ivG J X et h0 := by
  intro d av mu la ro hd ha hg hr hj
  obtain ⟨n, m, rfl⟩ := ap3 ha
  obtain ⟨d, rfl⟩ : ∃ e, d = e + 1 := ⟨d - 1, by have : 3 ≤ d := hd; omega⟩
  exact ⟨_, _, _, _, c_chance n m, hg, hr, hj, frm_r _ _ _ _, resT _⟩
theorem hand_chM {X : Tok} {et : Nat → Option va_E} {J : Jt} (hJ : JS DJ J) : ctrT ivG J X et h7 := by
  intro d av mu la ro hd ha hg hr hj
  obtain ⟨n, m, rfl⟩ := ap3 ha
  obtain ⟨d, rfl⟩ : ∃ e, d = e + 1 := ⟨d - 1, by have : 4 ≤ d := hd; omega⟩
  obtain ⟨la1, e, f⟩ := m_chance (X := X) (d := d) (mu := mu) (la := la) (ro := ro) (et := et) n m
  have fr : frm [(104, 0)] mu la ro mu la1 ro := ⟨fun _ _ _ _ => rfl, fun a h => f a (fun q => by subst q; cases h), fun _ _ _ => rfl, fun _ => rfl⟩
  exact ⟨_, _, _, _, e, hg, hr, hJ _ (by decide) _ _ _ _ _ _ fr hj, fr, resT _⟩
