-- ===== by hand: acts of the class
noncomputable def abN (k : Nat) : Option Nat := match k with
  | 0 => none
  | 1 => some 0
  | 2 => some 0
  | 3 => some 2
  | 4 => some 2
  | 5 => some 1
  | 6 => some 0
  | 7 => some 6
  | _ => none
noncomputable def kI (k : Option Nat) : Int32 := match k with
  | none => -1
  | some k => nI k
noncomputable def ow (k a : Nat) : Int32 := owL.getD (4 * k + a) 0
noncomputable def fndF (a : Nat) : Nat → Option Nat → Option Nat
  | 0, k => k
  | _ + 1, none => none
  | n + 1, some k => if ow k a = 0 then fndF a n (abN k) else some k
noncomputable def askS (s : Nat) (b : Int32) : Nat → Option Nat → Nat → Int32 → List Int32 → Option (Int32 × List Int32)
  | 0, _, _, _, _ => none
  | n + 1, fr, a, x, T => match fndF a 8 fr with
    | none => some (0, T)
    | some k => if ow k a = 0 then some (0, T) else if T.length < 24 then (
      if ow k a = 1 then some (x + b, T ++ [1])
      else if ow k a = 2 then (askS s b n (some s) 1 x (T ++ [2])).bind fun p => (askS s b n (some s) 2 1 p.2).bind fun q => some (p.1 - q.1, q.2)
      else if ow k a = 10 then (askS s b n (some s) 0 x (T ++ [10])).bind fun p => some (p.1 * 2, p.2)
      else if ow k a = 11 then some (x ^^^ b, T ++ [11])
      else if ow k a = 20 then (askS s b n (abN k) 0 x (T ++ [20])).bind fun p => some (p.1 + 3, p.2)
      else if ow k a = 30 then (askS s b n (abN k) 1 x (T ++ [30])).bind fun p => some (-p.1, p.2)
      else if ow k a = 40 then (askS s b n (abN k) 2 x (T ++ [40])).bind fun p => some (p.1 * 3, p.2)
      else if ow k a = 41 then (askS s b n (abN k) 1 (x + 1) (T ++ [41])).bind fun p => some (p.1, p.2)
      else if ow k a = 50 then (askS s b n (abN k) 3 x (T ++ [50])).bind fun p => some (p.1 ^^^ 5, p.2)
      else if ow k a = 60 then (askS s b n (abN k) 0 x (T ++ [60])).bind fun p => some (p.1 * 2, p.2)
      else if ow k a = 61 then (askS s b n (abN k) 2 x (T ++ [61])).bind fun p => (askS s b n (some s) 0 1 p.2).bind fun q => some (p.1 + q.1, q.2)
      else if ow k a = 70 then (askS s b n (abN k) 2 x (T ++ [70])).bind fun p => some (p.1 - 1, p.2)
      else if ow k a = 80 then (askS s b n (abN k) 1 x (T ++ [80])).bind fun p => (askS s b n (some s) 2 2 p.2).bind fun q => some (p.1 + q.1, q.2)
      else if ow k a = 81 then (askS s b n (abN k) 3 x (T ++ [81])).bind fun p => (askS s b n (some s) 0 1 p.2).bind fun q => some (p.1 - q.1, q.2)
      else none) else none
noncomputable abbrev trC : Mu → List Int32 → Mu := trG 16 3 18
section
variable {X : Tok} {d : Nat} {mu mu' : Mu} {la la' : La} {ro ro' : Ro} {et : Nat → Option va_E} {h : Hp}
theorem ab_v : ∀ k, k < 8 → abL.getD k 0 = kI (abN k) := by
  intro k hk
  match k, hk with
  | 0, _ => rfl
  | 1, _ => rfl
  | 2, _ => rfl
  | 3, _ => rfl
  | 4, _ => rfl
  | 5, _ => rfl
  | 6, _ => rfl
  | 7, _ => rfl
theorem abN_lt {k j : Nat} (h : abN k = some j) : j < 8 := by
  unfold abN at h
  split at h <;> cases h <;> omega
theorem e_above {k : Nat} (hE : tEx X) (hk : k < 8) : Rr X d MBo_above 0 [.int (nI k)] [] h = some (some (.int (kI (abN k))), h) := by
  have h1 : ¬ nI k < 0 := nI_pos (by omega)
  have h2 : ¬ Int32.ofNat 8 ≤ nI k := nI_ge (a := k) (b := 8) hk (by omega)
  have c0 : (nI k).toNatClampNeg = k := nI_clamp (by omega)
  have i0 : ¬ 8 ≤ k := by omega
  rw [← ab_v k hk]
  simp only [r_MBo_above_0, r_MBo_above_1, r_MBo_above_4, r_MBo_above_5, r_MBo_above_8, r_MBo_above_8a, r_MBo_above_8o, r_MBo_above_9, r_MBo_above_12, r_MBo_above_15, r_MBo_above_16, r_MBo_above_16a, r_MBo_above_16o, r_MBo_above_17, r_MBo_above_20, r_MBo_above_21, hE.1, hE.2, h1, h2, c0, i0, or_self, if_true, if_false]
theorem e_aboveN : Rr X d MBo_above 0 [.int (-1)] [] h = some (some (.int (-1)), h) := by
  simp only [r_MBo_above_0, r_MBo_above_1, r_MBo_above_4, r_MBo_above_5, r_MBo_above_8, r_MBo_above_8a, r_MBo_above_8o, r_MBo_above_9, r_MBo_above_12, r_MBo_above_15, r_MBo_above_16, r_MBo_above_16a, r_MBo_above_16o, r_MBo_above_17, r_MBo_above_20, r_MBo_above_21, show ((-1 : Int32) < 0) = True by simp, if_true]
theorem e_aboveK {k : Option Nat} (hE : tEx X) (hk : ∀ j, k = some j → j < 8) : Rr X d MBo_above 0 [.int (kI k)] [] h = some (some (.int (kI (k.bind abN))), h) := by
  cases k with
  | none => exact e_aboveN
  | some j => exact e_above hE (hk j rfl)
theorem e_own {k a : Nat} (hE : tEx X) (hk : k < 8) (ha : a < 4) : Rr X d MBo_ownNumber 0 [.int (nI k), .int (nI a), mkU] [] h = some (some (.int (ow k a)), h) := by
  have h1 : ¬ nI k < 0 := nI_pos (by omega)
  have e : nI k * 4 + nI a = nI (4 * k + a) := by rw [show nI k * 4 = nI (k * 4) from (Int32.ofNat_mul k 4).symm, nI_add, Nat.mul_comm]
  have h2 : ¬ nI (4 * k + a) < 0 := nI_pos (by omega)
  have h3 : ¬ Int32.ofNat 32 ≤ nI (4 * k + a) := nI_ge (a := 4 * k + a) (b := 32) (by omega) (by omega)
  have c0 : (nI (4 * k + a)).toNatClampNeg = 4 * k + a := nI_clamp (by omega)
  have i0 : ¬ 32 ≤ 4 * k + a := by omega
  unfold ow
  simp only [r_MBo_ownNumber_0, r_MBo_ownNumber_1, r_MBo_ownNumber_2, r_MBo_ownNumber_3, r_MBo_ownNumber_4, r_MBo_ownNumber_5, r_MBo_ownNumber_6, r_MBo_ownNumber_7, r_MBo_ownNumber_10, r_MBo_ownNumber_11, r_MBo_ownNumber_14, r_MBo_ownNumber_15, r_MBo_ownNumber_18, r_MBo_ownNumber_18a, r_MBo_ownNumber_18o, r_MBo_ownNumber_19, r_MBo_ownNumber_22, r_MBo_ownNumber_25, r_MBo_ownNumber_26, r_MBo_ownNumber_26a, r_MBo_ownNumber_26o, r_MBo_ownNumber_27, r_MBo_ownNumber_30, r_MBo_ownNumber_31, sL_0, sL_1, sL_2, mk_i, mk_r, mk_f, mk_n, mk_u, mk_l, List.set_cons_succ, List.set_cons_zero, Nat.reduceAdd, ckS_0, ckS_1, ckS_2, ckS_3, ckS_4, Option.bind_some, Option.isSome_some, psh, if_true, if_false, hE.1, hE.2, h1, e, h2, h3, c0, i0, or_self]
theorem e_ownN {a : Int32} : Rr X d MBo_ownNumber 0 [.int (-1), .int a, mkU] [] h = some (some (.int 0), h) := by
  simp only [r_MBo_ownNumber_0, r_MBo_ownNumber_1, r_MBo_ownNumber_2, r_MBo_ownNumber_3, r_MBo_ownNumber_4, r_MBo_ownNumber_5, r_MBo_ownNumber_6, r_MBo_ownNumber_7, r_MBo_ownNumber_10, r_MBo_ownNumber_11, r_MBo_ownNumber_14, r_MBo_ownNumber_15, r_MBo_ownNumber_18, r_MBo_ownNumber_18a, r_MBo_ownNumber_18o, r_MBo_ownNumber_19, r_MBo_ownNumber_22, r_MBo_ownNumber_25, r_MBo_ownNumber_26, r_MBo_ownNumber_26a, r_MBo_ownNumber_26o, r_MBo_ownNumber_27, r_MBo_ownNumber_30, r_MBo_ownNumber_31, sL_0, sL_1, sL_2, mk_i, mk_r, mk_f, mk_n, mk_u, mk_l, List.set_cons_succ, List.set_cons_zero, Nat.reduceAdd, ckS_0, ckS_1, ckS_2, ckS_3, ckS_4, Option.bind_some, Option.isSome_some, psh, if_true, if_false, show ((-1 : Int32) < 0) = True by simp]
noncomputable def owK (k : Option Nat) (a : Nat) : Int32 := match k with
  | none => 0
  | some k => ow k a
theorem e_ownK {k : Option Nat} {a : Nat} (hE : tEx X) (hk : ∀ j, k = some j → j < 8) (ha : a < 4) : Rr X d MBo_ownNumber 0 [.int (kI k), .int (nI a), mkU] [] h = some (some (.int (owK k a)), h) := by
  cases k with
  | none => exact e_ownN
  | some j => exact e_own hE (hk j rfl) ha
theorem fnd_lt {a : Nat} : ∀ (n : Nat) (k : Option Nat), (∀ j, k = some j → j < 8) → ∀ j, fndF a n k = some j → j < 8
  | 0, _, h, j, e => h j e
  | _ + 1, none, _, j, e => by cases e
  | n + 1, some k, h, j, e => by
    rw [fndF] at e
    split at e
    · exact fnd_lt n (abN k) (fun i hi => abN_lt hi) j e
    · cases e; exact h k rfl
theorem ask_loop {a : Nat} {fr x de : Int32} (hE : tEx X) (ha : a < 4) : ∀ (n : Nat) (k : Option Nat), n ≤ 8 → (∀ j, k = some j → j < 8) → ∃ l6, l6.category ≠ 2 ∧ Rr X (d + 1) MBo_ask 6 [.ref 16, .int fr, .int (nI a), .int x, .int de, .int (kI k), .int (nI (8 - n))] [] h = Rr X (d + 1) MBo_ask 37 [.ref 16, .int fr, .int (nI a), .int x, .int de, .int (kI (fndF a n k)), l6] [] h
  | 0, k, _, _ => by
    refine ⟨.int (nI 8), by decide, ?_⟩
    rw [r_MBo_ask_6]
    simp only [r_MBo_ask_8, r_MBo_ask_11, r_MBo_ask_11a, r_MBo_ask_11o, r_MBo_ask_12, hE.1, show (Int32.ofNat 8 ≤ nI (8 - 0)) = True by simp; rfl, if_true]
    rfl
  | n + 1, k, hn, hk => by
    have h1 : ¬ Int32.ofNat 8 ≤ nI (8 - (n + 1)) := nI_ge (a := 8 - (n + 1)) (b := 8) (by omega) (by omega)
    have e1 : nI (8 - (n + 1)) + 1 = nI (8 - n) := by rw [nI_1, show 8 - (n + 1) + 1 = 8 - n by omega]
    by_cases c : owK k a = 0
    · obtain ⟨l6, q1, q2⟩ := ask_loop (fr := fr) (x := x) (de := de) hE ha n (k.bind abN) (by omega) (fun j hj => by
        cases k with
        | none => cases hj
        | some i => exact abN_lt hj)
      have ef : fndF a (n + 1) k = fndF a n (k.bind abN) := by
        cases k with
        | none => cases n <;> rfl
        | some i => exact if_pos c
      refine ⟨l6, q1, ?_⟩
      rw [ef, ← q2, r_MBo_ask_6]
      simp only [r_MBo_ask_8, r_MBo_ask_11, r_MBo_ask_11a, r_MBo_ask_11o, r_MBo_ask_12, r_MBo_ask_15, r_MBo_ask_17, r_MBo_ask_18, r_MBo_ask_21, r_MBo_ask_24, r_MBo_ask_26, r_MBo_ask_29, r_MBo_ask_31, r_MBo_ask_34, sL_0, sL_1, sL_2, mk_i, mk_r, mk_f, mk_n, mk_u, mk_l, List.set_cons_succ, List.set_cons_zero, Nat.reduceAdd, ckS_0, ckS_1, ckS_2, ckS_3, ckS_4, Option.bind_some, Option.isSome_some, psh, if_true, if_false, i10, not_true_eq_false, not_false_eq_true, Bool.false_eq_true, and_self, and_true, true_and, eq_self, hE.1, h1, e_ownK hE hk ha, c, e_aboveK hE hk, e1]
    · have ef : fndF a (n + 1) k = k := by
        cases k with
        | none => exact absurd rfl c
        | some i => exact if_neg c
      refine ⟨.int (nI (8 - (n + 1))), fun q => absurd (show (1 : Nat) = 2 from q) (by decide), ?_⟩
      rw [ef, r_MBo_ask_6]
      simp only [r_MBo_ask_8, r_MBo_ask_11, r_MBo_ask_11a, r_MBo_ask_11o, r_MBo_ask_12, r_MBo_ask_15, r_MBo_ask_17, r_MBo_ask_18, r_MBo_ask_21, r_MBo_ask_24, r_MBo_ask_26, r_MBo_ask_29, r_MBo_ask_31, r_MBo_ask_34, sL_0, sL_1, sL_2, mk_i, mk_r, mk_f, mk_n, mk_u, mk_l, List.set_cons_succ, List.set_cons_zero, Nat.reduceAdd, ckS_0, ckS_1, ckS_2, ckS_3, ckS_4, Option.bind_some, Option.isSome_some, psh, if_true, if_false, i10, not_true_eq_false, not_false_eq_true, Bool.false_eq_true, and_self, and_true, true_and, eq_self, hE.1, h1, e_ownK hE hk ha, c]
theorem n_le40 {D n : Nat} (h : D + n ≤ 40) : nI D ≤ 40 := nI_le (a := D) (b := 40) (by omega) (by omega)
set_option maxHeartbeats 4000000 in
theorem e_ask {s : Nat} {b : Int32} (hE : tEx X) (hs : s < 8) (h4 : mu 16 4 = b) (h5 : mu 16 5 = nI s) : ∀ (n d : Nat) (fr : Option Nat) (a D : Nat) (x : Int32) (T : List Int32) (v : Int32) (T' : List Int32), (∀ j, fr = some j → j < 8) → a < 4 → D + n ≤ 40 → askS s b n fr a x T = some (v, T') → Rr X (d + 2 * n + 1) MBo_ask 0 [.ref 16, .int (kI fr), .int (nI a), .int x, .int (nI D), mkU, mkU] [] (Wd (trC mu T) la ro et) = some (some (.int v), Wd (trC mu T') la ro et) := by
  intro n
  induction n with
  | zero => intro d fr a D x T v T' _ _ _ hh; cases hh
  | succ n ih =>
    intro d fr a D x T v T' hfr ha hD hh
    obtain ⟨l6, hl6, lp⟩ := ask_loop (X := X) (d := d + 2 * n + 2) (h := Wd (trC mu T) la ro et) (fr := kI fr) (x := x) (de := nI D) hE ha 8 fr (Nat.le_refl _) hfr
    rw [show 8 - 8 = 0 from rfl, nI_0] at lp
    rw [askS] at hh
    have hk8 := fnd_lt (a := a) 8 fr hfr
    generalize fndF a 8 fr = k at hh lp hk8
    have eo := e_ownK (X := X) (d := d + 2 * n + 2) (h := Wd (trC mu T) la ro et) hE hk8 ha
    show Rr X (d + 2 * n + 2 + 1) MBo_ask 0 _ _ _ = _
    cases k with
    | none =>
      cases hh
      simp only [r_MBo_ask_0, r_MBo_ask_1, r_MBo_ask_3, r_MBo_ask_4, r_MBo_ask_37, r_MBo_ask_39, r_MBo_ask_40, r_MBo_ask_43, r_MBo_ask_45, r_MBo_ask_47, r_MBo_ask_50, r_MBo_ask_52, r_MBo_ask_54, r_MBo_ask_57, r_MBo_ask_58, sL_0, sL_1, sL_2, mk_i, mk_r, mk_f, mk_n, mk_u, mk_l, List.set_cons_succ, List.set_cons_zero, Nat.reduceAdd, ckS_0, ckS_1, ckS_2, ckS_3, ckS_4, Option.bind_some, Option.isSome_some, psh, if_true, if_false, i10, not_true_eq_false, not_false_eq_true, Bool.false_eq_true, and_self, and_true, true_and, eq_self, lp, eo, owK]
    | some k =>
      simp only at hh
      by_cases c0 : ow k a = 0
      · rw [if_pos c0] at hh
        cases hh
        simp only [r_MBo_ask_0, r_MBo_ask_1, r_MBo_ask_3, r_MBo_ask_4, r_MBo_ask_37, r_MBo_ask_39, r_MBo_ask_40, r_MBo_ask_43, r_MBo_ask_45, r_MBo_ask_47, r_MBo_ask_50, r_MBo_ask_52, r_MBo_ask_54, r_MBo_ask_57, r_MBo_ask_58, sL_0, sL_1, sL_2, mk_i, mk_r, mk_f, mk_n, mk_u, mk_l, List.set_cons_succ, List.set_cons_zero, Nat.reduceAdd, ckS_0, ckS_1, ckS_2, ckS_3, ckS_4, Option.bind_some, Option.isSome_some, psh, if_true, if_false, i10, not_true_eq_false, not_false_eq_true, Bool.false_eq_true, and_self, and_true, true_and, eq_self, lp, eo, owK, c0]
      · rw [if_neg c0] at hh
        by_cases c1 : T.length < 24
        · rw [if_pos c1] at hh
          have hkk := hk8 k rfl
          have r0 : ¬ nI T.length < 0 := nI_pos (by omega)
          have r1 : ¬ (24 : Int32) ≤ nI T.length := nI_ge (a := T.length) (b := 24) c1 (by omega)
          have cl : (nI T.length).toNatClampNeg = T.length := nI_clamp (by omega)
          have il : ¬ 24 ≤ T.length := by omega
          have kIs : kI (some k) = nI k := rfl
          rw [kIs] at lp eo
          have hd40 := n_le40 (D := D) (n := n + 1) hD
          have ea := e_above (X := X) (d := d + 2 * n + 2) (h := Wd (trC mu (T ++ [ow k a])) la ro et) hE hkk
          have q3 : up2 (trC mu T) 18 T.length (ow k a) 16 3 = nI T.length := (up2_a (by decide)).trans trG_n
          have body : Rr X (d + 2 * n + 2 + 1) MBo_ask 0 [.ref 16, .int (kI fr), .int (nI a), .int x, .int (nI D), mkU, mkU] [] (Wd (trC mu T) la ro et) = (Rr X (d + 2 * n + 2) MBo_run 0 [.ref 16, .int (ow k a), .int (kI (abN k)), .int x, .int (nI (D + 1))] [] (Wd (trC mu (T ++ [ow k a])) la ro et)).bind fun q => Rr X (d + 2 * n + 2 + 1) MBo_ask 112 [.ref 16, .int (kI fr), .int (nI a), .int x, .int (nI D), .int (kI (some k)), .int (ow k a)] (psh q.1 []) q.2 := by
            have hc1 : l6.category = 1 ∨ ¬ l6.category = 2 := .inr hl6
            simp only [r_MBo_ask_0, r_MBo_ask_1, r_MBo_ask_3, r_MBo_ask_4, r_MBo_ask_37, r_MBo_ask_39, r_MBo_ask_40, r_MBo_ask_43, r_MBo_ask_45, r_MBo_ask_47, r_MBo_ask_50, r_MBo_ask_52, r_MBo_ask_54, r_MBo_ask_57, r_MBo_ask_58, r_MBo_ask_59, r_MBo_ask_60, r_MBo_ask_63, r_MBo_ask_66, r_MBo_ask_67, r_MBo_ask_70, r_MBo_ask_72, r_MBo_ask_75, r_MBo_ask_76, r_MBo_ask_79, r_MBo_ask_80, r_MBo_ask_83, r_MBo_ask_85, r_MBo_ask_86, r_MBo_ask_87, r_MBo_ask_87i, r_MBo_ask_88, r_MBo_ask_91, r_MBo_ask_92, r_MBo_ask_93, r_MBo_ask_96, r_MBo_ask_97, r_MBo_ask_99, r_MBo_ask_101, r_MBo_ask_104, r_MBo_ask_105, r_MBo_ask_107, r_MBo_ask_108, r_MBo_ask_109, sL_0, sL_1, sL_2, mk_i, mk_r, mk_f, mk_n, mk_u, mk_l, List.set_cons_succ, List.set_cons_zero, Nat.reduceAdd, ckS_0, ckS_1, ckS_2, ckS_3, ckS_4, Option.bind_some, Option.isSome_some, psh, if_true, if_false, i10, not_true_eq_false, not_false_eq_true, Bool.false_eq_true, and_self, and_true, true_and, eq_self, lp, eo, owK, c0, hd40, trG_n, r0, r1, qI_16_2, qI_16_3, qI_16_4, qI_16_5, qR_16_0, qRd_16_0, qR_16_1, qRd_16_1, qA_18, qAd_18, qO_16, qL_18, qLd_18, cl, il, nI_1, q3, trG_a (show ¬ 16 = 18 by decide) c1, kIs, ea, or_self]
          rw [body]
          have s4 : ∀ U, trC mu U 16 4 = b := fun U => (trG_o (by decide) (by decide)).trans h4
          have s5 : ∀ U, trC mu U 16 5 = nI s := fun U => (trG_o (by decide) (by decide)).trans h5
          have ihS := fun a x T v T' ha hh => ih d (some s) a (D + 1) x T v T' (fun j hj => by cases hj; exact hs) ha (by omega) hh
          have ihA := fun a x T v T' ha hh => ih d (abN k) a (D + 1) x T v T' (fun j hj => abN_lt hj) ha (by omega) hh
          have n0 : nI 0 = 0 := rfl
          have n1 : nI 1 = 1 := rfl
          have n2 : nI 2 = 2 := rfl
          have n3 : nI 3 = 3 := rfl
          by_cases w1 : ow k a = 1
          · rw [if_pos w1] at hh
            cases hh
            simp only [r_MBo_run_0, r_MBo_run_1_1, r_MBo_run_1_2, r_MBo_run_1_10, r_MBo_run_1_11, r_MBo_run_1_20, r_MBo_run_1_30, r_MBo_run_1_40, r_MBo_run_1_41, r_MBo_run_1_50, r_MBo_run_1_60, r_MBo_run_1_61, r_MBo_run_1_70, r_MBo_run_1_80, r_MBo_run_1_81, r_MBo_run_1_m1, r_MBo_run_124, r_MBo_run_125, r_MBo_run_126, r_MBo_run_129, r_MBo_run_130, r_MBo_run_131, r_MBo_run_132, r_MBo_run_133, r_MBo_run_136, r_MBo_run_137, r_MBo_run_138, r_MBo_run_140, r_MBo_run_143, r_MBo_run_144, r_MBo_run_145, r_MBo_run_148, r_MBo_run_149, r_MBo_run_150, r_MBo_run_152, r_MBo_run_155, r_MBo_run_156, r_MBo_run_157, r_MBo_run_158, r_MBo_run_159, r_MBo_run_162, r_MBo_run_163, r_MBo_run_164, r_MBo_run_166, r_MBo_run_169, r_MBo_run_170, r_MBo_run_171, r_MBo_run_172, r_MBo_run_173, r_MBo_run_174, r_MBo_run_177, r_MBo_run_178, r_MBo_run_179, r_MBo_run_180, r_MBo_run_181, r_MBo_run_182, r_MBo_run_183, r_MBo_run_185, r_MBo_run_188, r_MBo_run_189, r_MBo_run_190, r_MBo_run_191, r_MBo_run_192, r_MBo_run_193, r_MBo_run_194, r_MBo_run_195, r_MBo_run_197, r_MBo_run_200, r_MBo_run_201, r_MBo_run_202, r_MBo_run_203, r_MBo_run_204, r_MBo_run_205, r_MBo_run_206, r_MBo_run_208, r_MBo_run_211, r_MBo_run_212, r_MBo_run_213, r_MBo_run_214, r_MBo_run_215, r_MBo_run_216, r_MBo_run_217, r_MBo_run_218, r_MBo_run_219, r_MBo_run_220, r_MBo_run_222, r_MBo_run_225, r_MBo_run_226, r_MBo_run_227, r_MBo_run_228, r_MBo_run_229, r_MBo_run_230, r_MBo_run_232, r_MBo_run_235, r_MBo_run_236, r_MBo_run_237, r_MBo_run_238, r_MBo_run_239, r_MBo_run_240, r_MBo_run_241, r_MBo_run_242, r_MBo_run_244, r_MBo_run_247, r_MBo_run_248, r_MBo_run_249, r_MBo_run_250, r_MBo_run_251, r_MBo_run_252, r_MBo_run_253, r_MBo_run_254, r_MBo_run_256, r_MBo_run_259, r_MBo_run_260, r_MBo_run_261, r_MBo_run_264, r_MBo_run_265, r_MBo_run_266, r_MBo_run_268, r_MBo_run_271, r_MBo_run_272, r_MBo_run_273, r_MBo_run_274, r_MBo_run_275, r_MBo_run_276, r_MBo_run_277, r_MBo_run_279, r_MBo_run_282, r_MBo_run_283, r_MBo_run_284, r_MBo_run_285, r_MBo_run_286, r_MBo_run_287, r_MBo_run_288, r_MBo_run_289, r_MBo_run_291, r_MBo_run_294, r_MBo_run_295, r_MBo_run_296, r_MBo_run_299, r_MBo_run_300, r_MBo_run_301, r_MBo_run_303, r_MBo_run_306, r_MBo_run_307, r_MBo_run_308, r_MBo_run_309, r_MBo_run_310, r_MBo_run_311, r_MBo_run_312, r_MBo_run_314, r_MBo_run_317, r_MBo_run_318, r_MBo_run_319, r_MBo_run_322, r_MBo_run_323, r_MBo_run_324, r_MBo_run_326, r_MBo_run_329, r_MBo_run_330, r_MBo_run_331, r_MBo_run_332, r_MBo_ask_112, sL_0, sL_1, sL_2, mk_i, mk_r, mk_f, mk_n, mk_u, mk_l, List.set_cons_succ, List.set_cons_zero, Nat.reduceAdd, ckS_0, ckS_1, ckS_2, ckS_3, ckS_4, Option.bind_some, Option.isSome_some, psh, if_true, if_false, i10, not_true_eq_false, not_false_eq_true, Bool.false_eq_true, and_self, and_true, true_and, eq_self, qI_16_2, qI_16_3, qI_16_4, qI_16_5, qR_16_0, qRd_16_0, qR_16_1, qRd_16_1, qO_16, w1, s4]
          rw [if_neg w1] at hh
          by_cases w2 : ow k a = 2
          · rw [if_pos w2] at hh
            obtain ⟨⟨v1, T1⟩, g1, hh⟩ := Option.bind_eq_some_iff.mp hh
            obtain ⟨⟨v2, T2⟩, g2, hh⟩ := Option.bind_eq_some_iff.mp hh
            cases hh
            have i1 := ihS 1 _ _ _ _ (by decide) g1
            rw [n1] at i1
            have i2 := ihS 2 _ _ _ _ (by decide) g2
            rw [n2] at i2
            have s5k : kI (some s) = nI s := rfl
            rw [s5k] at i1; rw [s5k] at i2
            simp only [r_MBo_run_0, r_MBo_run_1_1, r_MBo_run_1_2, r_MBo_run_1_10, r_MBo_run_1_11, r_MBo_run_1_20, r_MBo_run_1_30, r_MBo_run_1_40, r_MBo_run_1_41, r_MBo_run_1_50, r_MBo_run_1_60, r_MBo_run_1_61, r_MBo_run_1_70, r_MBo_run_1_80, r_MBo_run_1_81, r_MBo_run_1_m1, r_MBo_run_124, r_MBo_run_125, r_MBo_run_126, r_MBo_run_129, r_MBo_run_130, r_MBo_run_131, r_MBo_run_132, r_MBo_run_133, r_MBo_run_136, r_MBo_run_137, r_MBo_run_138, r_MBo_run_140, r_MBo_run_143, r_MBo_run_144, r_MBo_run_145, r_MBo_run_148, r_MBo_run_149, r_MBo_run_150, r_MBo_run_152, r_MBo_run_155, r_MBo_run_156, r_MBo_run_157, r_MBo_run_158, r_MBo_run_159, r_MBo_run_162, r_MBo_run_163, r_MBo_run_164, r_MBo_run_166, r_MBo_run_169, r_MBo_run_170, r_MBo_run_171, r_MBo_run_172, r_MBo_run_173, r_MBo_run_174, r_MBo_run_177, r_MBo_run_178, r_MBo_run_179, r_MBo_run_180, r_MBo_run_181, r_MBo_run_182, r_MBo_run_183, r_MBo_run_185, r_MBo_run_188, r_MBo_run_189, r_MBo_run_190, r_MBo_run_191, r_MBo_run_192, r_MBo_run_193, r_MBo_run_194, r_MBo_run_195, r_MBo_run_197, r_MBo_run_200, r_MBo_run_201, r_MBo_run_202, r_MBo_run_203, r_MBo_run_204, r_MBo_run_205, r_MBo_run_206, r_MBo_run_208, r_MBo_run_211, r_MBo_run_212, r_MBo_run_213, r_MBo_run_214, r_MBo_run_215, r_MBo_run_216, r_MBo_run_217, r_MBo_run_218, r_MBo_run_219, r_MBo_run_220, r_MBo_run_222, r_MBo_run_225, r_MBo_run_226, r_MBo_run_227, r_MBo_run_228, r_MBo_run_229, r_MBo_run_230, r_MBo_run_232, r_MBo_run_235, r_MBo_run_236, r_MBo_run_237, r_MBo_run_238, r_MBo_run_239, r_MBo_run_240, r_MBo_run_241, r_MBo_run_242, r_MBo_run_244, r_MBo_run_247, r_MBo_run_248, r_MBo_run_249, r_MBo_run_250, r_MBo_run_251, r_MBo_run_252, r_MBo_run_253, r_MBo_run_254, r_MBo_run_256, r_MBo_run_259, r_MBo_run_260, r_MBo_run_261, r_MBo_run_264, r_MBo_run_265, r_MBo_run_266, r_MBo_run_268, r_MBo_run_271, r_MBo_run_272, r_MBo_run_273, r_MBo_run_274, r_MBo_run_275, r_MBo_run_276, r_MBo_run_277, r_MBo_run_279, r_MBo_run_282, r_MBo_run_283, r_MBo_run_284, r_MBo_run_285, r_MBo_run_286, r_MBo_run_287, r_MBo_run_288, r_MBo_run_289, r_MBo_run_291, r_MBo_run_294, r_MBo_run_295, r_MBo_run_296, r_MBo_run_299, r_MBo_run_300, r_MBo_run_301, r_MBo_run_303, r_MBo_run_306, r_MBo_run_307, r_MBo_run_308, r_MBo_run_309, r_MBo_run_310, r_MBo_run_311, r_MBo_run_312, r_MBo_run_314, r_MBo_run_317, r_MBo_run_318, r_MBo_run_319, r_MBo_run_322, r_MBo_run_323, r_MBo_run_324, r_MBo_run_326, r_MBo_run_329, r_MBo_run_330, r_MBo_run_331, r_MBo_run_332, r_MBo_ask_112, sL_0, sL_1, sL_2, mk_i, mk_r, mk_f, mk_n, mk_u, mk_l, List.set_cons_succ, List.set_cons_zero, Nat.reduceAdd, ckS_0, ckS_1, ckS_2, ckS_3, ckS_4, Option.bind_some, Option.isSome_some, psh, if_true, if_false, i10, not_true_eq_false, not_false_eq_true, Bool.false_eq_true, and_self, and_true, true_and, eq_self, qI_16_2, qI_16_3, qI_16_4, qI_16_5, qR_16_0, qRd_16_0, qR_16_1, qRd_16_1, qO_16, qO_16, w2, s5, i1, i2]
          rw [if_neg w2] at hh
          by_cases w10 : ow k a = 10
          · rw [if_pos w10] at hh
            obtain ⟨⟨v1, T1⟩, g1, hh⟩ := Option.bind_eq_some_iff.mp hh
            cases hh
            have i1 := ihS 0 _ _ _ _ (by decide) g1
            rw [n0] at i1
            have s5k : kI (some s) = nI s := rfl
            rw [s5k] at i1
            simp only [r_MBo_run_0, r_MBo_run_1_1, r_MBo_run_1_2, r_MBo_run_1_10, r_MBo_run_1_11, r_MBo_run_1_20, r_MBo_run_1_30, r_MBo_run_1_40, r_MBo_run_1_41, r_MBo_run_1_50, r_MBo_run_1_60, r_MBo_run_1_61, r_MBo_run_1_70, r_MBo_run_1_80, r_MBo_run_1_81, r_MBo_run_1_m1, r_MBo_run_124, r_MBo_run_125, r_MBo_run_126, r_MBo_run_129, r_MBo_run_130, r_MBo_run_131, r_MBo_run_132, r_MBo_run_133, r_MBo_run_136, r_MBo_run_137, r_MBo_run_138, r_MBo_run_140, r_MBo_run_143, r_MBo_run_144, r_MBo_run_145, r_MBo_run_148, r_MBo_run_149, r_MBo_run_150, r_MBo_run_152, r_MBo_run_155, r_MBo_run_156, r_MBo_run_157, r_MBo_run_158, r_MBo_run_159, r_MBo_run_162, r_MBo_run_163, r_MBo_run_164, r_MBo_run_166, r_MBo_run_169, r_MBo_run_170, r_MBo_run_171, r_MBo_run_172, r_MBo_run_173, r_MBo_run_174, r_MBo_run_177, r_MBo_run_178, r_MBo_run_179, r_MBo_run_180, r_MBo_run_181, r_MBo_run_182, r_MBo_run_183, r_MBo_run_185, r_MBo_run_188, r_MBo_run_189, r_MBo_run_190, r_MBo_run_191, r_MBo_run_192, r_MBo_run_193, r_MBo_run_194, r_MBo_run_195, r_MBo_run_197, r_MBo_run_200, r_MBo_run_201, r_MBo_run_202, r_MBo_run_203, r_MBo_run_204, r_MBo_run_205, r_MBo_run_206, r_MBo_run_208, r_MBo_run_211, r_MBo_run_212, r_MBo_run_213, r_MBo_run_214, r_MBo_run_215, r_MBo_run_216, r_MBo_run_217, r_MBo_run_218, r_MBo_run_219, r_MBo_run_220, r_MBo_run_222, r_MBo_run_225, r_MBo_run_226, r_MBo_run_227, r_MBo_run_228, r_MBo_run_229, r_MBo_run_230, r_MBo_run_232, r_MBo_run_235, r_MBo_run_236, r_MBo_run_237, r_MBo_run_238, r_MBo_run_239, r_MBo_run_240, r_MBo_run_241, r_MBo_run_242, r_MBo_run_244, r_MBo_run_247, r_MBo_run_248, r_MBo_run_249, r_MBo_run_250, r_MBo_run_251, r_MBo_run_252, r_MBo_run_253, r_MBo_run_254, r_MBo_run_256, r_MBo_run_259, r_MBo_run_260, r_MBo_run_261, r_MBo_run_264, r_MBo_run_265, r_MBo_run_266, r_MBo_run_268, r_MBo_run_271, r_MBo_run_272, r_MBo_run_273, r_MBo_run_274, r_MBo_run_275, r_MBo_run_276, r_MBo_run_277, r_MBo_run_279, r_MBo_run_282, r_MBo_run_283, r_MBo_run_284, r_MBo_run_285, r_MBo_run_286, r_MBo_run_287, r_MBo_run_288, r_MBo_run_289, r_MBo_run_291, r_MBo_run_294, r_MBo_run_295, r_MBo_run_296, r_MBo_run_299, r_MBo_run_300, r_MBo_run_301, r_MBo_run_303, r_MBo_run_306, r_MBo_run_307, r_MBo_run_308, r_MBo_run_309, r_MBo_run_310, r_MBo_run_311, r_MBo_run_312, r_MBo_run_314, r_MBo_run_317, r_MBo_run_318, r_MBo_run_319, r_MBo_run_322, r_MBo_run_323, r_MBo_run_324, r_MBo_run_326, r_MBo_run_329, r_MBo_run_330, r_MBo_run_331, r_MBo_run_332, r_MBo_ask_112, sL_0, sL_1, sL_2, mk_i, mk_r, mk_f, mk_n, mk_u, mk_l, List.set_cons_succ, List.set_cons_zero, Nat.reduceAdd, ckS_0, ckS_1, ckS_2, ckS_3, ckS_4, Option.bind_some, Option.isSome_some, psh, if_true, if_false, i10, not_true_eq_false, not_false_eq_true, Bool.false_eq_true, and_self, and_true, true_and, eq_self, qI_16_2, qI_16_3, qI_16_4, qI_16_5, qR_16_0, qRd_16_0, qR_16_1, qRd_16_1, qO_16, qO_16, w10, s5, i1]
          rw [if_neg w10] at hh
          by_cases w11 : ow k a = 11
          · rw [if_pos w11] at hh
            cases hh
            simp only [r_MBo_run_0, r_MBo_run_1_1, r_MBo_run_1_2, r_MBo_run_1_10, r_MBo_run_1_11, r_MBo_run_1_20, r_MBo_run_1_30, r_MBo_run_1_40, r_MBo_run_1_41, r_MBo_run_1_50, r_MBo_run_1_60, r_MBo_run_1_61, r_MBo_run_1_70, r_MBo_run_1_80, r_MBo_run_1_81, r_MBo_run_1_m1, r_MBo_run_124, r_MBo_run_125, r_MBo_run_126, r_MBo_run_129, r_MBo_run_130, r_MBo_run_131, r_MBo_run_132, r_MBo_run_133, r_MBo_run_136, r_MBo_run_137, r_MBo_run_138, r_MBo_run_140, r_MBo_run_143, r_MBo_run_144, r_MBo_run_145, r_MBo_run_148, r_MBo_run_149, r_MBo_run_150, r_MBo_run_152, r_MBo_run_155, r_MBo_run_156, r_MBo_run_157, r_MBo_run_158, r_MBo_run_159, r_MBo_run_162, r_MBo_run_163, r_MBo_run_164, r_MBo_run_166, r_MBo_run_169, r_MBo_run_170, r_MBo_run_171, r_MBo_run_172, r_MBo_run_173, r_MBo_run_174, r_MBo_run_177, r_MBo_run_178, r_MBo_run_179, r_MBo_run_180, r_MBo_run_181, r_MBo_run_182, r_MBo_run_183, r_MBo_run_185, r_MBo_run_188, r_MBo_run_189, r_MBo_run_190, r_MBo_run_191, r_MBo_run_192, r_MBo_run_193, r_MBo_run_194, r_MBo_run_195, r_MBo_run_197, r_MBo_run_200, r_MBo_run_201, r_MBo_run_202, r_MBo_run_203, r_MBo_run_204, r_MBo_run_205, r_MBo_run_206, r_MBo_run_208, r_MBo_run_211, r_MBo_run_212, r_MBo_run_213, r_MBo_run_214, r_MBo_run_215, r_MBo_run_216, r_MBo_run_217, r_MBo_run_218, r_MBo_run_219, r_MBo_run_220, r_MBo_run_222, r_MBo_run_225, r_MBo_run_226, r_MBo_run_227, r_MBo_run_228, r_MBo_run_229, r_MBo_run_230, r_MBo_run_232, r_MBo_run_235, r_MBo_run_236, r_MBo_run_237, r_MBo_run_238, r_MBo_run_239, r_MBo_run_240, r_MBo_run_241, r_MBo_run_242, r_MBo_run_244, r_MBo_run_247, r_MBo_run_248, r_MBo_run_249, r_MBo_run_250, r_MBo_run_251, r_MBo_run_252, r_MBo_run_253, r_MBo_run_254, r_MBo_run_256, r_MBo_run_259, r_MBo_run_260, r_MBo_run_261, r_MBo_run_264, r_MBo_run_265, r_MBo_run_266, r_MBo_run_268, r_MBo_run_271, r_MBo_run_272, r_MBo_run_273, r_MBo_run_274, r_MBo_run_275, r_MBo_run_276, r_MBo_run_277, r_MBo_run_279, r_MBo_run_282, r_MBo_run_283, r_MBo_run_284, r_MBo_run_285, r_MBo_run_286, r_MBo_run_287, r_MBo_run_288, r_MBo_run_289, r_MBo_run_291, r_MBo_run_294, r_MBo_run_295, r_MBo_run_296, r_MBo_run_299, r_MBo_run_300, r_MBo_run_301, r_MBo_run_303, r_MBo_run_306, r_MBo_run_307, r_MBo_run_308, r_MBo_run_309, r_MBo_run_310, r_MBo_run_311, r_MBo_run_312, r_MBo_run_314, r_MBo_run_317, r_MBo_run_318, r_MBo_run_319, r_MBo_run_322, r_MBo_run_323, r_MBo_run_324, r_MBo_run_326, r_MBo_run_329, r_MBo_run_330, r_MBo_run_331, r_MBo_run_332, r_MBo_ask_112, sL_0, sL_1, sL_2, mk_i, mk_r, mk_f, mk_n, mk_u, mk_l, List.set_cons_succ, List.set_cons_zero, Nat.reduceAdd, ckS_0, ckS_1, ckS_2, ckS_3, ckS_4, Option.bind_some, Option.isSome_some, psh, if_true, if_false, i10, not_true_eq_false, not_false_eq_true, Bool.false_eq_true, and_self, and_true, true_and, eq_self, qI_16_2, qI_16_3, qI_16_4, qI_16_5, qR_16_0, qRd_16_0, qR_16_1, qRd_16_1, qO_16, w11, s4]
          rw [if_neg w11] at hh
          by_cases w20 : ow k a = 20
          · rw [if_pos w20] at hh
            obtain ⟨⟨v1, T1⟩, g1, hh⟩ := Option.bind_eq_some_iff.mp hh
            cases hh
            have i1 := ihA 0 _ _ _ _ (by decide) g1
            rw [n0] at i1
            have s5k : kI (some s) = nI s := rfl
            skip
            simp only [r_MBo_run_0, r_MBo_run_1_1, r_MBo_run_1_2, r_MBo_run_1_10, r_MBo_run_1_11, r_MBo_run_1_20, r_MBo_run_1_30, r_MBo_run_1_40, r_MBo_run_1_41, r_MBo_run_1_50, r_MBo_run_1_60, r_MBo_run_1_61, r_MBo_run_1_70, r_MBo_run_1_80, r_MBo_run_1_81, r_MBo_run_1_m1, r_MBo_run_124, r_MBo_run_125, r_MBo_run_126, r_MBo_run_129, r_MBo_run_130, r_MBo_run_131, r_MBo_run_132, r_MBo_run_133, r_MBo_run_136, r_MBo_run_137, r_MBo_run_138, r_MBo_run_140, r_MBo_run_143, r_MBo_run_144, r_MBo_run_145, r_MBo_run_148, r_MBo_run_149, r_MBo_run_150, r_MBo_run_152, r_MBo_run_155, r_MBo_run_156, r_MBo_run_157, r_MBo_run_158, r_MBo_run_159, r_MBo_run_162, r_MBo_run_163, r_MBo_run_164, r_MBo_run_166, r_MBo_run_169, r_MBo_run_170, r_MBo_run_171, r_MBo_run_172, r_MBo_run_173, r_MBo_run_174, r_MBo_run_177, r_MBo_run_178, r_MBo_run_179, r_MBo_run_180, r_MBo_run_181, r_MBo_run_182, r_MBo_run_183, r_MBo_run_185, r_MBo_run_188, r_MBo_run_189, r_MBo_run_190, r_MBo_run_191, r_MBo_run_192, r_MBo_run_193, r_MBo_run_194, r_MBo_run_195, r_MBo_run_197, r_MBo_run_200, r_MBo_run_201, r_MBo_run_202, r_MBo_run_203, r_MBo_run_204, r_MBo_run_205, r_MBo_run_206, r_MBo_run_208, r_MBo_run_211, r_MBo_run_212, r_MBo_run_213, r_MBo_run_214, r_MBo_run_215, r_MBo_run_216, r_MBo_run_217, r_MBo_run_218, r_MBo_run_219, r_MBo_run_220, r_MBo_run_222, r_MBo_run_225, r_MBo_run_226, r_MBo_run_227, r_MBo_run_228, r_MBo_run_229, r_MBo_run_230, r_MBo_run_232, r_MBo_run_235, r_MBo_run_236, r_MBo_run_237, r_MBo_run_238, r_MBo_run_239, r_MBo_run_240, r_MBo_run_241, r_MBo_run_242, r_MBo_run_244, r_MBo_run_247, r_MBo_run_248, r_MBo_run_249, r_MBo_run_250, r_MBo_run_251, r_MBo_run_252, r_MBo_run_253, r_MBo_run_254, r_MBo_run_256, r_MBo_run_259, r_MBo_run_260, r_MBo_run_261, r_MBo_run_264, r_MBo_run_265, r_MBo_run_266, r_MBo_run_268, r_MBo_run_271, r_MBo_run_272, r_MBo_run_273, r_MBo_run_274, r_MBo_run_275, r_MBo_run_276, r_MBo_run_277, r_MBo_run_279, r_MBo_run_282, r_MBo_run_283, r_MBo_run_284, r_MBo_run_285, r_MBo_run_286, r_MBo_run_287, r_MBo_run_288, r_MBo_run_289, r_MBo_run_291, r_MBo_run_294, r_MBo_run_295, r_MBo_run_296, r_MBo_run_299, r_MBo_run_300, r_MBo_run_301, r_MBo_run_303, r_MBo_run_306, r_MBo_run_307, r_MBo_run_308, r_MBo_run_309, r_MBo_run_310, r_MBo_run_311, r_MBo_run_312, r_MBo_run_314, r_MBo_run_317, r_MBo_run_318, r_MBo_run_319, r_MBo_run_322, r_MBo_run_323, r_MBo_run_324, r_MBo_run_326, r_MBo_run_329, r_MBo_run_330, r_MBo_run_331, r_MBo_run_332, r_MBo_ask_112, sL_0, sL_1, sL_2, mk_i, mk_r, mk_f, mk_n, mk_u, mk_l, List.set_cons_succ, List.set_cons_zero, Nat.reduceAdd, ckS_0, ckS_1, ckS_2, ckS_3, ckS_4, Option.bind_some, Option.isSome_some, psh, if_true, if_false, i10, not_true_eq_false, not_false_eq_true, Bool.false_eq_true, and_self, and_true, true_and, eq_self, qI_16_2, qI_16_3, qI_16_4, qI_16_5, qR_16_0, qRd_16_0, qR_16_1, qRd_16_1, qO_16, qO_16, w20, s5, i1]
          rw [if_neg w20] at hh
          by_cases w30 : ow k a = 30
          · rw [if_pos w30] at hh
            obtain ⟨⟨v1, T1⟩, g1, hh⟩ := Option.bind_eq_some_iff.mp hh
            cases hh
            have i1 := ihA 1 _ _ _ _ (by decide) g1
            rw [n1] at i1
            have s5k : kI (some s) = nI s := rfl
            skip
            simp only [r_MBo_run_0, r_MBo_run_1_1, r_MBo_run_1_2, r_MBo_run_1_10, r_MBo_run_1_11, r_MBo_run_1_20, r_MBo_run_1_30, r_MBo_run_1_40, r_MBo_run_1_41, r_MBo_run_1_50, r_MBo_run_1_60, r_MBo_run_1_61, r_MBo_run_1_70, r_MBo_run_1_80, r_MBo_run_1_81, r_MBo_run_1_m1, r_MBo_run_124, r_MBo_run_125, r_MBo_run_126, r_MBo_run_129, r_MBo_run_130, r_MBo_run_131, r_MBo_run_132, r_MBo_run_133, r_MBo_run_136, r_MBo_run_137, r_MBo_run_138, r_MBo_run_140, r_MBo_run_143, r_MBo_run_144, r_MBo_run_145, r_MBo_run_148, r_MBo_run_149, r_MBo_run_150, r_MBo_run_152, r_MBo_run_155, r_MBo_run_156, r_MBo_run_157, r_MBo_run_158, r_MBo_run_159, r_MBo_run_162, r_MBo_run_163, r_MBo_run_164, r_MBo_run_166, r_MBo_run_169, r_MBo_run_170, r_MBo_run_171, r_MBo_run_172, r_MBo_run_173, r_MBo_run_174, r_MBo_run_177, r_MBo_run_178, r_MBo_run_179, r_MBo_run_180, r_MBo_run_181, r_MBo_run_182, r_MBo_run_183, r_MBo_run_185, r_MBo_run_188, r_MBo_run_189, r_MBo_run_190, r_MBo_run_191, r_MBo_run_192, r_MBo_run_193, r_MBo_run_194, r_MBo_run_195, r_MBo_run_197, r_MBo_run_200, r_MBo_run_201, r_MBo_run_202, r_MBo_run_203, r_MBo_run_204, r_MBo_run_205, r_MBo_run_206, r_MBo_run_208, r_MBo_run_211, r_MBo_run_212, r_MBo_run_213, r_MBo_run_214, r_MBo_run_215, r_MBo_run_216, r_MBo_run_217, r_MBo_run_218, r_MBo_run_219, r_MBo_run_220, r_MBo_run_222, r_MBo_run_225, r_MBo_run_226, r_MBo_run_227, r_MBo_run_228, r_MBo_run_229, r_MBo_run_230, r_MBo_run_232, r_MBo_run_235, r_MBo_run_236, r_MBo_run_237, r_MBo_run_238, r_MBo_run_239, r_MBo_run_240, r_MBo_run_241, r_MBo_run_242, r_MBo_run_244, r_MBo_run_247, r_MBo_run_248, r_MBo_run_249, r_MBo_run_250, r_MBo_run_251, r_MBo_run_252, r_MBo_run_253, r_MBo_run_254, r_MBo_run_256, r_MBo_run_259, r_MBo_run_260, r_MBo_run_261, r_MBo_run_264, r_MBo_run_265, r_MBo_run_266, r_MBo_run_268, r_MBo_run_271, r_MBo_run_272, r_MBo_run_273, r_MBo_run_274, r_MBo_run_275, r_MBo_run_276, r_MBo_run_277, r_MBo_run_279, r_MBo_run_282, r_MBo_run_283, r_MBo_run_284, r_MBo_run_285, r_MBo_run_286, r_MBo_run_287, r_MBo_run_288, r_MBo_run_289, r_MBo_run_291, r_MBo_run_294, r_MBo_run_295, r_MBo_run_296, r_MBo_run_299, r_MBo_run_300, r_MBo_run_301, r_MBo_run_303, r_MBo_run_306, r_MBo_run_307, r_MBo_run_308, r_MBo_run_309, r_MBo_run_310, r_MBo_run_311, r_MBo_run_312, r_MBo_run_314, r_MBo_run_317, r_MBo_run_318, r_MBo_run_319, r_MBo_run_322, r_MBo_run_323, r_MBo_run_324, r_MBo_run_326, r_MBo_run_329, r_MBo_run_330, r_MBo_run_331, r_MBo_run_332, r_MBo_ask_112, sL_0, sL_1, sL_2, mk_i, mk_r, mk_f, mk_n, mk_u, mk_l, List.set_cons_succ, List.set_cons_zero, Nat.reduceAdd, ckS_0, ckS_1, ckS_2, ckS_3, ckS_4, Option.bind_some, Option.isSome_some, psh, if_true, if_false, i10, not_true_eq_false, not_false_eq_true, Bool.false_eq_true, and_self, and_true, true_and, eq_self, qI_16_2, qI_16_3, qI_16_4, qI_16_5, qR_16_0, qRd_16_0, qR_16_1, qRd_16_1, qO_16, qO_16, w30, s5, i1]
          rw [if_neg w30] at hh
          by_cases w40 : ow k a = 40
          · rw [if_pos w40] at hh
            obtain ⟨⟨v1, T1⟩, g1, hh⟩ := Option.bind_eq_some_iff.mp hh
            cases hh
            have i1 := ihA 2 _ _ _ _ (by decide) g1
            rw [n2] at i1
            have s5k : kI (some s) = nI s := rfl
            skip
            simp only [r_MBo_run_0, r_MBo_run_1_1, r_MBo_run_1_2, r_MBo_run_1_10, r_MBo_run_1_11, r_MBo_run_1_20, r_MBo_run_1_30, r_MBo_run_1_40, r_MBo_run_1_41, r_MBo_run_1_50, r_MBo_run_1_60, r_MBo_run_1_61, r_MBo_run_1_70, r_MBo_run_1_80, r_MBo_run_1_81, r_MBo_run_1_m1, r_MBo_run_124, r_MBo_run_125, r_MBo_run_126, r_MBo_run_129, r_MBo_run_130, r_MBo_run_131, r_MBo_run_132, r_MBo_run_133, r_MBo_run_136, r_MBo_run_137, r_MBo_run_138, r_MBo_run_140, r_MBo_run_143, r_MBo_run_144, r_MBo_run_145, r_MBo_run_148, r_MBo_run_149, r_MBo_run_150, r_MBo_run_152, r_MBo_run_155, r_MBo_run_156, r_MBo_run_157, r_MBo_run_158, r_MBo_run_159, r_MBo_run_162, r_MBo_run_163, r_MBo_run_164, r_MBo_run_166, r_MBo_run_169, r_MBo_run_170, r_MBo_run_171, r_MBo_run_172, r_MBo_run_173, r_MBo_run_174, r_MBo_run_177, r_MBo_run_178, r_MBo_run_179, r_MBo_run_180, r_MBo_run_181, r_MBo_run_182, r_MBo_run_183, r_MBo_run_185, r_MBo_run_188, r_MBo_run_189, r_MBo_run_190, r_MBo_run_191, r_MBo_run_192, r_MBo_run_193, r_MBo_run_194, r_MBo_run_195, r_MBo_run_197, r_MBo_run_200, r_MBo_run_201, r_MBo_run_202, r_MBo_run_203, r_MBo_run_204, r_MBo_run_205, r_MBo_run_206, r_MBo_run_208, r_MBo_run_211, r_MBo_run_212, r_MBo_run_213, r_MBo_run_214, r_MBo_run_215, r_MBo_run_216, r_MBo_run_217, r_MBo_run_218, r_MBo_run_219, r_MBo_run_220, r_MBo_run_222, r_MBo_run_225, r_MBo_run_226, r_MBo_run_227, r_MBo_run_228, r_MBo_run_229, r_MBo_run_230, r_MBo_run_232, r_MBo_run_235, r_MBo_run_236, r_MBo_run_237, r_MBo_run_238, r_MBo_run_239, r_MBo_run_240, r_MBo_run_241, r_MBo_run_242, r_MBo_run_244, r_MBo_run_247, r_MBo_run_248, r_MBo_run_249, r_MBo_run_250, r_MBo_run_251, r_MBo_run_252, r_MBo_run_253, r_MBo_run_254, r_MBo_run_256, r_MBo_run_259, r_MBo_run_260, r_MBo_run_261, r_MBo_run_264, r_MBo_run_265, r_MBo_run_266, r_MBo_run_268, r_MBo_run_271, r_MBo_run_272, r_MBo_run_273, r_MBo_run_274, r_MBo_run_275, r_MBo_run_276, r_MBo_run_277, r_MBo_run_279, r_MBo_run_282, r_MBo_run_283, r_MBo_run_284, r_MBo_run_285, r_MBo_run_286, r_MBo_run_287, r_MBo_run_288, r_MBo_run_289, r_MBo_run_291, r_MBo_run_294, r_MBo_run_295, r_MBo_run_296, r_MBo_run_299, r_MBo_run_300, r_MBo_run_301, r_MBo_run_303, r_MBo_run_306, r_MBo_run_307, r_MBo_run_308, r_MBo_run_309, r_MBo_run_310, r_MBo_run_311, r_MBo_run_312, r_MBo_run_314, r_MBo_run_317, r_MBo_run_318, r_MBo_run_319, r_MBo_run_322, r_MBo_run_323, r_MBo_run_324, r_MBo_run_326, r_MBo_run_329, r_MBo_run_330, r_MBo_run_331, r_MBo_run_332, r_MBo_ask_112, sL_0, sL_1, sL_2, mk_i, mk_r, mk_f, mk_n, mk_u, mk_l, List.set_cons_succ, List.set_cons_zero, Nat.reduceAdd, ckS_0, ckS_1, ckS_2, ckS_3, ckS_4, Option.bind_some, Option.isSome_some, psh, if_true, if_false, i10, not_true_eq_false, not_false_eq_true, Bool.false_eq_true, and_self, and_true, true_and, eq_self, qI_16_2, qI_16_3, qI_16_4, qI_16_5, qR_16_0, qRd_16_0, qR_16_1, qRd_16_1, qO_16, qO_16, w40, s5, i1]
          rw [if_neg w40] at hh
          by_cases w41 : ow k a = 41
          · rw [if_pos w41] at hh
            obtain ⟨⟨v1, T1⟩, g1, hh⟩ := Option.bind_eq_some_iff.mp hh
            cases hh
            have i1 := ihA 1 _ _ _ _ (by decide) g1
            rw [n1] at i1
            have s5k : kI (some s) = nI s := rfl
            skip
            simp only [r_MBo_run_0, r_MBo_run_1_1, r_MBo_run_1_2, r_MBo_run_1_10, r_MBo_run_1_11, r_MBo_run_1_20, r_MBo_run_1_30, r_MBo_run_1_40, r_MBo_run_1_41, r_MBo_run_1_50, r_MBo_run_1_60, r_MBo_run_1_61, r_MBo_run_1_70, r_MBo_run_1_80, r_MBo_run_1_81, r_MBo_run_1_m1, r_MBo_run_124, r_MBo_run_125, r_MBo_run_126, r_MBo_run_129, r_MBo_run_130, r_MBo_run_131, r_MBo_run_132, r_MBo_run_133, r_MBo_run_136, r_MBo_run_137, r_MBo_run_138, r_MBo_run_140, r_MBo_run_143, r_MBo_run_144, r_MBo_run_145, r_MBo_run_148, r_MBo_run_149, r_MBo_run_150, r_MBo_run_152, r_MBo_run_155, r_MBo_run_156, r_MBo_run_157, r_MBo_run_158, r_MBo_run_159, r_MBo_run_162, r_MBo_run_163, r_MBo_run_164, r_MBo_run_166, r_MBo_run_169, r_MBo_run_170, r_MBo_run_171, r_MBo_run_172, r_MBo_run_173, r_MBo_run_174, r_MBo_run_177, r_MBo_run_178, r_MBo_run_179, r_MBo_run_180, r_MBo_run_181, r_MBo_run_182, r_MBo_run_183, r_MBo_run_185, r_MBo_run_188, r_MBo_run_189, r_MBo_run_190, r_MBo_run_191, r_MBo_run_192, r_MBo_run_193, r_MBo_run_194, r_MBo_run_195, r_MBo_run_197, r_MBo_run_200, r_MBo_run_201, r_MBo_run_202, r_MBo_run_203, r_MBo_run_204, r_MBo_run_205, r_MBo_run_206, r_MBo_run_208, r_MBo_run_211, r_MBo_run_212, r_MBo_run_213, r_MBo_run_214, r_MBo_run_215, r_MBo_run_216, r_MBo_run_217, r_MBo_run_218, r_MBo_run_219, r_MBo_run_220, r_MBo_run_222, r_MBo_run_225, r_MBo_run_226, r_MBo_run_227, r_MBo_run_228, r_MBo_run_229, r_MBo_run_230, r_MBo_run_232, r_MBo_run_235, r_MBo_run_236, r_MBo_run_237, r_MBo_run_238, r_MBo_run_239, r_MBo_run_240, r_MBo_run_241, r_MBo_run_242, r_MBo_run_244, r_MBo_run_247, r_MBo_run_248, r_MBo_run_249, r_MBo_run_250, r_MBo_run_251, r_MBo_run_252, r_MBo_run_253, r_MBo_run_254, r_MBo_run_256, r_MBo_run_259, r_MBo_run_260, r_MBo_run_261, r_MBo_run_264, r_MBo_run_265, r_MBo_run_266, r_MBo_run_268, r_MBo_run_271, r_MBo_run_272, r_MBo_run_273, r_MBo_run_274, r_MBo_run_275, r_MBo_run_276, r_MBo_run_277, r_MBo_run_279, r_MBo_run_282, r_MBo_run_283, r_MBo_run_284, r_MBo_run_285, r_MBo_run_286, r_MBo_run_287, r_MBo_run_288, r_MBo_run_289, r_MBo_run_291, r_MBo_run_294, r_MBo_run_295, r_MBo_run_296, r_MBo_run_299, r_MBo_run_300, r_MBo_run_301, r_MBo_run_303, r_MBo_run_306, r_MBo_run_307, r_MBo_run_308, r_MBo_run_309, r_MBo_run_310, r_MBo_run_311, r_MBo_run_312, r_MBo_run_314, r_MBo_run_317, r_MBo_run_318, r_MBo_run_319, r_MBo_run_322, r_MBo_run_323, r_MBo_run_324, r_MBo_run_326, r_MBo_run_329, r_MBo_run_330, r_MBo_run_331, r_MBo_run_332, r_MBo_ask_112, sL_0, sL_1, sL_2, mk_i, mk_r, mk_f, mk_n, mk_u, mk_l, List.set_cons_succ, List.set_cons_zero, Nat.reduceAdd, ckS_0, ckS_1, ckS_2, ckS_3, ckS_4, Option.bind_some, Option.isSome_some, psh, if_true, if_false, i10, not_true_eq_false, not_false_eq_true, Bool.false_eq_true, and_self, and_true, true_and, eq_self, qI_16_2, qI_16_3, qI_16_4, qI_16_5, qR_16_0, qRd_16_0, qR_16_1, qRd_16_1, qO_16, qO_16, w41, s5, i1]
          rw [if_neg w41] at hh
          by_cases w50 : ow k a = 50
          · rw [if_pos w50] at hh
            obtain ⟨⟨v1, T1⟩, g1, hh⟩ := Option.bind_eq_some_iff.mp hh
            cases hh
            have i1 := ihA 3 _ _ _ _ (by decide) g1
            rw [n3] at i1
            have s5k : kI (some s) = nI s := rfl
            skip
            simp only [r_MBo_run_0, r_MBo_run_1_1, r_MBo_run_1_2, r_MBo_run_1_10, r_MBo_run_1_11, r_MBo_run_1_20, r_MBo_run_1_30, r_MBo_run_1_40, r_MBo_run_1_41, r_MBo_run_1_50, r_MBo_run_1_60, r_MBo_run_1_61, r_MBo_run_1_70, r_MBo_run_1_80, r_MBo_run_1_81, r_MBo_run_1_m1, r_MBo_run_124, r_MBo_run_125, r_MBo_run_126, r_MBo_run_129, r_MBo_run_130, r_MBo_run_131, r_MBo_run_132, r_MBo_run_133, r_MBo_run_136, r_MBo_run_137, r_MBo_run_138, r_MBo_run_140, r_MBo_run_143, r_MBo_run_144, r_MBo_run_145, r_MBo_run_148, r_MBo_run_149, r_MBo_run_150, r_MBo_run_152, r_MBo_run_155, r_MBo_run_156, r_MBo_run_157, r_MBo_run_158, r_MBo_run_159, r_MBo_run_162, r_MBo_run_163, r_MBo_run_164, r_MBo_run_166, r_MBo_run_169, r_MBo_run_170, r_MBo_run_171, r_MBo_run_172, r_MBo_run_173, r_MBo_run_174, r_MBo_run_177, r_MBo_run_178, r_MBo_run_179, r_MBo_run_180, r_MBo_run_181, r_MBo_run_182, r_MBo_run_183, r_MBo_run_185, r_MBo_run_188, r_MBo_run_189, r_MBo_run_190, r_MBo_run_191, r_MBo_run_192, r_MBo_run_193, r_MBo_run_194, r_MBo_run_195, r_MBo_run_197, r_MBo_run_200, r_MBo_run_201, r_MBo_run_202, r_MBo_run_203, r_MBo_run_204, r_MBo_run_205, r_MBo_run_206, r_MBo_run_208, r_MBo_run_211, r_MBo_run_212, r_MBo_run_213, r_MBo_run_214, r_MBo_run_215, r_MBo_run_216, r_MBo_run_217, r_MBo_run_218, r_MBo_run_219, r_MBo_run_220, r_MBo_run_222, r_MBo_run_225, r_MBo_run_226, r_MBo_run_227, r_MBo_run_228, r_MBo_run_229, r_MBo_run_230, r_MBo_run_232, r_MBo_run_235, r_MBo_run_236, r_MBo_run_237, r_MBo_run_238, r_MBo_run_239, r_MBo_run_240, r_MBo_run_241, r_MBo_run_242, r_MBo_run_244, r_MBo_run_247, r_MBo_run_248, r_MBo_run_249, r_MBo_run_250, r_MBo_run_251, r_MBo_run_252, r_MBo_run_253, r_MBo_run_254, r_MBo_run_256, r_MBo_run_259, r_MBo_run_260, r_MBo_run_261, r_MBo_run_264, r_MBo_run_265, r_MBo_run_266, r_MBo_run_268, r_MBo_run_271, r_MBo_run_272, r_MBo_run_273, r_MBo_run_274, r_MBo_run_275, r_MBo_run_276, r_MBo_run_277, r_MBo_run_279, r_MBo_run_282, r_MBo_run_283, r_MBo_run_284, r_MBo_run_285, r_MBo_run_286, r_MBo_run_287, r_MBo_run_288, r_MBo_run_289, r_MBo_run_291, r_MBo_run_294, r_MBo_run_295, r_MBo_run_296, r_MBo_run_299, r_MBo_run_300, r_MBo_run_301, r_MBo_run_303, r_MBo_run_306, r_MBo_run_307, r_MBo_run_308, r_MBo_run_309, r_MBo_run_310, r_MBo_run_311, r_MBo_run_312, r_MBo_run_314, r_MBo_run_317, r_MBo_run_318, r_MBo_run_319, r_MBo_run_322, r_MBo_run_323, r_MBo_run_324, r_MBo_run_326, r_MBo_run_329, r_MBo_run_330, r_MBo_run_331, r_MBo_run_332, r_MBo_ask_112, sL_0, sL_1, sL_2, mk_i, mk_r, mk_f, mk_n, mk_u, mk_l, List.set_cons_succ, List.set_cons_zero, Nat.reduceAdd, ckS_0, ckS_1, ckS_2, ckS_3, ckS_4, Option.bind_some, Option.isSome_some, psh, if_true, if_false, i10, not_true_eq_false, not_false_eq_true, Bool.false_eq_true, and_self, and_true, true_and, eq_self, qI_16_2, qI_16_3, qI_16_4, qI_16_5, qR_16_0, qRd_16_0, qR_16_1, qRd_16_1, qO_16, qO_16, w50, s5, i1]
          rw [if_neg w50] at hh
          by_cases w60 : ow k a = 60
          · rw [if_pos w60] at hh
            obtain ⟨⟨v1, T1⟩, g1, hh⟩ := Option.bind_eq_some_iff.mp hh
            cases hh
            have i1 := ihA 0 _ _ _ _ (by decide) g1
            rw [n0] at i1
            have s5k : kI (some s) = nI s := rfl
            skip
            simp only [r_MBo_run_0, r_MBo_run_1_1, r_MBo_run_1_2, r_MBo_run_1_10, r_MBo_run_1_11, r_MBo_run_1_20, r_MBo_run_1_30, r_MBo_run_1_40, r_MBo_run_1_41, r_MBo_run_1_50, r_MBo_run_1_60, r_MBo_run_1_61, r_MBo_run_1_70, r_MBo_run_1_80, r_MBo_run_1_81, r_MBo_run_1_m1, r_MBo_run_124, r_MBo_run_125, r_MBo_run_126, r_MBo_run_129, r_MBo_run_130, r_MBo_run_131, r_MBo_run_132, r_MBo_run_133, r_MBo_run_136, r_MBo_run_137, r_MBo_run_138, r_MBo_run_140, r_MBo_run_143, r_MBo_run_144, r_MBo_run_145, r_MBo_run_148, r_MBo_run_149, r_MBo_run_150, r_MBo_run_152, r_MBo_run_155, r_MBo_run_156, r_MBo_run_157, r_MBo_run_158, r_MBo_run_159, r_MBo_run_162, r_MBo_run_163, r_MBo_run_164, r_MBo_run_166, r_MBo_run_169, r_MBo_run_170, r_MBo_run_171, r_MBo_run_172, r_MBo_run_173, r_MBo_run_174, r_MBo_run_177, r_MBo_run_178, r_MBo_run_179, r_MBo_run_180, r_MBo_run_181, r_MBo_run_182, r_MBo_run_183, r_MBo_run_185, r_MBo_run_188, r_MBo_run_189, r_MBo_run_190, r_MBo_run_191, r_MBo_run_192, r_MBo_run_193, r_MBo_run_194, r_MBo_run_195, r_MBo_run_197, r_MBo_run_200, r_MBo_run_201, r_MBo_run_202, r_MBo_run_203, r_MBo_run_204, r_MBo_run_205, r_MBo_run_206, r_MBo_run_208, r_MBo_run_211, r_MBo_run_212, r_MBo_run_213, r_MBo_run_214, r_MBo_run_215, r_MBo_run_216, r_MBo_run_217, r_MBo_run_218, r_MBo_run_219, r_MBo_run_220, r_MBo_run_222, r_MBo_run_225, r_MBo_run_226, r_MBo_run_227, r_MBo_run_228, r_MBo_run_229, r_MBo_run_230, r_MBo_run_232, r_MBo_run_235, r_MBo_run_236, r_MBo_run_237, r_MBo_run_238, r_MBo_run_239, r_MBo_run_240, r_MBo_run_241, r_MBo_run_242, r_MBo_run_244, r_MBo_run_247, r_MBo_run_248, r_MBo_run_249, r_MBo_run_250, r_MBo_run_251, r_MBo_run_252, r_MBo_run_253, r_MBo_run_254, r_MBo_run_256, r_MBo_run_259, r_MBo_run_260, r_MBo_run_261, r_MBo_run_264, r_MBo_run_265, r_MBo_run_266, r_MBo_run_268, r_MBo_run_271, r_MBo_run_272, r_MBo_run_273, r_MBo_run_274, r_MBo_run_275, r_MBo_run_276, r_MBo_run_277, r_MBo_run_279, r_MBo_run_282, r_MBo_run_283, r_MBo_run_284, r_MBo_run_285, r_MBo_run_286, r_MBo_run_287, r_MBo_run_288, r_MBo_run_289, r_MBo_run_291, r_MBo_run_294, r_MBo_run_295, r_MBo_run_296, r_MBo_run_299, r_MBo_run_300, r_MBo_run_301, r_MBo_run_303, r_MBo_run_306, r_MBo_run_307, r_MBo_run_308, r_MBo_run_309, r_MBo_run_310, r_MBo_run_311, r_MBo_run_312, r_MBo_run_314, r_MBo_run_317, r_MBo_run_318, r_MBo_run_319, r_MBo_run_322, r_MBo_run_323, r_MBo_run_324, r_MBo_run_326, r_MBo_run_329, r_MBo_run_330, r_MBo_run_331, r_MBo_run_332, r_MBo_ask_112, sL_0, sL_1, sL_2, mk_i, mk_r, mk_f, mk_n, mk_u, mk_l, List.set_cons_succ, List.set_cons_zero, Nat.reduceAdd, ckS_0, ckS_1, ckS_2, ckS_3, ckS_4, Option.bind_some, Option.isSome_some, psh, if_true, if_false, i10, not_true_eq_false, not_false_eq_true, Bool.false_eq_true, and_self, and_true, true_and, eq_self, qI_16_2, qI_16_3, qI_16_4, qI_16_5, qR_16_0, qRd_16_0, qR_16_1, qRd_16_1, qO_16, qO_16, w60, s5, i1]
          rw [if_neg w60] at hh
          by_cases w61 : ow k a = 61
          · rw [if_pos w61] at hh
            obtain ⟨⟨v1, T1⟩, g1, hh⟩ := Option.bind_eq_some_iff.mp hh
            obtain ⟨⟨v2, T2⟩, g2, hh⟩ := Option.bind_eq_some_iff.mp hh
            cases hh
            have i1 := ihA 2 _ _ _ _ (by decide) g1
            rw [n2] at i1
            have i2 := ihS 0 _ _ _ _ (by decide) g2
            rw [n0] at i2
            have s5k : kI (some s) = nI s := rfl
            rw [s5k] at i2
            simp only [r_MBo_run_0, r_MBo_run_1_1, r_MBo_run_1_2, r_MBo_run_1_10, r_MBo_run_1_11, r_MBo_run_1_20, r_MBo_run_1_30, r_MBo_run_1_40, r_MBo_run_1_41, r_MBo_run_1_50, r_MBo_run_1_60, r_MBo_run_1_61, r_MBo_run_1_70, r_MBo_run_1_80, r_MBo_run_1_81, r_MBo_run_1_m1, r_MBo_run_124, r_MBo_run_125, r_MBo_run_126, r_MBo_run_129, r_MBo_run_130, r_MBo_run_131, r_MBo_run_132, r_MBo_run_133, r_MBo_run_136, r_MBo_run_137, r_MBo_run_138, r_MBo_run_140, r_MBo_run_143, r_MBo_run_144, r_MBo_run_145, r_MBo_run_148, r_MBo_run_149, r_MBo_run_150, r_MBo_run_152, r_MBo_run_155, r_MBo_run_156, r_MBo_run_157, r_MBo_run_158, r_MBo_run_159, r_MBo_run_162, r_MBo_run_163, r_MBo_run_164, r_MBo_run_166, r_MBo_run_169, r_MBo_run_170, r_MBo_run_171, r_MBo_run_172, r_MBo_run_173, r_MBo_run_174, r_MBo_run_177, r_MBo_run_178, r_MBo_run_179, r_MBo_run_180, r_MBo_run_181, r_MBo_run_182, r_MBo_run_183, r_MBo_run_185, r_MBo_run_188, r_MBo_run_189, r_MBo_run_190, r_MBo_run_191, r_MBo_run_192, r_MBo_run_193, r_MBo_run_194, r_MBo_run_195, r_MBo_run_197, r_MBo_run_200, r_MBo_run_201, r_MBo_run_202, r_MBo_run_203, r_MBo_run_204, r_MBo_run_205, r_MBo_run_206, r_MBo_run_208, r_MBo_run_211, r_MBo_run_212, r_MBo_run_213, r_MBo_run_214, r_MBo_run_215, r_MBo_run_216, r_MBo_run_217, r_MBo_run_218, r_MBo_run_219, r_MBo_run_220, r_MBo_run_222, r_MBo_run_225, r_MBo_run_226, r_MBo_run_227, r_MBo_run_228, r_MBo_run_229, r_MBo_run_230, r_MBo_run_232, r_MBo_run_235, r_MBo_run_236, r_MBo_run_237, r_MBo_run_238, r_MBo_run_239, r_MBo_run_240, r_MBo_run_241, r_MBo_run_242, r_MBo_run_244, r_MBo_run_247, r_MBo_run_248, r_MBo_run_249, r_MBo_run_250, r_MBo_run_251, r_MBo_run_252, r_MBo_run_253, r_MBo_run_254, r_MBo_run_256, r_MBo_run_259, r_MBo_run_260, r_MBo_run_261, r_MBo_run_264, r_MBo_run_265, r_MBo_run_266, r_MBo_run_268, r_MBo_run_271, r_MBo_run_272, r_MBo_run_273, r_MBo_run_274, r_MBo_run_275, r_MBo_run_276, r_MBo_run_277, r_MBo_run_279, r_MBo_run_282, r_MBo_run_283, r_MBo_run_284, r_MBo_run_285, r_MBo_run_286, r_MBo_run_287, r_MBo_run_288, r_MBo_run_289, r_MBo_run_291, r_MBo_run_294, r_MBo_run_295, r_MBo_run_296, r_MBo_run_299, r_MBo_run_300, r_MBo_run_301, r_MBo_run_303, r_MBo_run_306, r_MBo_run_307, r_MBo_run_308, r_MBo_run_309, r_MBo_run_310, r_MBo_run_311, r_MBo_run_312, r_MBo_run_314, r_MBo_run_317, r_MBo_run_318, r_MBo_run_319, r_MBo_run_322, r_MBo_run_323, r_MBo_run_324, r_MBo_run_326, r_MBo_run_329, r_MBo_run_330, r_MBo_run_331, r_MBo_run_332, r_MBo_ask_112, sL_0, sL_1, sL_2, mk_i, mk_r, mk_f, mk_n, mk_u, mk_l, List.set_cons_succ, List.set_cons_zero, Nat.reduceAdd, ckS_0, ckS_1, ckS_2, ckS_3, ckS_4, Option.bind_some, Option.isSome_some, psh, if_true, if_false, i10, not_true_eq_false, not_false_eq_true, Bool.false_eq_true, and_self, and_true, true_and, eq_self, qI_16_2, qI_16_3, qI_16_4, qI_16_5, qR_16_0, qRd_16_0, qR_16_1, qRd_16_1, qO_16, qO_16, w61, s5, i1, i2]
          rw [if_neg w61] at hh
          by_cases w70 : ow k a = 70
          · rw [if_pos w70] at hh
            obtain ⟨⟨v1, T1⟩, g1, hh⟩ := Option.bind_eq_some_iff.mp hh
            cases hh
            have i1 := ihA 2 _ _ _ _ (by decide) g1
            rw [n2] at i1
            have s5k : kI (some s) = nI s := rfl
            skip
            simp only [r_MBo_run_0, r_MBo_run_1_1, r_MBo_run_1_2, r_MBo_run_1_10, r_MBo_run_1_11, r_MBo_run_1_20, r_MBo_run_1_30, r_MBo_run_1_40, r_MBo_run_1_41, r_MBo_run_1_50, r_MBo_run_1_60, r_MBo_run_1_61, r_MBo_run_1_70, r_MBo_run_1_80, r_MBo_run_1_81, r_MBo_run_1_m1, r_MBo_run_124, r_MBo_run_125, r_MBo_run_126, r_MBo_run_129, r_MBo_run_130, r_MBo_run_131, r_MBo_run_132, r_MBo_run_133, r_MBo_run_136, r_MBo_run_137, r_MBo_run_138, r_MBo_run_140, r_MBo_run_143, r_MBo_run_144, r_MBo_run_145, r_MBo_run_148, r_MBo_run_149, r_MBo_run_150, r_MBo_run_152, r_MBo_run_155, r_MBo_run_156, r_MBo_run_157, r_MBo_run_158, r_MBo_run_159, r_MBo_run_162, r_MBo_run_163, r_MBo_run_164, r_MBo_run_166, r_MBo_run_169, r_MBo_run_170, r_MBo_run_171, r_MBo_run_172, r_MBo_run_173, r_MBo_run_174, r_MBo_run_177, r_MBo_run_178, r_MBo_run_179, r_MBo_run_180, r_MBo_run_181, r_MBo_run_182, r_MBo_run_183, r_MBo_run_185, r_MBo_run_188, r_MBo_run_189, r_MBo_run_190, r_MBo_run_191, r_MBo_run_192, r_MBo_run_193, r_MBo_run_194, r_MBo_run_195, r_MBo_run_197, r_MBo_run_200, r_MBo_run_201, r_MBo_run_202, r_MBo_run_203, r_MBo_run_204, r_MBo_run_205, r_MBo_run_206, r_MBo_run_208, r_MBo_run_211, r_MBo_run_212, r_MBo_run_213, r_MBo_run_214, r_MBo_run_215, r_MBo_run_216, r_MBo_run_217, r_MBo_run_218, r_MBo_run_219, r_MBo_run_220, r_MBo_run_222, r_MBo_run_225, r_MBo_run_226, r_MBo_run_227, r_MBo_run_228, r_MBo_run_229, r_MBo_run_230, r_MBo_run_232, r_MBo_run_235, r_MBo_run_236, r_MBo_run_237, r_MBo_run_238, r_MBo_run_239, r_MBo_run_240, r_MBo_run_241, r_MBo_run_242, r_MBo_run_244, r_MBo_run_247, r_MBo_run_248, r_MBo_run_249, r_MBo_run_250, r_MBo_run_251, r_MBo_run_252, r_MBo_run_253, r_MBo_run_254, r_MBo_run_256, r_MBo_run_259, r_MBo_run_260, r_MBo_run_261, r_MBo_run_264, r_MBo_run_265, r_MBo_run_266, r_MBo_run_268, r_MBo_run_271, r_MBo_run_272, r_MBo_run_273, r_MBo_run_274, r_MBo_run_275, r_MBo_run_276, r_MBo_run_277, r_MBo_run_279, r_MBo_run_282, r_MBo_run_283, r_MBo_run_284, r_MBo_run_285, r_MBo_run_286, r_MBo_run_287, r_MBo_run_288, r_MBo_run_289, r_MBo_run_291, r_MBo_run_294, r_MBo_run_295, r_MBo_run_296, r_MBo_run_299, r_MBo_run_300, r_MBo_run_301, r_MBo_run_303, r_MBo_run_306, r_MBo_run_307, r_MBo_run_308, r_MBo_run_309, r_MBo_run_310, r_MBo_run_311, r_MBo_run_312, r_MBo_run_314, r_MBo_run_317, r_MBo_run_318, r_MBo_run_319, r_MBo_run_322, r_MBo_run_323, r_MBo_run_324, r_MBo_run_326, r_MBo_run_329, r_MBo_run_330, r_MBo_run_331, r_MBo_run_332, r_MBo_ask_112, sL_0, sL_1, sL_2, mk_i, mk_r, mk_f, mk_n, mk_u, mk_l, List.set_cons_succ, List.set_cons_zero, Nat.reduceAdd, ckS_0, ckS_1, ckS_2, ckS_3, ckS_4, Option.bind_some, Option.isSome_some, psh, if_true, if_false, i10, not_true_eq_false, not_false_eq_true, Bool.false_eq_true, and_self, and_true, true_and, eq_self, qI_16_2, qI_16_3, qI_16_4, qI_16_5, qR_16_0, qRd_16_0, qR_16_1, qRd_16_1, qO_16, qO_16, w70, s5, i1]
          rw [if_neg w70] at hh
          by_cases w80 : ow k a = 80
          · rw [if_pos w80] at hh
            obtain ⟨⟨v1, T1⟩, g1, hh⟩ := Option.bind_eq_some_iff.mp hh
            obtain ⟨⟨v2, T2⟩, g2, hh⟩ := Option.bind_eq_some_iff.mp hh
            cases hh
            have i1 := ihA 1 _ _ _ _ (by decide) g1
            rw [n1] at i1
            have i2 := ihS 2 _ _ _ _ (by decide) g2
            rw [n2] at i2
            have s5k : kI (some s) = nI s := rfl
            rw [s5k] at i2
            simp only [r_MBo_run_0, r_MBo_run_1_1, r_MBo_run_1_2, r_MBo_run_1_10, r_MBo_run_1_11, r_MBo_run_1_20, r_MBo_run_1_30, r_MBo_run_1_40, r_MBo_run_1_41, r_MBo_run_1_50, r_MBo_run_1_60, r_MBo_run_1_61, r_MBo_run_1_70, r_MBo_run_1_80, r_MBo_run_1_81, r_MBo_run_1_m1, r_MBo_run_124, r_MBo_run_125, r_MBo_run_126, r_MBo_run_129, r_MBo_run_130, r_MBo_run_131, r_MBo_run_132, r_MBo_run_133, r_MBo_run_136, r_MBo_run_137, r_MBo_run_138, r_MBo_run_140, r_MBo_run_143, r_MBo_run_144, r_MBo_run_145, r_MBo_run_148, r_MBo_run_149, r_MBo_run_150, r_MBo_run_152, r_MBo_run_155, r_MBo_run_156, r_MBo_run_157, r_MBo_run_158, r_MBo_run_159, r_MBo_run_162, r_MBo_run_163, r_MBo_run_164, r_MBo_run_166, r_MBo_run_169, r_MBo_run_170, r_MBo_run_171, r_MBo_run_172, r_MBo_run_173, r_MBo_run_174, r_MBo_run_177, r_MBo_run_178, r_MBo_run_179, r_MBo_run_180, r_MBo_run_181, r_MBo_run_182, r_MBo_run_183, r_MBo_run_185, r_MBo_run_188, r_MBo_run_189, r_MBo_run_190, r_MBo_run_191, r_MBo_run_192, r_MBo_run_193, r_MBo_run_194, r_MBo_run_195, r_MBo_run_197, r_MBo_run_200, r_MBo_run_201, r_MBo_run_202, r_MBo_run_203, r_MBo_run_204, r_MBo_run_205, r_MBo_run_206, r_MBo_run_208, r_MBo_run_211, r_MBo_run_212, r_MBo_run_213, r_MBo_run_214, r_MBo_run_215, r_MBo_run_216, r_MBo_run_217, r_MBo_run_218, r_MBo_run_219, r_MBo_run_220, r_MBo_run_222, r_MBo_run_225, r_MBo_run_226, r_MBo_run_227, r_MBo_run_228, r_MBo_run_229, r_MBo_run_230, r_MBo_run_232, r_MBo_run_235, r_MBo_run_236, r_MBo_run_237, r_MBo_run_238, r_MBo_run_239, r_MBo_run_240, r_MBo_run_241, r_MBo_run_242, r_MBo_run_244, r_MBo_run_247, r_MBo_run_248, r_MBo_run_249, r_MBo_run_250, r_MBo_run_251, r_MBo_run_252, r_MBo_run_253, r_MBo_run_254, r_MBo_run_256, r_MBo_run_259, r_MBo_run_260, r_MBo_run_261, r_MBo_run_264, r_MBo_run_265, r_MBo_run_266, r_MBo_run_268, r_MBo_run_271, r_MBo_run_272, r_MBo_run_273, r_MBo_run_274, r_MBo_run_275, r_MBo_run_276, r_MBo_run_277, r_MBo_run_279, r_MBo_run_282, r_MBo_run_283, r_MBo_run_284, r_MBo_run_285, r_MBo_run_286, r_MBo_run_287, r_MBo_run_288, r_MBo_run_289, r_MBo_run_291, r_MBo_run_294, r_MBo_run_295, r_MBo_run_296, r_MBo_run_299, r_MBo_run_300, r_MBo_run_301, r_MBo_run_303, r_MBo_run_306, r_MBo_run_307, r_MBo_run_308, r_MBo_run_309, r_MBo_run_310, r_MBo_run_311, r_MBo_run_312, r_MBo_run_314, r_MBo_run_317, r_MBo_run_318, r_MBo_run_319, r_MBo_run_322, r_MBo_run_323, r_MBo_run_324, r_MBo_run_326, r_MBo_run_329, r_MBo_run_330, r_MBo_run_331, r_MBo_run_332, r_MBo_ask_112, sL_0, sL_1, sL_2, mk_i, mk_r, mk_f, mk_n, mk_u, mk_l, List.set_cons_succ, List.set_cons_zero, Nat.reduceAdd, ckS_0, ckS_1, ckS_2, ckS_3, ckS_4, Option.bind_some, Option.isSome_some, psh, if_true, if_false, i10, not_true_eq_false, not_false_eq_true, Bool.false_eq_true, and_self, and_true, true_and, eq_self, qI_16_2, qI_16_3, qI_16_4, qI_16_5, qR_16_0, qRd_16_0, qR_16_1, qRd_16_1, qO_16, qO_16, w80, s5, i1, i2]
          rw [if_neg w80] at hh
          by_cases w81 : ow k a = 81
          · rw [if_pos w81] at hh
            obtain ⟨⟨v1, T1⟩, g1, hh⟩ := Option.bind_eq_some_iff.mp hh
            obtain ⟨⟨v2, T2⟩, g2, hh⟩ := Option.bind_eq_some_iff.mp hh
            cases hh
            have i1 := ihA 3 _ _ _ _ (by decide) g1
            rw [n3] at i1
            have i2 := ihS 0 _ _ _ _ (by decide) g2
            rw [n0] at i2
            have s5k : kI (some s) = nI s := rfl
            rw [s5k] at i2
            simp only [r_MBo_run_0, r_MBo_run_1_1, r_MBo_run_1_2, r_MBo_run_1_10, r_MBo_run_1_11, r_MBo_run_1_20, r_MBo_run_1_30, r_MBo_run_1_40, r_MBo_run_1_41, r_MBo_run_1_50, r_MBo_run_1_60, r_MBo_run_1_61, r_MBo_run_1_70, r_MBo_run_1_80, r_MBo_run_1_81, r_MBo_run_1_m1, r_MBo_run_124, r_MBo_run_125, r_MBo_run_126, r_MBo_run_129, r_MBo_run_130, r_MBo_run_131, r_MBo_run_132, r_MBo_run_133, r_MBo_run_136, r_MBo_run_137, r_MBo_run_138, r_MBo_run_140, r_MBo_run_143, r_MBo_run_144, r_MBo_run_145, r_MBo_run_148, r_MBo_run_149, r_MBo_run_150, r_MBo_run_152, r_MBo_run_155, r_MBo_run_156, r_MBo_run_157, r_MBo_run_158, r_MBo_run_159, r_MBo_run_162, r_MBo_run_163, r_MBo_run_164, r_MBo_run_166, r_MBo_run_169, r_MBo_run_170, r_MBo_run_171, r_MBo_run_172, r_MBo_run_173, r_MBo_run_174, r_MBo_run_177, r_MBo_run_178, r_MBo_run_179, r_MBo_run_180, r_MBo_run_181, r_MBo_run_182, r_MBo_run_183, r_MBo_run_185, r_MBo_run_188, r_MBo_run_189, r_MBo_run_190, r_MBo_run_191, r_MBo_run_192, r_MBo_run_193, r_MBo_run_194, r_MBo_run_195, r_MBo_run_197, r_MBo_run_200, r_MBo_run_201, r_MBo_run_202, r_MBo_run_203, r_MBo_run_204, r_MBo_run_205, r_MBo_run_206, r_MBo_run_208, r_MBo_run_211, r_MBo_run_212, r_MBo_run_213, r_MBo_run_214, r_MBo_run_215, r_MBo_run_216, r_MBo_run_217, r_MBo_run_218, r_MBo_run_219, r_MBo_run_220, r_MBo_run_222, r_MBo_run_225, r_MBo_run_226, r_MBo_run_227, r_MBo_run_228, r_MBo_run_229, r_MBo_run_230, r_MBo_run_232, r_MBo_run_235, r_MBo_run_236, r_MBo_run_237, r_MBo_run_238, r_MBo_run_239, r_MBo_run_240, r_MBo_run_241, r_MBo_run_242, r_MBo_run_244, r_MBo_run_247, r_MBo_run_248, r_MBo_run_249, r_MBo_run_250, r_MBo_run_251, r_MBo_run_252, r_MBo_run_253, r_MBo_run_254, r_MBo_run_256, r_MBo_run_259, r_MBo_run_260, r_MBo_run_261, r_MBo_run_264, r_MBo_run_265, r_MBo_run_266, r_MBo_run_268, r_MBo_run_271, r_MBo_run_272, r_MBo_run_273, r_MBo_run_274, r_MBo_run_275, r_MBo_run_276, r_MBo_run_277, r_MBo_run_279, r_MBo_run_282, r_MBo_run_283, r_MBo_run_284, r_MBo_run_285, r_MBo_run_286, r_MBo_run_287, r_MBo_run_288, r_MBo_run_289, r_MBo_run_291, r_MBo_run_294, r_MBo_run_295, r_MBo_run_296, r_MBo_run_299, r_MBo_run_300, r_MBo_run_301, r_MBo_run_303, r_MBo_run_306, r_MBo_run_307, r_MBo_run_308, r_MBo_run_309, r_MBo_run_310, r_MBo_run_311, r_MBo_run_312, r_MBo_run_314, r_MBo_run_317, r_MBo_run_318, r_MBo_run_319, r_MBo_run_322, r_MBo_run_323, r_MBo_run_324, r_MBo_run_326, r_MBo_run_329, r_MBo_run_330, r_MBo_run_331, r_MBo_run_332, r_MBo_ask_112, sL_0, sL_1, sL_2, mk_i, mk_r, mk_f, mk_n, mk_u, mk_l, List.set_cons_succ, List.set_cons_zero, Nat.reduceAdd, ckS_0, ckS_1, ckS_2, ckS_3, ckS_4, Option.bind_some, Option.isSome_some, psh, if_true, if_false, i10, not_true_eq_false, not_false_eq_true, Bool.false_eq_true, and_self, and_true, true_and, eq_self, qI_16_2, qI_16_3, qI_16_4, qI_16_5, qR_16_0, qRd_16_0, qR_16_1, qRd_16_1, qO_16, qO_16, w81, s5, i1, i2]
          rw [if_neg w81] at hh
          cases hh
        · rw [if_neg c1] at hh
          cases hh
end
