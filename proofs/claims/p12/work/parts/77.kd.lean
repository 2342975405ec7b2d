-- ===== a going, tick by tick: the class
noncomputable def sgF (x : Int32) : Int32 := if 0 < x then 1 else if x < 0 then -1 else 0
noncomputable def clF (lo hi q : Int32) : Int32 := if q < lo then lo else if hi < q then hi else q
noncomputable def gnL (r sz rt : Int32) : Int64 := r.toInt64 * sz.toInt64 * rt.toInt64 / 1000000
noncomputable def gnF (s r sz rt : Int32) : Int32 := (if gnL r sz rt < (abF s).toInt64 then gnL r sz rt else (abF s).toInt64).toInt32
noncomputable def nrF (t b : Int32) : Int32 := if 0 < t then t - b else t + b
noncomputable def hrF (x : Int32) : Int32 := clF 0 9999 x
noncomputable def htF (x : Int32) : Int32 := clF (-9999) 9999 x
/-- the class's cells of a going -/
noncomputable def moM (m : Mu) (T : Nat → Int32) : Mu := fun c j => if c = 6 ∧ 7 ≤ j ∧ j ≤ 16 then T j else m c j
noncomputable def grT (k a b : Int32) (T : Nat → Int32) : Nat → Int32 :=
  if 0 < T 7 * k then upd (upd T 8 (hrF (T 8 + gnF (T 7) (T 8) (T 7 * k) a))) 7 (nrF (T 7) (gnF (T 7) (T 8) (T 7 * k) a))
  else if T 7 * k < 0 then upd (upd T 9 (hrF (T 9 + gnF (T 7) (T 9) (-(T 7 * k)) b))) 7 (nrF (T 7) (gnF (T 7) (T 9) (-(T 7 * k)) b))
  else T
noncomputable def phT (k c d : Int32) (T : Nat → Int32) : Nat → Int32 :=
  if k = 0 then T else upd (upd (upd (upd T 8 (T 8 - T 8 * c / 100)) 7 (htF (T 7 - sgF k * (T 8 * c / 100)))) 9 (T 9 - T 9 * d / 100)) 7 (htF (htF (T 7 - sgF k * (T 8 * c / 100)) + sgF k * (T 9 * d / 100)))
noncomputable def loT (l0 l1 l2 : Int32) (T : Nat → Int32) : Nat → Int32 :=
  upd (upd (upd (upd (upd (upd T 7 (nrF (T 7) l0)) 8 (T 8 - l1)) 9 (T 9 - l2)) 14 (T 14 + l0)) 15 (T 15 + l1)) 16 (T 16 + l2)
noncomputable def tuT (T : Nat → Int32) : Nat → Int32 := upd T 13 (T 13 + T 7)
noncomputable def bkT (T : Nat → Int32) : Nat → Int32 := if sgF (T 7) = 0 then T else if sgF (T 7) = -T 11 then upd (upd T 12 (T 12 + 1)) 11 (sgF (T 7)) else upd T 11 (sgF (T 7))
/-- facts of a floor -/
noncomputable def enF (w v s p q t : Int32) : Nat → Int32 := fun k => if k = 0 then w else if k = 1 then v else if k = 2 then s else if k = 3 then p else if k = 4 then q else t
/-- what is lost: a floor's text, or so many hundredths -/
noncomputable def lsV (f : Option (List Ln)) (pc : Int32) (w v s p q t : Int32) : Int32 := match f with
  | some ls => tkV (enF w v (abF s) p q t) ls v
  | none => (v * pc + 99) / 100
noncomputable def lsT (f : Option (List Ln)) (pc : Int32) (T : Nat → Int32) : Nat → Int32 := loT (lsV f pc 0 (abF (T 7)) (T 7) (T 8) (T 9) (T 10)) (lsV f pc 1 (T 8) (T 7) (T 8) (T 9) (T 10)) (lsV f pc 2 (T 9) (T 7) (T 8) (T 9) (T 10)) T
noncomputable def spT (k a b c d : Int32) (f : Option (List Ln)) (pc : Int32) (T : Nat → Int32) : Nat → Int32 := bkT (tuT (lsT f pc (phT k c d (grT k a b (upd T 10 (T 10 + 1))))))
section
variable {X : Tok} {d : Nat} {mu m m' m1 mu' : Mu} {la la' : La} {ro ro' : Ro} {et : Nat → Option va_E} {a F n i j : Nat} {k x y z s r sz rt lo hi q w v pc ca cb cc cd : Int32} {T T' : Nat → Int32} {ls : List Ln} {f : Option (List Ln)}
-- signs, what is held
theorem sh_a (x : Int32) : (x >>> ((31 : Int32) &&& 31)).toInt = x.toInt / 2147483648 := by
  have e : (x >>> ((31 : Int32) &&& 31)).toBitVec = x.toBitVec.sshiftRight' 31#32 := rfl
  show (x >>> ((31 : Int32) &&& 31)).toBitVec.toInt = _
  rw [e, BitVec.toInt_sshiftRight', Int.shiftRight_eq_div_pow]
  rfl
theorem sh_b {n : Nat} (h0 : 0 < n) (h : n < 2 ^ 31) : ((-nI n).toUInt32 >>> ((31 : Int32).toUInt32 &&& Int32.toUInt32 31)).toInt32 = 1 := by
  refine Int32.toBitVec_inj.mp ?_
  have e : ((-nI n).toUInt32 >>> ((31 : Int32).toUInt32 &&& Int32.toUInt32 31)).toInt32.toBitVec = (-nI n).toBitVec >>> 31 := rfl
  rw [e]
  refine BitVec.eq_of_toNat_eq ?_
  have e2 : (-nI n).toBitVec.toNat = 2 ^ 32 - n := by
    show (-(BitVec.ofNat 32 n)).toNat = _
    rw [BitVec.toNat_neg, BitVec.toNat_ofNat]
    omega
  rw [BitVec.toNat_ushiftRight, e2, Nat.shiftRight_eq_div_pow]
  show _ = 1
  omega
theorem sg_eq : ((x >>> ((31 : Int32) &&& 31)) ||| ((-x).toUInt32 >>> ((31 : Int32).toUInt32 &&& Int32.toUInt32 31)).toInt32) = sgF x := by
  unfold sgF
  have hl := Int32.le_toInt x
  have hh := Int32.toInt_lt x
  have e0 : (0 : Int32).toInt = 0 := rfl
  by_cases c : 0 < x
  · have c' := c
    rw [Int32.lt_iff_toInt_lt, e0] at c'
    rw [if_pos c]
    have e1 : x >>> ((31 : Int32) &&& 31) = 0 := Int32.toInt_inj.mp (by rw [sh_a, e0]; omega)
    rw [e1]
    obtain ⟨n, hn0, hn, rfl⟩ : ∃ n : Nat, 0 < n ∧ n < 2 ^ 31 ∧ x = nI n := ⟨x.toInt.toNat, by omega, by omega, Int32.toInt_inj.mp (by rw [nI_toInt (by omega)]; omega)⟩
    rw [sh_b hn0 hn]
    rfl
  · rw [if_neg c]
    by_cases c2 : x < 0
    · have c' := c2
      rw [Int32.lt_iff_toInt_lt, e0] at c'
      rw [if_pos c2]
      have e1 : x >>> ((31 : Int32) &&& 31) = -1 := Int32.toInt_inj.mp (by rw [sh_a, show (-1 : Int32).toInt = -1 from rfl]; omega)
      rw [e1, Int32.neg_one_or]
    · rw [if_neg c2]
      have : x = 0 := Int32.toInt_inj.mp (by
        rw [Int32.lt_iff_toInt_lt, e0] at c c2
        rw [e0]
        omega)
      subst this
      decide
theorem e_sig {h : Hp} : Rr X d MIn_signum 0 [.int x] [] h = some (some (.int (sgF x)), h) := by
  rw [← sg_eq]
  simp only [r_MIn_signum_0, r_MIn_signum_1, r_MIn_signum_3, r_MIn_signum_4, r_MIn_signum_5, r_MIn_signum_6, r_MIn_signum_8, r_MIn_signum_9, r_MIn_signum_10, sL_0, sL_1, sL_2, mk_i, mk_r, mk_f, mk_n, mk_u, mk_l, List.set_cons_succ, List.set_cons_zero, Nat.reduceAdd, ckS_0, ckS_1, ckS_2, ckS_3, ckS_4, Option.bind_some, Option.isSome_some, psh, if_true, if_false, i10, not_true_eq_false, not_false_eq_true, Bool.false_eq_true, and_self, and_true, true_and, eq_self]
theorem cl_mm (h : lo.toInt ≤ hi.toInt) : (if lo < (if q < hi then q else hi) then (if q < hi then q else hi) else lo) = clF lo hi q := by
  unfold clF
  simp only [Int32.lt_iff_toInt_lt]
  by_cases c1 : q.toInt < hi.toInt
  · rw [if_pos c1]
    by_cases c2 : lo.toInt < q.toInt
    · rw [if_pos c2, if_neg (by omega), if_neg (by omega)]
    · rw [if_neg c2]
      by_cases c3 : q.toInt < lo.toInt
      · rw [if_pos c3]
      · rw [if_neg c3, if_neg (by omega)]
        exact Int32.toInt_inj.mp (by omega)
  · rw [if_neg c1]
    by_cases c2 : lo.toInt < hi.toInt
    · rw [if_pos c2, if_neg (by omega)]
      by_cases c3 : hi.toInt < q.toInt
      · rw [if_pos c3]
      · rw [if_neg c3]
        exact Int32.toInt_inj.mp (by omega)
    · rw [if_neg c2]
      by_cases c3 : q.toInt < lo.toInt
      · rw [if_pos c3]
      · rw [if_neg c3]
        by_cases c4 : hi.toInt < q.toInt
        · rw [if_pos c4]
          exact Int32.toInt_inj.mp (by omega)
        · rw [if_neg c4]
          exact Int32.toInt_inj.mp (by omega)
theorem e_heldT {h : Hp} : Rr X (d + 1) MMo_heldTurn 0 [.int x] [] h = some (some (.int (htF x)), h) := by
  unfold htF
  rw [← cl_mm (by decide)]
  simp only [r_MMo_heldTurn_0, r_MMo_heldTurn_3, r_MMo_heldTurn_6, r_MMo_heldTurn_7, r_MMo_heldTurn_10, r_MMo_heldTurn_13, sL_0, sL_1, sL_2, mk_i, mk_r, mk_f, mk_n, mk_u, mk_l, List.set_cons_succ, List.set_cons_zero, Nat.reduceAdd, ckS_0, ckS_1, ckS_2, ckS_3, ckS_4, Option.bind_some, Option.isSome_some, psh, if_true, if_false, i10, not_true_eq_false, not_false_eq_true, Bool.false_eq_true, and_self, and_true, true_and, eq_self]
theorem e_heldR {h : Hp} : Rr X (d + 1) MMo_heldRattle 0 [.int x] [] h = some (some (.int (hrF x)), h) := by
  unfold hrF
  rw [← cl_mm (by decide)]
  simp only [r_MMo_heldRattle_0, r_MMo_heldRattle_1, r_MMo_heldRattle_4, r_MMo_heldRattle_5, r_MMo_heldRattle_8, r_MMo_heldRattle_11, sL_0, sL_1, sL_2, mk_i, mk_r, mk_f, mk_n, mk_u, mk_l, List.set_cons_succ, List.set_cons_zero, Nat.reduceAdd, ckS_0, ckS_1, ckS_2, ckS_3, ckS_4, Option.bind_some, Option.isSome_some, psh, if_true, if_false, i10, not_true_eq_false, not_false_eq_true, Bool.false_eq_true, and_self, and_true, true_and, eq_self]
theorem e_near {h : Hp} : Rr X d MMo_nearer 0 [.int x, .int y] [] h = some (some (.int (nrF x y)), h) := by
  unfold nrF
  by_cases c : 0 < x
  · have c' : ¬ x ≤ 0 := Int32.not_le.mpr c
    rw [if_pos c]
    simp only [r_MMo_nearer_0, r_MMo_nearer_1, r_MMo_nearer_4, r_MMo_nearer_5, r_MMo_nearer_6, r_MMo_nearer_7, r_MMo_nearer_10, r_MMo_nearer_11, r_MMo_nearer_12, r_MMo_nearer_13, sL_0, sL_1, sL_2, mk_i, mk_r, mk_f, mk_n, mk_u, mk_l, List.set_cons_succ, List.set_cons_zero, Nat.reduceAdd, ckS_0, ckS_1, ckS_2, ckS_3, ckS_4, Option.bind_some, Option.isSome_some, psh, if_true, if_false, i10, not_true_eq_false, not_false_eq_true, Bool.false_eq_true, and_self, and_true, true_and, eq_self, c']
  · have c' : x ≤ 0 := Int32.not_lt.mp c
    rw [if_neg c]
    simp only [r_MMo_nearer_0, r_MMo_nearer_1, r_MMo_nearer_4, r_MMo_nearer_5, r_MMo_nearer_6, r_MMo_nearer_7, r_MMo_nearer_10, r_MMo_nearer_11, r_MMo_nearer_12, r_MMo_nearer_13, sL_0, sL_1, sL_2, mk_i, mk_r, mk_f, mk_n, mk_u, mk_l, List.set_cons_succ, List.set_cons_zero, Nat.reduceAdd, ckS_0, ckS_1, ckS_2, ckS_3, ckS_4, Option.bind_some, Option.isSome_some, psh, if_true, if_false, i10, not_true_eq_false, not_false_eq_true, Bool.false_eq_true, and_self, and_true, true_and, eq_self, c']
-- cells of a going
theorem mo_v (h1 : 7 ≤ j) (h2 : j ≤ 16) : moM m T 6 j = T j := if_pos ⟨rfl, h1, h2⟩
theorem mo_k (h1 : j < 7) : moM m T 6 j = m 6 j := if_neg (by omega)
theorem mo_o {c : Nat} (h : ¬ c = 6) : moM m T c j = m c j := if_neg fun q => h q.1
theorem mo_up (h1 : 7 ≤ j) (h2 : j ≤ 16) : up2 (moM m T) 6 j x = moM m (upd T j x) := by
  refine funext fun c => funext fun i => ?_
  rw [up2_e]
  unfold moM
  rw [upd_e]
  by_cases h : c = 6 ∧ 7 ≤ i ∧ i ≤ 16
  · rw [if_pos h, if_pos h]
    by_cases q : i = j
    · rw [if_pos ⟨h.1, q⟩, if_pos q]
    · rw [if_neg (fun z => q z.2), if_neg q]
  · rw [if_neg h, if_neg h, if_neg (fun z => h ⟨z.1, by omega, by omega⟩)]
theorem mo_m : moM m (m 6) = m := by
  refine funext fun c => funext fun i => ?_
  unfold moM
  split
  · rename_i h; rw [h.1]
  · rfl
theorem mo_mo : moM (moM m T) T' = moM m T' := by
  refine funext fun c => funext fun i => ?_
  unfold moM
  split <;> rfl
theorem e_grown {h : Nat} : Rr X (d + 1) MMo_grown 0 [.ref 6, .int r, .int sz, .int rt] [] (Wd (moM m T) la ro et) = some (some (.int (gnF (T 7) r sz rt)), Wd (moM m T) la ro et) := by
  have z : ((1000000 : Int64) = 0) = False := eq_false (by decide)
  have e7 : moM m T 6 7 = T 7 := mo_v (by omega) (by omega)
  unfold gnF gnL abF
  simp only [r_MMo_grown_0, r_MMo_grown_1, r_MMo_grown_4, r_MMo_grown_7, r_MMo_grown_8, r_MMo_grown_9, r_MMo_grown_10, r_MMo_grown_11, r_MMo_grown_12, r_MMo_grown_13, r_MMo_grown_14, r_MMo_grown_15, r_MMo_grown_16, r_MMo_grown_19, r_MMo_grown_20, r_MMo_grown_23, r_MMo_grown_24, sL_0, sL_1, sL_2, mk_i, mk_r, mk_f, mk_n, mk_u, mk_l, List.set_cons_succ, List.set_cons_zero, Nat.reduceAdd, ckS_0, ckS_1, ckS_2, ckS_3, ckS_4, Option.bind_some, Option.isSome_some, psh, if_true, if_false, i10, not_true_eq_false, not_false_eq_true, Bool.false_eq_true, and_self, and_true, true_and, eq_self, qI_6_0, qI_6_1, qI_6_2, qI_6_3, qI_6_4, qI_6_6, qI_6_7, qI_6_8, qI_6_9, qI_6_10, qI_6_11, qI_6_12, qI_6_13, qI_6_14, qI_6_15, qI_6_16, qO_6, qM_6_5, e7, z]
set_option maxHeartbeats 2000000 in
theorem c_grow (h0 : m 6 0 = k) (h1 : m 6 1 = ca) (h2 : m 6 2 = cb) : Rr X (d + 2) MMo_growRattle 0 [.ref 6, mkU, mkU] [] (Wd (moM m T) la ro et) = some (none, Wd (moM m (grT k ca cb T)) la ro et) := by
  have e0 : ∀ T, moM m T 6 0 = k := fun T => (mo_k (by omega)).trans h0
  have e1 : ∀ T, moM m T 6 1 = ca := fun T => (mo_k (by omega)).trans h1
  have e2 : ∀ T, moM m T 6 2 = cb := fun T => (mo_k (by omega)).trans h2
  have e7 : ∀ T, moM m T 6 7 = T 7 := fun T => mo_v (by omega) (by omega)
  have e8 : ∀ T, moM m T 6 8 = T 8 := fun T => mo_v (by omega) (by omega)
  have e9 : ∀ T, moM m T 6 9 = T 9 := fun T => mo_v (by omega) (by omega)
  have u7 : ∀ T x, up2 (moM m T) 6 7 x = moM m (upd T 7 x) := fun T x => mo_up (by omega) (by omega)
  have u8 : ∀ T x, up2 (moM m T) 6 8 x = moM m (upd T 8 x) := fun T x => mo_up (by omega) (by omega)
  have u9 : ∀ T x, up2 (moM m T) 6 9 x = moM m (upd T 9 x) := fun T x => mo_up (by omega) (by omega)
  have eg := fun r sz rt => e_grown (X := X) (d := d) (m := m) (T := T) (la := la) (ro := ro) (et := et) (r := r) (sz := sz) (rt := rt) (h := 0)
  have a7 : ∀ x, upd T 8 x 7 = T 7 := fun x => by rw [upd_e, if_neg (by decide)]
  have b7 : ∀ x, upd T 9 x 7 = T 7 := fun x => by rw [upd_e, if_neg (by decide)]
  unfold grT
  by_cases c : 0 < T 7 * k
  · have c' : ¬ T 7 * k ≤ 0 := Int32.not_le.mpr c
    rw [if_pos c]
    simp only [r_MMo_growRattle_0, r_MMo_growRattle_1, r_MMo_growRattle_4, r_MMo_growRattle_5, r_MMo_growRattle_8, r_MMo_growRattle_9, r_MMo_growRattle_10, r_MMo_growRattle_11, r_MMo_growRattle_14, r_MMo_growRattle_15, r_MMo_growRattle_16, r_MMo_growRattle_19, r_MMo_growRattle_20, r_MMo_growRattle_21, r_MMo_growRattle_24, r_MMo_growRattle_27, r_MMo_growRattle_28, r_MMo_growRattle_29, r_MMo_growRattle_30, r_MMo_growRattle_33, r_MMo_growRattle_34, r_MMo_growRattle_35, r_MMo_growRattle_38, r_MMo_growRattle_41, r_MMo_growRattle_42, r_MMo_growRattle_43, r_MMo_growRattle_46, r_MMo_growRattle_47, r_MMo_growRattle_50, r_MMo_growRattle_53, r_MMo_growRattle_56, r_MMo_growRattle_57, r_MMo_growRattle_60, r_MMo_growRattle_61, r_MMo_growRattle_62, r_MMo_growRattle_65, r_MMo_growRattle_66, r_MMo_growRattle_67, r_MMo_growRattle_68, r_MMo_growRattle_71, r_MMo_growRattle_74, r_MMo_growRattle_75, r_MMo_growRattle_76, r_MMo_growRattle_77, r_MMo_growRattle_80, r_MMo_growRattle_81, r_MMo_growRattle_82, r_MMo_growRattle_85, r_MMo_growRattle_88, r_MMo_growRattle_89, r_MMo_growRattle_90, r_MMo_growRattle_93, r_MMo_growRattle_94, r_MMo_growRattle_97, r_MMo_growRattle_100, sL_0, sL_1, sL_2, mk_i, mk_r, mk_f, mk_n, mk_u, mk_l, List.set_cons_succ, List.set_cons_zero, Nat.reduceAdd, ckS_0, ckS_1, ckS_2, ckS_3, ckS_4, Option.bind_some, Option.isSome_some, psh, if_true, if_false, i10, not_true_eq_false, not_false_eq_true, Bool.false_eq_true, and_self, and_true, true_and, eq_self, qI_6_0, qI_6_1, qI_6_2, qI_6_3, qI_6_4, qI_6_6, qI_6_7, qI_6_8, qI_6_9, qI_6_10, qI_6_11, qI_6_12, qI_6_13, qI_6_14, qI_6_15, qI_6_16, qO_6, qM_6_5, e0, e1, e7, e8, c', eg, e_heldR, u8, a7, e_near, u7]
  · have c' : T 7 * k ≤ 0 := Int32.not_lt.mp c
    rw [if_neg c]
    by_cases c2 : T 7 * k < 0
    · have c2' : ¬ 0 ≤ T 7 * k := Int32.not_le.mpr c2
      rw [if_pos c2]
      simp only [r_MMo_growRattle_0, r_MMo_growRattle_1, r_MMo_growRattle_4, r_MMo_growRattle_5, r_MMo_growRattle_8, r_MMo_growRattle_9, r_MMo_growRattle_10, r_MMo_growRattle_11, r_MMo_growRattle_14, r_MMo_growRattle_15, r_MMo_growRattle_16, r_MMo_growRattle_19, r_MMo_growRattle_20, r_MMo_growRattle_21, r_MMo_growRattle_24, r_MMo_growRattle_27, r_MMo_growRattle_28, r_MMo_growRattle_29, r_MMo_growRattle_30, r_MMo_growRattle_33, r_MMo_growRattle_34, r_MMo_growRattle_35, r_MMo_growRattle_38, r_MMo_growRattle_41, r_MMo_growRattle_42, r_MMo_growRattle_43, r_MMo_growRattle_46, r_MMo_growRattle_47, r_MMo_growRattle_50, r_MMo_growRattle_53, r_MMo_growRattle_56, r_MMo_growRattle_57, r_MMo_growRattle_60, r_MMo_growRattle_61, r_MMo_growRattle_62, r_MMo_growRattle_65, r_MMo_growRattle_66, r_MMo_growRattle_67, r_MMo_growRattle_68, r_MMo_growRattle_71, r_MMo_growRattle_74, r_MMo_growRattle_75, r_MMo_growRattle_76, r_MMo_growRattle_77, r_MMo_growRattle_80, r_MMo_growRattle_81, r_MMo_growRattle_82, r_MMo_growRattle_85, r_MMo_growRattle_88, r_MMo_growRattle_89, r_MMo_growRattle_90, r_MMo_growRattle_93, r_MMo_growRattle_94, r_MMo_growRattle_97, r_MMo_growRattle_100, sL_0, sL_1, sL_2, mk_i, mk_r, mk_f, mk_n, mk_u, mk_l, List.set_cons_succ, List.set_cons_zero, Nat.reduceAdd, ckS_0, ckS_1, ckS_2, ckS_3, ckS_4, Option.bind_some, Option.isSome_some, psh, if_true, if_false, i10, not_true_eq_false, not_false_eq_true, Bool.false_eq_true, and_self, and_true, true_and, eq_self, qI_6_0, qI_6_1, qI_6_2, qI_6_3, qI_6_4, qI_6_6, qI_6_7, qI_6_8, qI_6_9, qI_6_10, qI_6_11, qI_6_12, qI_6_13, qI_6_14, qI_6_15, qI_6_16, qO_6, qM_6_5, e0, e2, e7, e9, c', c2', eg, e_heldR, u9, b7, e_near, u7]
    · have c2' : 0 ≤ T 7 * k := Int32.not_lt.mp c2
      rw [if_neg c2]
      simp only [r_MMo_growRattle_0, r_MMo_growRattle_1, r_MMo_growRattle_4, r_MMo_growRattle_5, r_MMo_growRattle_8, r_MMo_growRattle_9, r_MMo_growRattle_10, r_MMo_growRattle_11, r_MMo_growRattle_14, r_MMo_growRattle_15, r_MMo_growRattle_16, r_MMo_growRattle_19, r_MMo_growRattle_20, r_MMo_growRattle_21, r_MMo_growRattle_24, r_MMo_growRattle_27, r_MMo_growRattle_28, r_MMo_growRattle_29, r_MMo_growRattle_30, r_MMo_growRattle_33, r_MMo_growRattle_34, r_MMo_growRattle_35, r_MMo_growRattle_38, r_MMo_growRattle_41, r_MMo_growRattle_42, r_MMo_growRattle_43, r_MMo_growRattle_46, r_MMo_growRattle_47, r_MMo_growRattle_50, r_MMo_growRattle_53, r_MMo_growRattle_56, r_MMo_growRattle_57, r_MMo_growRattle_60, r_MMo_growRattle_61, r_MMo_growRattle_62, r_MMo_growRattle_65, r_MMo_growRattle_66, r_MMo_growRattle_67, r_MMo_growRattle_68, r_MMo_growRattle_71, r_MMo_growRattle_74, r_MMo_growRattle_75, r_MMo_growRattle_76, r_MMo_growRattle_77, r_MMo_growRattle_80, r_MMo_growRattle_81, r_MMo_growRattle_82, r_MMo_growRattle_85, r_MMo_growRattle_88, r_MMo_growRattle_89, r_MMo_growRattle_90, r_MMo_growRattle_93, r_MMo_growRattle_94, r_MMo_growRattle_97, r_MMo_growRattle_100, sL_0, sL_1, sL_2, mk_i, mk_r, mk_f, mk_n, mk_u, mk_l, List.set_cons_succ, List.set_cons_zero, Nat.reduceAdd, ckS_0, ckS_1, ckS_2, ckS_3, ckS_4, Option.bind_some, Option.isSome_some, psh, if_true, if_false, i10, not_true_eq_false, not_false_eq_true, Bool.false_eq_true, and_self, and_true, true_and, eq_self, qI_6_0, qI_6_1, qI_6_2, qI_6_3, qI_6_4, qI_6_6, qI_6_7, qI_6_8, qI_6_9, qI_6_10, qI_6_11, qI_6_12, qI_6_13, qI_6_14, qI_6_15, qI_6_16, qO_6, qM_6_5, e0, e7, c', c2']
theorem sg_0 : (sgF k = 0) = (k = 0) := by
  unfold sgF
  by_cases c : 0 < k
  · rw [if_pos c]
    exact propext ⟨fun q => absurd q (by decide), fun q => by rw [q] at c; exact absurd c (by decide)⟩
  · rw [if_neg c]
    by_cases c2 : k < 0
    · rw [if_pos c2]
      exact propext ⟨fun q => absurd q (by decide), fun q => by rw [q] at c2; exact absurd c2 (by decide)⟩
    · rw [if_neg c2]
      refine propext ⟨fun _ => ?_, fun _ => rfl⟩
      have e0 : (0 : Int32).toInt = 0 := rfl
      rw [Int32.lt_iff_toInt_lt, e0] at c c2
      exact Int32.toInt_inj.mp (by rw [e0]; omega)
set_option maxHeartbeats 2000000 in
theorem c_push (h0 : m 6 0 = k) (h3 : m 6 3 = cc) (h4 : m 6 4 = cd) : Rr X (d + 2) MMo_pushTurn 0 [.ref 6, mkU, mkU, mkU] [] (Wd (moM m T) la ro et) = some (none, Wd (moM m (phT k cc cd T)) la ro et) := by
  have e0 : ∀ T, moM m T 6 0 = k := fun T => (mo_k (by omega)).trans h0
  have e3 : ∀ T, moM m T 6 3 = cc := fun T => (mo_k (by omega)).trans h3
  have e4 : ∀ T, moM m T 6 4 = cd := fun T => (mo_k (by omega)).trans h4
  have e7 : ∀ T, moM m T 6 7 = T 7 := fun T => mo_v (by omega) (by omega)
  have e8 : ∀ T, moM m T 6 8 = T 8 := fun T => mo_v (by omega) (by omega)
  have e9 : ∀ T, moM m T 6 9 = T 9 := fun T => mo_v (by omega) (by omega)
  have u7 : ∀ T x, up2 (moM m T) 6 7 x = moM m (upd T 7 x) := fun T x => mo_up (by omega) (by omega)
  have u8 : ∀ T x, up2 (moM m T) 6 8 x = moM m (upd T 8 x) := fun T x => mo_up (by omega) (by omega)
  have u9 : ∀ T x, up2 (moM m T) 6 9 x = moM m (upd T 9 x) := fun T x => mo_up (by omega) (by omega)
  have z : ((100 : Int32) = 0) = False := eq_false (by decide)
  unfold phT
  by_cases c : k = 0
  · have zs : (sgF k = 0) = True := by rw [sg_0]; exact eq_true c
    rw [if_pos c]
    simp only [r_MMo_pushTurn_0, r_MMo_pushTurn_1, r_MMo_pushTurn_4, r_MMo_pushTurn_7, r_MMo_pushTurn_8, r_MMo_pushTurn_9, r_MMo_pushTurn_12, r_MMo_pushTurn_13, r_MMo_pushTurn_14, r_MMo_pushTurn_17, r_MMo_pushTurn_18, r_MMo_pushTurn_21, r_MMo_pushTurn_22, r_MMo_pushTurn_24, r_MMo_pushTurn_25, r_MMo_pushTurn_26, r_MMo_pushTurn_27, r_MMo_pushTurn_27i, r_MMo_pushTurn_28, r_MMo_pushTurn_31, r_MMo_pushTurn_32, r_MMo_pushTurn_33, r_MMo_pushTurn_36, r_MMo_pushTurn_37, r_MMo_pushTurn_38, r_MMo_pushTurn_41, r_MMo_pushTurn_42, r_MMo_pushTurn_43, r_MMo_pushTurn_44, r_MMo_pushTurn_45, r_MMo_pushTurn_48, r_MMo_pushTurn_51, r_MMo_pushTurn_52, r_MMo_pushTurn_55, r_MMo_pushTurn_56, r_MMo_pushTurn_59, r_MMo_pushTurn_60, r_MMo_pushTurn_62, r_MMo_pushTurn_63, r_MMo_pushTurn_64, r_MMo_pushTurn_65, r_MMo_pushTurn_65i, r_MMo_pushTurn_66, r_MMo_pushTurn_69, r_MMo_pushTurn_70, r_MMo_pushTurn_71, r_MMo_pushTurn_74, r_MMo_pushTurn_75, r_MMo_pushTurn_76, r_MMo_pushTurn_79, r_MMo_pushTurn_80, r_MMo_pushTurn_81, r_MMo_pushTurn_82, r_MMo_pushTurn_83, r_MMo_pushTurn_86, r_MMo_pushTurn_89, sL_0, sL_1, sL_2, mk_i, mk_r, mk_f, mk_n, mk_u, mk_l, List.set_cons_succ, List.set_cons_zero, Nat.reduceAdd, ckS_0, ckS_1, ckS_2, ckS_3, ckS_4, Option.bind_some, Option.isSome_some, psh, if_true, if_false, i10, not_true_eq_false, not_false_eq_true, Bool.false_eq_true, and_self, and_true, true_and, eq_self, qI_6_0, qI_6_1, qI_6_2, qI_6_3, qI_6_4, qI_6_6, qI_6_7, qI_6_8, qI_6_9, qI_6_10, qI_6_11, qI_6_12, qI_6_13, qI_6_14, qI_6_15, qI_6_16, qO_6, qM_6_5, e0, e_sig, zs]
  · have zs : (sgF k = 0) = False := by rw [sg_0]; exact eq_false c
    rw [if_neg c]
    have d79 : ((7 : Nat) = 9) = False := by simp
    have d78 : ((7 : Nat) = 8) = False := by simp
    have d97 : ((9 : Nat) = 7) = False := by simp
    have d98 : ((9 : Nat) = 8) = False := by simp
    simp only [r_MMo_pushTurn_0, r_MMo_pushTurn_1, r_MMo_pushTurn_4, r_MMo_pushTurn_7, r_MMo_pushTurn_8, r_MMo_pushTurn_9, r_MMo_pushTurn_12, r_MMo_pushTurn_13, r_MMo_pushTurn_14, r_MMo_pushTurn_17, r_MMo_pushTurn_18, r_MMo_pushTurn_21, r_MMo_pushTurn_22, r_MMo_pushTurn_24, r_MMo_pushTurn_25, r_MMo_pushTurn_26, r_MMo_pushTurn_27, r_MMo_pushTurn_27i, r_MMo_pushTurn_28, r_MMo_pushTurn_31, r_MMo_pushTurn_32, r_MMo_pushTurn_33, r_MMo_pushTurn_36, r_MMo_pushTurn_37, r_MMo_pushTurn_38, r_MMo_pushTurn_41, r_MMo_pushTurn_42, r_MMo_pushTurn_43, r_MMo_pushTurn_44, r_MMo_pushTurn_45, r_MMo_pushTurn_48, r_MMo_pushTurn_51, r_MMo_pushTurn_52, r_MMo_pushTurn_55, r_MMo_pushTurn_56, r_MMo_pushTurn_59, r_MMo_pushTurn_60, r_MMo_pushTurn_62, r_MMo_pushTurn_63, r_MMo_pushTurn_64, r_MMo_pushTurn_65, r_MMo_pushTurn_65i, r_MMo_pushTurn_66, r_MMo_pushTurn_69, r_MMo_pushTurn_70, r_MMo_pushTurn_71, r_MMo_pushTurn_74, r_MMo_pushTurn_75, r_MMo_pushTurn_76, r_MMo_pushTurn_79, r_MMo_pushTurn_80, r_MMo_pushTurn_81, r_MMo_pushTurn_82, r_MMo_pushTurn_83, r_MMo_pushTurn_86, r_MMo_pushTurn_89, sL_0, sL_1, sL_2, mk_i, mk_r, mk_f, mk_n, mk_u, mk_l, List.set_cons_succ, List.set_cons_zero, Nat.reduceAdd, ckS_0, ckS_1, ckS_2, ckS_3, ckS_4, Option.bind_some, Option.isSome_some, psh, if_true, if_false, i10, not_true_eq_false, not_false_eq_true, Bool.false_eq_true, and_self, and_true, true_and, eq_self, qI_6_0, qI_6_1, qI_6_2, qI_6_3, qI_6_4, qI_6_6, qI_6_7, qI_6_8, qI_6_9, qI_6_10, qI_6_11, qI_6_12, qI_6_13, qI_6_14, qI_6_15, qI_6_16, qO_6, qM_6_5, e0, e_sig, zs, e3, e4, e7, e8, e9, z, u7, u8, u9, e_heldT, upd_e, d79, d78, d97, d98]
-- what is lost
theorem lsV_n : lsV none pc w v s x y z = (v * pc + 99) / 100 := rfl
theorem lsV_s : lsV (some ls) pc w v s x y z = tkV (enF w v (abF s) x y z) ls v := rfl
set_option maxHeartbeats 4000000 in
theorem c_lose_n (h5 : va_rf (ro 6 5) = .null) (h6 : m 6 6 = pc) : Rr X (d + 3) MMo_lose 0 [.ref 6, mkU, mkU, mkU] [] (Wd (moM m T) la ro et) = some (none, Wd (moM m (lsT none pc T)) la ro et) := by
  have e6 : ∀ T, moM m T 6 6 = pc := fun T => (mo_k (by omega)).trans h6
  have z : ((100 : Int32) = 0) = False := eq_false (by decide)
  have eo : ∀ T w v, Rr X (d + 2) MMo_lossOf 0 [.ref 6, .int w, .int v] [] (Wd (moM m T) la ro et) = some (some (.int ((v * pc + 99) / 100)), Wd (moM m T) la ro et) := fun T w v => by
    simp only [r_MMo_lossOf_0, r_MMo_lossOf_1, r_MMo_lossOf_4, r_MMo_lossOf_4n, r_MMo_lossOf_7, r_MMo_lossOf_8, r_MMo_lossOf_11, r_MMo_lossOf_12, r_MMo_lossOf_13, r_MMo_lossOf_16, r_MMo_lossOf_19, r_MMo_lossOf_20, r_MMo_lossOf_21, r_MMo_lossOf_24, r_MMo_lossOf_25, r_MMo_lossOf_27, r_MMo_lossOf_28, r_MMo_lossOf_30, r_MMo_lossOf_31, sL_0, sL_1, sL_2, mk_i, mk_r, mk_f, mk_n, mk_u, mk_l, List.set_cons_succ, List.set_cons_zero, Nat.reduceAdd, ckS_0, ckS_1, ckS_2, ckS_3, ckS_4, Option.bind_some, Option.isSome_some, psh, if_true, if_false, i10, not_true_eq_false, not_false_eq_true, Bool.false_eq_true, and_self, and_true, true_and, eq_self, qI_6_0, qI_6_1, qI_6_2, qI_6_3, qI_6_4, qI_6_6, qI_6_7, qI_6_8, qI_6_9, qI_6_10, qI_6_11, qI_6_12, qI_6_13, qI_6_14, qI_6_15, qI_6_16, qO_6, qM_6_5, h5, e6, z]
  have e7 : ∀ T, moM m T 6 7 = T 7 := fun T => mo_v (by omega) (by omega)
  have e8 : ∀ T, moM m T 6 8 = T 8 := fun T => mo_v (by omega) (by omega)
  have e9 : ∀ T, moM m T 6 9 = T 9 := fun T => mo_v (by omega) (by omega)
  have e14 : ∀ T, moM m T 6 14 = T 14 := fun T => mo_v (by omega) (by omega)
  have e15 : ∀ T, moM m T 6 15 = T 15 := fun T => mo_v (by omega) (by omega)
  have e16 : ∀ T, moM m T 6 16 = T 16 := fun T => mo_v (by omega) (by omega)
  have u7 : ∀ T x, up2 (moM m T) 6 7 x = moM m (upd T 7 x) := fun T x => mo_up (by omega) (by omega)
  have u8 : ∀ T x, up2 (moM m T) 6 8 x = moM m (upd T 8 x) := fun T x => mo_up (by omega) (by omega)
  have u9 : ∀ T x, up2 (moM m T) 6 9 x = moM m (upd T 9 x) := fun T x => mo_up (by omega) (by omega)
  have u14 : ∀ T x, up2 (moM m T) 6 14 x = moM m (upd T 14 x) := fun T x => mo_up (by omega) (by omega)
  have u15 : ∀ T x, up2 (moM m T) 6 15 x = moM m (upd T 15 x) := fun T x => mo_up (by omega) (by omega)
  have u16 : ∀ T x, up2 (moM m T) 6 16 x = moM m (upd T 16 x) := fun T x => mo_up (by omega) (by omega)
  have ab : ∀ z : Int32, (if 0 ≤ z then z else 0 - z) = abF z := fun z => rfl
  unfold lsT loT
  simp only [lsV_n]
  simp only [r_MMo_lose_0, r_MMo_lose_1, r_MMo_lose_4, r_MMo_lose_4n, r_MMo_lose_7, r_MMo_lose_8, r_MMo_lose_11, r_MMo_lose_12, r_MMo_lose_15, r_MMo_lose_16, r_MMo_lose_19, r_MMo_lose_20, r_MMo_lose_23, r_MMo_lose_24, r_MMo_lose_27, r_MMo_lose_30, r_MMo_lose_31, r_MMo_lose_32, r_MMo_lose_33, r_MMo_lose_36, r_MMo_lose_39, r_MMo_lose_42, r_MMo_lose_43, r_MMo_lose_44, r_MMo_lose_45, r_MMo_lose_46, r_MMo_lose_49, r_MMo_lose_52, r_MMo_lose_53, r_MMo_lose_54, r_MMo_lose_55, r_MMo_lose_56, r_MMo_lose_59, r_MMo_lose_62, r_MMo_lose_63, r_MMo_lose_64, r_MMo_lose_65, r_MMo_lose_68, r_MMo_lose_69, r_MMo_lose_72, r_MMo_lose_75, r_MMo_lose_76, r_MMo_lose_76i, r_MMo_lose_77, r_MMo_lose_80, r_MMo_lose_81, r_MMo_lose_82, r_MMo_lose_85, r_MMo_lose_86, r_MMo_lose_86i, r_MMo_lose_87, r_MMo_lose_90, r_MMo_lose_91, r_MMo_lose_92, r_MMo_lose_95, r_MMo_lose_96, r_MMo_lose_96i, r_MMo_lose_97, r_MMo_lose_100, r_MMo_lose_101, r_MMo_lose_102, r_MMo_lose_105, r_MMo_lose_106, r_MMo_lose_106i, r_MMo_lose_107, r_MMo_lose_110, r_MMo_lose_111, r_MMo_lose_112, r_MMo_lose_115, r_MMo_lose_116, r_MMo_lose_116i, r_MMo_lose_117, r_MMo_lose_120, r_MMo_lose_121, r_MMo_lose_122, r_MMo_lose_125, sL_0, sL_1, sL_2, mk_i, mk_r, mk_f, mk_n, mk_u, mk_l, List.set_cons_succ, List.set_cons_zero, Nat.reduceAdd, ckS_0, ckS_1, ckS_2, ckS_3, ckS_4, Option.bind_some, Option.isSome_some, psh, if_true, if_false, i10, not_true_eq_false, not_false_eq_true, Bool.false_eq_true, and_self, and_true, true_and, eq_self, qI_6_0, qI_6_1, qI_6_2, qI_6_3, qI_6_4, qI_6_6, qI_6_7, qI_6_8, qI_6_9, qI_6_10, qI_6_11, qI_6_12, qI_6_13, qI_6_14, qI_6_15, qI_6_16, qO_6, qM_6_5, h5, e7, e8, e9, e14, e15, e16, u7, u8, u9, u14, u15, u16, ab, eo, e_near, upd_e, Nat.reduceEqDiff]
/-- a floor of the class with its lines, and the cells of a going as they stand -/
def FOk (m : Mu) (a : Nat) (ls : List Ln) : Prop := FlC m a (ptL ls) ∧ lnsOkC 0 ls ∧ (ptL ls).length ≤ 121
theorem e_name (qb : flB a) : Rr X (d + 1) MFl_name 0 [.ref a, .int s, .int x, .int y, .int z] [] (Wd m la ro et) = some (none, Wd (up2 (up2 (up2 (up2 m a 7 (abF s)) a 8 x) a 9 y) a 10 z) la ro et) := by
  obtain ⟨b5, b6, b7, b8, b9, b10⟩ := qb
  unfold abF
  simp only [r_MFl_name_0, r_MFl_name_1, r_MFl_name_2, r_MFl_name_5, r_MFl_name_8, r_MFl_name_9, r_MFl_name_10, r_MFl_name_13, r_MFl_name_14, r_MFl_name_15, r_MFl_name_18, r_MFl_name_19, r_MFl_name_21, r_MFl_name_24, sL_0, sL_1, sL_2, mk_i, mk_r, mk_f, mk_n, mk_u, mk_l, List.set_cons_succ, List.set_cons_zero, Nat.reduceAdd, ckS_0, ckS_1, ckS_2, ckS_3, ckS_4, Option.bind_some, Option.isSome_some, psh, if_true, if_false, i10, not_true_eq_false, not_false_eq_true, Bool.false_eq_true, and_self, and_true, true_and, eq_self, b7, b8, b9, b10]
theorem FlC_k {P : List Pt} (h : ∀ c j, a ≤ c → c ≤ a + 4 → ¬ (c = a ∧ 5 ≤ j ∧ j ≤ 10) → mu' c j = mu c j) (q : FlC mu a P) : FlC mu' a P := by
  obtain ⟨q1, q2⟩ := q
  refine ⟨(h a 4 (by omega) (by omega) (by omega)).trans q1, fun i p hp => ?_⟩
  obtain ⟨t1, t2, t3, t4⟩ := q2 i p hp
  exact ⟨(h _ _ (by omega) (by omega) (by omega)).trans t1, (h _ _ (by omega) (by omega) (by omega)).trans t2, (h _ _ (by omega) (by omega) (by omega)).trans t3, fun v hv => (h _ _ (by omega) (by omega) (by omega)).trans (t4 v hv)⟩
set_option maxHeartbeats 4000000 in
theorem c_lose_s (h5 : va_rf (ro 6 5) = .ref a) (qa : flA a) (qb : flB a) (hf : FOk m a ls) : ∃ m', Rr X (d + 3) MMo_lose 0 [.ref 6, mkU, mkU, mkU] [] (Wd (moM m T) la ro et) = some (none, Wd (moM m' (lsT (some ls) pc T)) la ro et) ∧ (∀ c j, ¬ (a ≤ c ∧ c ≤ a + 4) → m' c j = m c j) ∧ FOk m' a ls := by
  obtain ⟨hf1, hl, hn⟩ := hf
  have ha := qa.1.2.2
  have o1 := qa.1.1
  have e7 : ∀ m T, moM m T 6 7 = T 7 := fun m T => mo_v (by omega) (by omega)
  have e8 : ∀ m T, moM m T 6 8 = T 8 := fun m T => mo_v (by omega) (by omega)
  have e9 : ∀ m T, moM m T 6 9 = T 9 := fun m T => mo_v (by omega) (by omega)
  have e10 : ∀ m T, moM m T 6 10 = T 10 := fun m T => mo_v (by omega) (by omega)
  have e14 : ∀ m T, moM m T 6 14 = T 14 := fun m T => mo_v (by omega) (by omega)
  have e15 : ∀ m T, moM m T 6 15 = T 15 := fun m T => mo_v (by omega) (by omega)
  have e16 : ∀ m T, moM m T 6 16 = T 16 := fun m T => mo_v (by omega) (by omega)
  have u7 : ∀ m T x, up2 (moM m T) 6 7 x = moM m (upd T 7 x) := fun m T x => mo_up (by omega) (by omega)
  have u8 : ∀ m T x, up2 (moM m T) 6 8 x = moM m (upd T 8 x) := fun m T x => mo_up (by omega) (by omega)
  have u9 : ∀ m T x, up2 (moM m T) 6 9 x = moM m (upd T 9 x) := fun m T x => mo_up (by omega) (by omega)
  have u14 : ∀ m T x, up2 (moM m T) 6 14 x = moM m (upd T 14 x) := fun m T x => mo_up (by omega) (by omega)
  have u15 : ∀ m T x, up2 (moM m T) 6 15 x = moM m (upd T 15 x) := fun m T x => mo_up (by omega) (by omega)
  have u16 : ∀ m T x, up2 (moM m T) 6 16 x = moM m (upd T 16 x) := fun m T x => mo_up (by omega) (by omega)
  have ab : ∀ z : Int32, (if 0 ≤ z then z else 0 - z) = abF z := fun z => rfl
  -- the floor is told
  obtain ⟨m1, hm1⟩ : ∃ m1, m1 = up2 (up2 (up2 (up2 m a 7 (abF (T 7))) a 8 (T 8)) a 9 (T 9)) a 10 (T 10) := ⟨_, rfl⟩
  have n1 := e_name (X := X) (d := d + 1) (m := moM m T) (la := la) (ro := ro) (et := et) (s := T 7) (x := T 8) (y := T 9) (z := T 10) qb
  have ex : up2 (up2 (up2 (up2 (moM m T) a 7 (abF (T 7))) a 8 (T 8)) a 9 (T 9)) a 10 (T 10) = moM m1 T := by
    refine funext fun c => funext fun i => ?_
    rw [hm1]
    unfold moM
    simp only [up2_e]
    by_cases q : c = 6 ∧ 7 ≤ i ∧ i ≤ 16
    · rw [if_pos q, if_pos q, if_neg (by omega), if_neg (by omega), if_neg (by omega), if_neg (by omega)]
    · rw [if_neg q, if_neg q]
  rw [ex] at n1
  have k1 : ∀ c j, a ≤ c → c ≤ a + 4 → ¬ (c = a ∧ 5 ≤ j ∧ j ≤ 10) → m1 c j = m c j := fun c j _ _ h => by
    rw [hm1, up2_e, up2_e, up2_e, up2_e, if_neg (by omega), if_neg (by omega), if_neg (by omega), if_neg (by omega)]
  have k1' : ∀ c j, ¬ (a ≤ c ∧ c ≤ a + 4) → m1 c j = m c j := fun c j h => by
    rw [hm1, up2_a (by omega), up2_a (by omega), up2_a (by omega), up2_a (by omega)]
  have f1 : FlC m1 a (ptL ls) := FlC_k k1 hf1
  have v7 : m1 a 7 = abF (T 7) := by rw [hm1, up2_k (by decide), up2_k (by decide), up2_k (by decide), up2_s]
  have v8 : m1 a 8 = T 8 := by rw [hm1, up2_k (by decide), up2_k (by decide), up2_s]
  have v9 : m1 a 9 = T 9 := by rw [hm1, up2_k (by decide), up2_s]
  have v10 : m1 a 10 = T 10 := by rw [hm1, up2_s]
  -- what it takes
  have tk : ∀ (mm : Mu) (w v : Int32), FlC mm a (ptL ls) → mm a 7 = abF (T 7) → mm a 8 = T 8 → mm a 9 = T 9 → mm a 10 = T 10 → ∃ mm', Rr X (d + 2) MMo_lossOf 0 [.ref 6, .int w, .int v] [] (Wd (moM mm T) la ro et) = some (some (.int (lsV (some ls) pc w v (T 7) (T 8) (T 9) (T 10))), Wd (moM mm' T) la ro et) ∧ (∀ c j, ¬ c = a + 4 → ¬ (c = a ∧ (j = 5 ∨ j = 6)) → mm' c j = mm c j) ∧ FlC mm' a (ptL ls) := fun mm w v hf h7 h8 h9 h10 => by
    obtain ⟨mm', t1, t2, t3⟩ := c_takes (X := X) (d := d) (m := moM mm T) (la := la) (ro := ro) (et := et) (w := w) (size := v) (e := enF w v (abF (T 7)) (T 8) (T 9) (T 10)) qa qb rfl rfl (fun k hk => by
      rw [mo_o (by omega)]
      match k, hk with
      | 0, _ => exact h7
      | 1, _ => exact h8
      | 2, _ => exact h9
      | 3, _ => exact h10
      | k + 4, h => exact absurd h (by omega)) (FlC_c (fun c j h1 h2 => mo_o (by omega)) hf) hl hn
    have ee : mm' = moM mm' T := by
      refine funext fun c => funext fun i => ?_
      unfold moM
      by_cases q : c = 6 ∧ 7 ≤ i ∧ i ≤ 16
      · rw [if_pos q, t2 c i (by omega) (by omega), q.1]
        exact mo_v q.2.1 q.2.2
      · rw [if_neg q]
    refine ⟨fun c j => if c = 6 then mm c j else mm' c j, ?_, fun c j h1 h2 => ?_, FlC_c (fun c j h1 h2 => if_neg (by omega)) t3⟩
    · have e2 : moM (fun c j => if c = 6 then mm c j else mm' c j) T = mm' := by
        refine funext fun c => funext fun i => ?_
        unfold moM
        by_cases q : c = 6 ∧ 7 ≤ i ∧ i ≤ 16
        · rw [if_pos q, t2 c i (by omega) (by omega), q.1]
          exact (mo_v q.2.1 q.2.2).symm
        · rw [if_neg q]
          dsimp only
          by_cases q2 : c = 6
          · rw [if_pos q2, t2 c i (by omega) (by omega)]
            exact (if_neg q).symm
          · rw [if_neg q2]
      rw [e2, lsV_s]
      simp only [r_MMo_lossOf_0, r_MMo_lossOf_1, r_MMo_lossOf_4, r_MMo_lossOf_4n, r_MMo_lossOf_7, r_MMo_lossOf_8, r_MMo_lossOf_11, r_MMo_lossOf_12, r_MMo_lossOf_13, r_MMo_lossOf_16, r_MMo_lossOf_19, r_MMo_lossOf_20, r_MMo_lossOf_21, r_MMo_lossOf_24, r_MMo_lossOf_25, r_MMo_lossOf_27, r_MMo_lossOf_28, r_MMo_lossOf_30, r_MMo_lossOf_31, sL_0, sL_1, sL_2, mk_i, mk_r, mk_f, mk_n, mk_u, mk_l, List.set_cons_succ, List.set_cons_zero, Nat.reduceAdd, ckS_0, ckS_1, ckS_2, ckS_3, ckS_4, Option.bind_some, Option.isSome_some, psh, if_true, if_false, i10, not_true_eq_false, not_false_eq_true, Bool.false_eq_true, and_self, and_true, true_and, eq_self, qI_6_0, qI_6_1, qI_6_2, qI_6_3, qI_6_4, qI_6_6, qI_6_7, qI_6_8, qI_6_9, qI_6_10, qI_6_11, qI_6_12, qI_6_13, qI_6_14, qI_6_15, qI_6_16, qO_6, qM_6_5, h5, o1, t1]
    · dsimp only
      by_cases q2 : c = 6
      · exact if_pos q2
      · rw [if_neg q2, t2 c j h1 h2, mo_o q2]
  obtain ⟨m2, t1, o2, f2⟩ := tk m1 0 (abF (T 7)) f1 v7 v8 v9 v10
  have w7 : m2 a 7 = abF (T 7) := (o2 _ _ (by omega) (by omega)).trans v7
  have w8 : m2 a 8 = T 8 := (o2 _ _ (by omega) (by omega)).trans v8
  have w9 : m2 a 9 = T 9 := (o2 _ _ (by omega) (by omega)).trans v9
  have w10 : m2 a 10 = T 10 := (o2 _ _ (by omega) (by omega)).trans v10
  obtain ⟨m3, t2, o3, f3⟩ := tk m2 1 (T 8) f2 w7 w8 w9 w10
  obtain ⟨m4, t3, o4, f4⟩ := tk m3 2 (T 9) f3 ((o3 _ _ (by omega) (by omega)).trans w7) ((o3 _ _ (by omega) (by omega)).trans w8) ((o3 _ _ (by omega) (by omega)).trans w9) ((o3 _ _ (by omega) (by omega)).trans w10)
  refine ⟨m4, ?_, fun c j h => ?_, f4, hl, hn⟩
  · unfold lsT loT
    simp only [r_MMo_lose_0, r_MMo_lose_1, r_MMo_lose_4, r_MMo_lose_4n, r_MMo_lose_7, r_MMo_lose_8, r_MMo_lose_11, r_MMo_lose_12, r_MMo_lose_15, r_MMo_lose_16, r_MMo_lose_19, r_MMo_lose_20, r_MMo_lose_23, r_MMo_lose_24, r_MMo_lose_27, r_MMo_lose_30, r_MMo_lose_31, r_MMo_lose_32, r_MMo_lose_33, r_MMo_lose_36, r_MMo_lose_39, r_MMo_lose_42, r_MMo_lose_43, r_MMo_lose_44, r_MMo_lose_45, r_MMo_lose_46, r_MMo_lose_49, r_MMo_lose_52, r_MMo_lose_53, r_MMo_lose_54, r_MMo_lose_55, r_MMo_lose_56, r_MMo_lose_59, r_MMo_lose_62, r_MMo_lose_63, r_MMo_lose_64, r_MMo_lose_65, r_MMo_lose_68, r_MMo_lose_69, r_MMo_lose_72, r_MMo_lose_75, r_MMo_lose_76, r_MMo_lose_76i, r_MMo_lose_77, r_MMo_lose_80, r_MMo_lose_81, r_MMo_lose_82, r_MMo_lose_85, r_MMo_lose_86, r_MMo_lose_86i, r_MMo_lose_87, r_MMo_lose_90, r_MMo_lose_91, r_MMo_lose_92, r_MMo_lose_95, r_MMo_lose_96, r_MMo_lose_96i, r_MMo_lose_97, r_MMo_lose_100, r_MMo_lose_101, r_MMo_lose_102, r_MMo_lose_105, r_MMo_lose_106, r_MMo_lose_106i, r_MMo_lose_107, r_MMo_lose_110, r_MMo_lose_111, r_MMo_lose_112, r_MMo_lose_115, r_MMo_lose_116, r_MMo_lose_116i, r_MMo_lose_117, r_MMo_lose_120, r_MMo_lose_121, r_MMo_lose_122, r_MMo_lose_125, sL_0, sL_1, sL_2, mk_i, mk_r, mk_f, mk_n, mk_u, mk_l, List.set_cons_succ, List.set_cons_zero, Nat.reduceAdd, ckS_0, ckS_1, ckS_2, ckS_3, ckS_4, Option.bind_some, Option.isSome_some, psh, if_true, if_false, i10, not_true_eq_false, not_false_eq_true, Bool.false_eq_true, and_self, and_true, true_and, eq_self, qI_6_0, qI_6_1, qI_6_2, qI_6_3, qI_6_4, qI_6_6, qI_6_7, qI_6_8, qI_6_9, qI_6_10, qI_6_11, qI_6_12, qI_6_13, qI_6_14, qI_6_15, qI_6_16, qO_6, qM_6_5, h5, o1, e7, e8, e9, e10, n1, ab, t1, t2, t3, e14, e15, e16, u7, u8, u9, u14, u15, u16, e_near, upd_e, Nat.reduceEqDiff]
  · rw [o4 _ _ (by omega) (by omega), o3 _ _ (by omega) (by omega), o2 _ _ (by omega) (by omega), k1' _ _ h]
end
