-- ===== a going, tick by tick: the class's step, the model's
/-- the floors of the class, by their lines -/
def AllC (m : Mu) (LS : Nat → List Ln) (n : Nat) : Prop := ∀ F, F < n → FOk m (49 + 5 * F) (LS F)
/-- on which floor a going goes: one of them, or so many hundredths -/
def SitC (m : Mu) (ro : Ro) (n : Nat) (f : Option Nat) (pc : Int32) : Prop := match f with
  | none => va_rf (ro 6 5) = .null ∧ m 6 6 = pc
  | some F => F < n ∧ va_rf (ro 6 5) = .ref (49 + 5 * F)
/-- by what a going goes -/
def CoC (m : Mu) (k ca cb cc cd : Int32) : Prop := m 6 0 = k ∧ m 6 1 = ca ∧ m 6 2 = cb ∧ m 6 3 = cc ∧ m 6 4 = cd
def flO (LS : Nat → List Ln) (f : Option Nat) : Option (List Ln) := match f with
  | none => none
  | some F => some (LS F)
noncomputable def beT (s p q t : Int32) : Nat → Int32 := fun j => if j = 7 then s else if j = 8 then p else if j = 9 then q else if j = 10 then t else if j = 11 then sgF s else 0
noncomputable def ruM (m : Mu) (a : Nat) (k : Int32) : Mu := up2 (up2 (up2 (up2 (up2 (up2 m 6 0 k) 6 1 (m (a + 4) 0)) 6 2 (m (a + 4) 1)) 6 3 (m (a + 4) 2)) 6 4 (m (a + 4) 3)) 6 6 0
/-- the model's cells of a going, told by the class's -/
noncomputable def gG (T : Nat → Int32) : Nat → Int32 := fun j => if j = 30 then T 7 else if j = 31 then T 8 else if j = 32 then T 9 else if j = 33 then T 14 else if j = 34 then T 15 else T 16
noncomputable def moG (m : Mu) (G : Nat → Int32) : Mu := fun c j => if c = 81 ∧ 30 ≤ j ∧ j ≤ 35 then G j else m c j
def AllM (m : Mu) (LS : Nat → List Ln) (n : Nat) : Prop := ∀ F, F < n → FlM m F (LS F) ∧ lnsOk m F (LS F).length 0 0 ∧ lnsOkC 0 (LS F) ∧ (cdL (LS F)).length ≤ 130 ∧ (LS F).length ≤ 61
def SitM (fl : Int32) (n : Nat) (f : Option Nat) (pc : Int32) : Prop := match f with
  | none => (fl = 9 ∧ pc = 0) ∨ (∃ c : Nat, c ≤ 99 ∧ pc = nI c ∧ fl = -1 - nI c)
  | some F => F < n ∧ fl = nI F
/-- what a going holds -/
def Bd (T : Nat → Int32) : Prop := (-9999 ≤ (T 7).toInt ∧ (T 7).toInt ≤ 9999) ∧ (0 ≤ (T 8).toInt ∧ (T 8).toInt ≤ 9999) ∧ (0 ≤ (T 9).toInt ∧ (T 9).toInt ≤ 9999)
section
variable {X : Tok} {d : Nat} {mu m m' m1 mu' : Mu} {la la' : La} {ro ro' : Ro} {et : Nat → Option va_E} {a F n i j S : Nat} {k x y z s r sz rt lo hi p q w v pc ca cb cc cd t fl : Int32} {T T' G : Nat → Int32} {ls : List Ln} {f : Option Nat} {LS : Nat → List Ln}
theorem FOk_c (h : ∀ c j, a ≤ c → c ≤ a + 4 → mu' c j = mu c j) (q : FOk mu a ls) : FOk mu' a ls := ⟨FlC_c h q.1, q.2⟩
theorem c_lose (hn : n ≤ 4) (hs : SitC m ro n f pc) (hA : AllC m LS n) : ∃ m', Rr X (d + 3) MMo_lose 0 [.ref 6, mkU, mkU, mkU] [] (Wd (moM m T) la ro et) = some (none, Wd (moM m' (lsT (flO LS f) pc T)) la ro et) ∧ (∀ c j, (c < 49 ∨ 68 < c) → m' c j = m c j) ∧ AllC m' LS n := by
  cases f with
  | none => exact ⟨m, c_lose_n hs.1 hs.2, fun _ _ _ => rfl, hA⟩
  | some F =>
    obtain ⟨hF, h5⟩ := hs
    obtain ⟨m', e1, e2, e3⟩ := c_lose_s (X := X) (d := d) (m := m) (T := T) (la := la) (ro := ro) (et := et) (pc := pc) h5 (flA_of (show F < 4 by omega)) (flB_of (show F < 4 by omega)) (hA F hF)
    refine ⟨m', e1, fun c j h => e2 c j (by omega), fun F' hF' => ?_⟩
    by_cases q : F' = F
    · rw [q]; exact e3
    · exact FOk_c (fun c j h1 h2 => e2 c j (by omega)) (hA F' hF')
set_option maxHeartbeats 2000000 in
theorem c_step (hn : n ≤ 4) (hk : CoC m k ca cb cc cd) (hs : SitC m ro n f pc) (hA : AllC m LS n) : ∃ m', Rr X (d + 4) MMo_step 0 [.ref 6, mkU] [] (Wd (moM m T) la ro et) = some (none, Wd (moM m' (spT k ca cb cc cd (flO LS f) pc T)) la ro et) ∧ (∀ c j, (c < 49 ∨ 68 < c) → m' c j = m c j) ∧ AllC m' LS n := by
  obtain ⟨h0, h1, h2, h3, h4⟩ := hk
  have e10 : moM m T 6 10 = T 10 := mo_v (by omega) (by omega)
  have u10 : ∀ x, up2 (moM m T) 6 10 x = moM m (upd T 10 x) := fun x => mo_up (by omega) (by omega)
  have eg := c_grow (X := X) (d := d + 1) (m := m) (T := upd T 10 (T 10 + 1)) (la := la) (ro := ro) (et := et) h0 h1 h2
  have ep := c_push (X := X) (d := d + 1) (m := m) (T := grT k ca cb (upd T 10 (T 10 + 1))) (la := la) (ro := ro) (et := et) h0 h3 h4
  obtain ⟨m', el, o, hA'⟩ := c_lose (X := X) (d := d) (m := m) (T := phT k cc cd (grT k ca cb (upd T 10 (T 10 + 1)))) (la := la) (et := et) hn hs hA
  refine ⟨m', ?_, o, hA'⟩
  obtain ⟨T2, hT2⟩ : ∃ T2, T2 = lsT (flO LS f) pc (phT k cc cd (grT k ca cb (upd T 10 (T 10 + 1)))) := ⟨_, rfl⟩
  have eS : spT k ca cb cc cd (flO LS f) pc T = bkT (tuT T2) := by rw [hT2]; rfl
  rw [← hT2] at el
  rw [eS]
  have f7 : moM m' T2 6 7 = T2 7 := mo_v (by omega) (by omega)
  have f13 : moM m' T2 6 13 = T2 13 := mo_v (by omega) (by omega)
  have u13 : ∀ x, up2 (moM m' T2) 6 13 x = moM m' (upd T2 13 x) := fun x => mo_up (by omega) (by omega)
  have eT : upd T2 13 (T2 13 + T2 7) = tuT T2 := rfl
  obtain ⟨T3, hT3⟩ : ∃ T3, T3 = tuT T2 := ⟨_, rfl⟩
  rw [← hT3] at eT ⊢
  have g7 : moM m' T3 6 7 = T3 7 := mo_v (by omega) (by omega)
  have g11 : moM m' T3 6 11 = T3 11 := mo_v (by omega) (by omega)
  have g12 : moM m' T3 6 12 = T3 12 := mo_v (by omega) (by omega)
  have v11 : ∀ T x, up2 (moM m' T) 6 11 x = moM m' (upd T 11 x) := fun T x => mo_up (by omega) (by omega)
  have v12 : ∀ x, up2 (moM m' T3) 6 12 x = moM m' (upd T3 12 x) := fun x => mo_up (by omega) (by omega)
  unfold bkT
  by_cases c1 : sgF (T3 7) = 0
  · rw [if_pos c1]
    simp only [r_MMo_step_0, r_MMo_step_1, r_MMo_step_1i, r_MMo_step_2, r_MMo_step_5, r_MMo_step_6, r_MMo_step_7, r_MMo_step_10, r_MMo_step_11, r_MMo_step_14, r_MMo_step_15, r_MMo_step_18, r_MMo_step_19, r_MMo_step_22, r_MMo_step_23, r_MMo_step_23i, r_MMo_step_24, r_MMo_step_27, r_MMo_step_28, r_MMo_step_31, r_MMo_step_32, r_MMo_step_35, r_MMo_step_36, r_MMo_step_39, r_MMo_step_42, r_MMo_step_43, r_MMo_step_44, r_MMo_step_47, r_MMo_step_48, r_MMo_step_49, r_MMo_step_52, r_MMo_step_53, r_MMo_step_56, r_MMo_step_57, r_MMo_step_57i, r_MMo_step_58, r_MMo_step_61, r_MMo_step_62, r_MMo_step_63, r_MMo_step_66, r_MMo_step_67, r_MMo_step_68, r_MMo_step_71, sL_0, sL_1, sL_2, mk_i, mk_r, mk_f, mk_n, mk_u, mk_l, List.set_cons_succ, List.set_cons_zero, Nat.reduceAdd, ckS_0, ckS_1, ckS_2, ckS_3, ckS_4, Option.bind_some, Option.isSome_some, psh, if_true, if_false, i10, not_true_eq_false, not_false_eq_true, Bool.false_eq_true, and_self, and_true, true_and, eq_self, qI_6_0, qI_6_1, qI_6_2, qI_6_3, qI_6_4, qI_6_6, qI_6_7, qI_6_8, qI_6_9, qI_6_10, qI_6_11, qI_6_12, qI_6_13, qI_6_14, qI_6_15, qI_6_16, qO_6, qM_6_5, e10, u10, eg, ep, el, f7, f13, u13, eT, g7, e_sig, c1]
  · rw [if_neg c1]
    by_cases c2 : sgF (T3 7) = -T3 11
    · rw [if_pos c2]
      have c1' : ¬ -T3 11 = 0 := by rw [← c2]; exact c1
      simp only [r_MMo_step_0, r_MMo_step_1, r_MMo_step_1i, r_MMo_step_2, r_MMo_step_5, r_MMo_step_6, r_MMo_step_7, r_MMo_step_10, r_MMo_step_11, r_MMo_step_14, r_MMo_step_15, r_MMo_step_18, r_MMo_step_19, r_MMo_step_22, r_MMo_step_23, r_MMo_step_23i, r_MMo_step_24, r_MMo_step_27, r_MMo_step_28, r_MMo_step_31, r_MMo_step_32, r_MMo_step_35, r_MMo_step_36, r_MMo_step_39, r_MMo_step_42, r_MMo_step_43, r_MMo_step_44, r_MMo_step_47, r_MMo_step_48, r_MMo_step_49, r_MMo_step_52, r_MMo_step_53, r_MMo_step_56, r_MMo_step_57, r_MMo_step_57i, r_MMo_step_58, r_MMo_step_61, r_MMo_step_62, r_MMo_step_63, r_MMo_step_66, r_MMo_step_67, r_MMo_step_68, r_MMo_step_71, sL_0, sL_1, sL_2, mk_i, mk_r, mk_f, mk_n, mk_u, mk_l, List.set_cons_succ, List.set_cons_zero, Nat.reduceAdd, ckS_0, ckS_1, ckS_2, ckS_3, ckS_4, Option.bind_some, Option.isSome_some, psh, if_true, if_false, i10, not_true_eq_false, not_false_eq_true, Bool.false_eq_true, and_self, and_true, true_and, eq_self, qI_6_0, qI_6_1, qI_6_2, qI_6_3, qI_6_4, qI_6_6, qI_6_7, qI_6_8, qI_6_9, qI_6_10, qI_6_11, qI_6_12, qI_6_13, qI_6_14, qI_6_15, qI_6_16, qO_6, qM_6_5, e10, u10, eg, ep, el, f7, f13, u13, eT, g7, g11, g12, v11, v12, e_sig, c2, c1']
    · rw [if_neg c2]
      simp only [r_MMo_step_0, r_MMo_step_1, r_MMo_step_1i, r_MMo_step_2, r_MMo_step_5, r_MMo_step_6, r_MMo_step_7, r_MMo_step_10, r_MMo_step_11, r_MMo_step_14, r_MMo_step_15, r_MMo_step_18, r_MMo_step_19, r_MMo_step_22, r_MMo_step_23, r_MMo_step_23i, r_MMo_step_24, r_MMo_step_27, r_MMo_step_28, r_MMo_step_31, r_MMo_step_32, r_MMo_step_35, r_MMo_step_36, r_MMo_step_39, r_MMo_step_42, r_MMo_step_43, r_MMo_step_44, r_MMo_step_47, r_MMo_step_48, r_MMo_step_49, r_MMo_step_52, r_MMo_step_53, r_MMo_step_56, r_MMo_step_57, r_MMo_step_57i, r_MMo_step_58, r_MMo_step_61, r_MMo_step_62, r_MMo_step_63, r_MMo_step_66, r_MMo_step_67, r_MMo_step_68, r_MMo_step_71, sL_0, sL_1, sL_2, mk_i, mk_r, mk_f, mk_n, mk_u, mk_l, List.set_cons_succ, List.set_cons_zero, Nat.reduceAdd, ckS_0, ckS_1, ckS_2, ckS_3, ckS_4, Option.bind_some, Option.isSome_some, psh, if_true, if_false, i10, not_true_eq_false, not_false_eq_true, Bool.false_eq_true, and_self, and_true, true_and, eq_self, qI_6_0, qI_6_1, qI_6_2, qI_6_3, qI_6_4, qI_6_6, qI_6_7, qI_6_8, qI_6_9, qI_6_10, qI_6_11, qI_6_12, qI_6_13, qI_6_14, qI_6_15, qI_6_16, qO_6, qM_6_5, e10, u10, eg, ep, el, f7, f13, u13, eT, g7, g11, v11, e_sig, c1, c2]
theorem c_start : Rr X (d + 1) MMo_start 0 [.ref 6, .int s, .int p, .int q, .int t] [] (Wd m la ro et) = some (none, Wd (moM m (beT s p q t)) la ro et) := by
  have e : up2 (up2 (up2 (up2 (up2 (up2 (up2 (up2 (up2 (up2 m 6 7 s) 6 8 p) 6 9 q) 6 10 t) 6 11 (sgF s)) 6 12 0) 6 13 0) 6 14 0) 6 15 0) 6 16 0 = moM m (beT s p q t) := by
    refine funext fun c => funext fun i => ?_
    unfold moM beT
    simp only [up2_e]
    by_cases h : c = 6
    · subst h
      by_cases h2 : 7 ≤ i ∧ i ≤ 16
      · rw [if_pos (show (6 : Nat) = 6 ∧ 7 ≤ i ∧ i ≤ 16 from ⟨rfl, h2⟩)]
        have : i = 7 ∨ i = 8 ∨ i = 9 ∨ i = 10 ∨ i = 11 ∨ i = 12 ∨ i = 13 ∨ i = 14 ∨ i = 15 ∨ i = 16 := by omega
        rcases this with rfl | rfl | rfl | rfl | rfl | rfl | rfl | rfl | rfl | rfl <;> rfl
      · rw [if_neg (show ¬ ((6 : Nat) = 6 ∧ 7 ≤ i ∧ i ≤ 16) from fun z => h2 z.2), if_neg (by omega), if_neg (by omega), if_neg (by omega), if_neg (by omega), if_neg (by omega), if_neg (by omega), if_neg (by omega), if_neg (by omega), if_neg (by omega), if_neg (by omega)]
    · rw [if_neg (by omega), if_neg (by omega), if_neg (by omega), if_neg (by omega), if_neg (by omega), if_neg (by omega), if_neg (by omega), if_neg (by omega), if_neg (by omega), if_neg (by omega), if_neg (by omega)]
  have e7 : up2 (up2 (up2 (up2 m 6 7 s) 6 8 p) 6 9 q) 6 10 t 6 7 = s := by rw [up2_k (by decide), up2_k (by decide), up2_k (by decide), up2_s]
  simp only [r_MMo_start_0, r_MMo_start_1, r_MMo_start_2, r_MMo_start_5, r_MMo_start_6, r_MMo_start_7, r_MMo_start_10, r_MMo_start_11, r_MMo_start_12, r_MMo_start_15, r_MMo_start_16, r_MMo_start_18, r_MMo_start_21, r_MMo_start_22, r_MMo_start_23, r_MMo_start_26, r_MMo_start_29, r_MMo_start_32, r_MMo_start_33, r_MMo_start_34, r_MMo_start_37, r_MMo_start_38, r_MMo_start_39, r_MMo_start_42, r_MMo_start_43, r_MMo_start_44, r_MMo_start_47, r_MMo_start_48, r_MMo_start_49, r_MMo_start_52, r_MMo_start_53, r_MMo_start_54, r_MMo_start_57, sL_0, sL_1, sL_2, mk_i, mk_r, mk_f, mk_n, mk_u, mk_l, List.set_cons_succ, List.set_cons_zero, Nat.reduceAdd, ckS_0, ckS_1, ckS_2, ckS_3, ckS_4, Option.bind_some, Option.isSome_some, psh, if_true, if_false, i10, not_true_eq_false, not_false_eq_true, Bool.false_eq_true, and_self, and_true, true_and, eq_self, qI_6_0, qI_6_1, qI_6_2, qI_6_3, qI_6_4, qI_6_6, qI_6_7, qI_6_8, qI_6_9, qI_6_10, qI_6_11, qI_6_12, qI_6_13, qI_6_14, qI_6_15, qI_6_16, qO_6, qM_6_5, e7, e_sig, e]
theorem d_rule43 : decode MMo_rule.2.2.1 43 = .ok (.putfield 31, 3) := by decide +kernel
theorem c_rule (qa : snA a) (ha : a ≤ 44) {g : Option Nat} : Rr X (d + 1) MMo_rule 0 [.ref 6, .ref a, .int k, va_rf g] [] (Wd m la ro et) = some (none, Wd (ruM m a k) la (upR ro 6 5 g) et) := by
  have o1 := qa.1.1
  have o3 := qa.1.2.2
  have r0 := fun (m : Mu) => e_rate (X := X) (d := d) (m := m) (la := la) (ro := ro) (et := et) (k := 0) qa (by decide)
  have r1 := fun (m : Mu) => e_rate (X := X) (d := d) (m := m) (la := la) (ro := ro) (et := et) (k := 1) qa (by decide)
  have r2 := fun (m : Mu) => e_rate (X := X) (d := d) (m := m) (la := la) (ro := ro) (et := et) (k := 2) qa (by decide)
  have r3 := fun (m : Mu) => e_rate (X := X) (d := d) (m := m) (la := la) (ro := ro) (et := et) (k := 3) qa (by decide)
  simp only [show nI 0 = (0 : Int32) from rfl] at r0
  simp only [show nI 1 = (1 : Int32) from rfl] at r1
  simp only [show nI 2 = (2 : Int32) from rfl] at r2
  simp only [show nI 3 = (3 : Int32) from rfl] at r3
  have o : ∀ (m : Mu) (i : Nat) (x : Int32) (j : Nat), up2 m 6 i x (a + 4) j = m (a + 4) j := fun m i x j => up2_a (by omega)
  have pf := fun (mm : Mu) (L : List Value) => R_pfM (X := X) (d := d + 1) (M := MMo_rule) (pc := 43) (mu := mm) (la := la) (ro := ro) (et := et) (a := 6) (L := L) (r := []) (q := g) d_rule43 ff_5_31 (by decide)
  unfold ruM
  cases g with
  | none =>
    have pf' : ∀ (mm : Mu) (L : List Value), Rr X (d + 1) MMo_rule 43 L [.null, .ref 6] (Wd mm la ro et) = Rr X (d + 1) MMo_rule 46 L [] (Wd mm la (upR ro 6 5 none) et) := pf
    show Rr X (d + 1) MMo_rule 0 [.ref 6, .ref a, .int k, .null] [] _ = _
    simp only [r_MMo_rule_0, r_MMo_rule_1, r_MMo_rule_2, r_MMo_rule_5, r_MMo_rule_6, r_MMo_rule_6n, r_MMo_rule_7, r_MMo_rule_8, r_MMo_rule_11, r_MMo_rule_14, r_MMo_rule_15, r_MMo_rule_15n, r_MMo_rule_16, r_MMo_rule_17, r_MMo_rule_20, r_MMo_rule_23, r_MMo_rule_24, r_MMo_rule_24n, r_MMo_rule_25, r_MMo_rule_26, r_MMo_rule_29, r_MMo_rule_32, r_MMo_rule_33, r_MMo_rule_33n, r_MMo_rule_34, r_MMo_rule_35, r_MMo_rule_38, r_MMo_rule_41, r_MMo_rule_42, r_MMo_rule_42n, r_MMo_rule_46, r_MMo_rule_47, r_MMo_rule_48, r_MMo_rule_51, sL_0, sL_1, sL_2, mk_i, mk_r, mk_f, mk_n, mk_u, mk_l, List.set_cons_succ, List.set_cons_zero, Nat.reduceAdd, ckS_0, ckS_1, ckS_2, ckS_3, ckS_4, Option.bind_some, Option.isSome_some, psh, if_true, if_false, i10, not_true_eq_false, not_false_eq_true, Bool.false_eq_true, and_self, and_true, true_and, eq_self, qI_6_0, qI_6_1, qI_6_2, qI_6_3, qI_6_4, qI_6_6, qI_6_7, qI_6_8, qI_6_9, qI_6_10, qI_6_11, qI_6_12, qI_6_13, qI_6_14, qI_6_15, qI_6_16, qO_6, qM_6_5, o1, r0, r1, r2, r3, o, pf']
  | some b =>
    have pf' : ∀ (mm : Mu) (L : List Value), Rr X (d + 1) MMo_rule 43 L [.ref b, .ref 6] (Wd mm la ro et) = Rr X (d + 1) MMo_rule 46 L [] (Wd mm la (upR ro 6 5 (some b)) et) := pf
    show Rr X (d + 1) MMo_rule 0 [.ref 6, .ref a, .int k, .ref b] [] _ = _
    simp only [r_MMo_rule_0, r_MMo_rule_1, r_MMo_rule_2, r_MMo_rule_5, r_MMo_rule_6, r_MMo_rule_6n, r_MMo_rule_7, r_MMo_rule_8, r_MMo_rule_11, r_MMo_rule_14, r_MMo_rule_15, r_MMo_rule_15n, r_MMo_rule_16, r_MMo_rule_17, r_MMo_rule_20, r_MMo_rule_23, r_MMo_rule_24, r_MMo_rule_24n, r_MMo_rule_25, r_MMo_rule_26, r_MMo_rule_29, r_MMo_rule_32, r_MMo_rule_33, r_MMo_rule_33n, r_MMo_rule_34, r_MMo_rule_35, r_MMo_rule_38, r_MMo_rule_41, r_MMo_rule_42, r_MMo_rule_42n, r_MMo_rule_46, r_MMo_rule_47, r_MMo_rule_48, r_MMo_rule_51, sL_0, sL_1, sL_2, mk_i, mk_r, mk_f, mk_n, mk_u, mk_l, List.set_cons_succ, List.set_cons_zero, Nat.reduceAdd, ckS_0, ckS_1, ckS_2, ckS_3, ckS_4, Option.bind_some, Option.isSome_some, psh, if_true, if_false, i10, not_true_eq_false, not_false_eq_true, Bool.false_eq_true, and_self, and_true, true_and, eq_self, qI_6_0, qI_6_1, qI_6_2, qI_6_3, qI_6_4, qI_6_6, qI_6_7, qI_6_8, qI_6_9, qI_6_10, qI_6_11, qI_6_12, qI_6_13, qI_6_14, qI_6_15, qI_6_16, qO_6, qM_6_5, o1, r0, r1, r2, r3, o, pf']
-- the model
theorem gG_v : gG T 30 = T 7 ∧ gG T 31 = T 8 ∧ gG T 32 = T 9 ∧ gG T 33 = T 14 ∧ gG T 34 = T 15 ∧ gG T 35 = T 16 := ⟨rfl, rfl, rfl, rfl, rfl, rfl⟩
theorem mg_v (h1 : 30 ≤ j) (h2 : j ≤ 35) : moG m G 81 j = G j := if_pos ⟨rfl, h1, h2⟩
theorem mg_k (h1 : j < 30 ∨ 35 < j) : moG m G 81 j = m 81 j := if_neg (by omega)
theorem mg_o {c : Nat} (h : ¬ c = 81) : moG m G c j = m c j := if_neg fun q => h q.1
theorem mg_up {g h : Nat} (hg : (g = 30 ∧ h = 7) ∨ (g = 31 ∧ h = 8) ∨ (g = 32 ∧ h = 9) ∨ (g = 33 ∧ h = 14) ∨ (g = 34 ∧ h = 15) ∨ (g = 35 ∧ h = 16)) : up2 (moG m (gG T)) 81 g x = moG m (gG (upd T h x)) := by
  refine funext fun c => funext fun i => ?_
  rw [up2_e]
  unfold moG
  by_cases q : c = 81 ∧ 30 ≤ i ∧ i ≤ 35
  · rw [if_pos q, if_pos q]
    obtain ⟨q1, q2, q3⟩ := q
    unfold gG
    simp only [upd_e]
    rcases hg with ⟨rfl, rfl⟩ | ⟨rfl, rfl⟩ | ⟨rfl, rfl⟩ | ⟨rfl, rfl⟩ | ⟨rfl, rfl⟩ | ⟨rfl, rfl⟩ <;>
    · have : i = 30 ∨ i = 31 ∨ i = 32 ∨ i = 33 ∨ i = 34 ∨ i = 35 := by omega
      subst q1
      rcases this with rfl | rfl | rfl | rfl | rfl | rfl <;> rfl
  · rw [if_neg q, if_neg q, if_neg (fun z => q ⟨z.1, by omega, by omega⟩)]
theorem mg_97 : up2 (moG m G) 97 j x = moG (up2 m 97 j x) G := by
  refine funext fun c => funext fun i => ?_
  rw [up2_e]
  unfold moG
  rw [up2_e]
  by_cases q : c = 81 ∧ 30 ≤ i ∧ i ≤ 35
  · rw [if_pos q, if_pos q, if_neg (by omega)]
  · rw [if_neg q, if_neg q]
theorem e_heldM (h : lo.toInt ≤ hi.toInt) : Rr X d MRm_held 0 [.int x, .int lo, .int hi] [] (Wd m la ro et) = some (some (.int (clF lo hi x)), Wd m la ro et) := by
  unfold clF
  by_cases c1 : x < lo
  · have c1' : ¬ lo ≤ x := Int32.not_le.mpr c1
    rw [if_pos c1]
    simp only [r_MRm_held_0, r_MRm_held_1, r_MRm_held_2, r_MRm_held_5, r_MRm_held_6, r_MRm_held_9, r_MRm_held_10, r_MRm_held_11, r_MRm_held_14, r_MRm_held_15, r_MRm_held_18, r_MRm_held_19, sL_0, sL_1, sL_2, mk_i, mk_r, mk_f, mk_n, mk_u, mk_l, List.set_cons_succ, List.set_cons_zero, Nat.reduceAdd, ckS_0, ckS_1, ckS_2, ckS_3, ckS_4, Option.bind_some, Option.isSome_some, psh, if_true, if_false, i10, not_true_eq_false, not_false_eq_true, Bool.false_eq_true, and_self, and_true, true_and, eq_self, c1, c1']
  · have c1' : lo ≤ x := Int32.not_lt.mp c1
    rw [if_neg c1]
    by_cases c2 : hi < x
    · have c2' : ¬ x ≤ hi := Int32.not_le.mpr c2
      rw [if_pos c2]
      simp only [r_MRm_held_0, r_MRm_held_1, r_MRm_held_2, r_MRm_held_5, r_MRm_held_6, r_MRm_held_9, r_MRm_held_10, r_MRm_held_11, r_MRm_held_14, r_MRm_held_15, r_MRm_held_18, r_MRm_held_19, sL_0, sL_1, sL_2, mk_i, mk_r, mk_f, mk_n, mk_u, mk_l, List.set_cons_succ, List.set_cons_zero, Nat.reduceAdd, ckS_0, ckS_1, ckS_2, ckS_3, ckS_4, Option.bind_some, Option.isSome_some, psh, if_true, if_false, i10, not_true_eq_false, not_false_eq_true, Bool.false_eq_true, and_self, and_true, true_and, eq_self, c1, c1', c2, c2']
    · have c2' : x ≤ hi := Int32.not_lt.mp c2
      rw [if_neg c2]
      simp only [r_MRm_held_0, r_MRm_held_1, r_MRm_held_2, r_MRm_held_5, r_MRm_held_6, r_MRm_held_9, r_MRm_held_10, r_MRm_held_11, r_MRm_held_14, r_MRm_held_15, r_MRm_held_18, r_MRm_held_19, sL_0, sL_1, sL_2, mk_i, mk_r, mk_f, mk_n, mk_u, mk_l, List.set_cons_succ, List.set_cons_zero, Nat.reduceAdd, ckS_0, ckS_1, ckS_2, ckS_3, ckS_4, Option.bind_some, Option.isSome_some, psh, if_true, if_false, i10, not_true_eq_false, not_false_eq_true, Bool.false_eq_true, and_self, and_true, true_and, eq_self, c1, c1', c2, c2']
theorem FlM_k {ls : List Ln} (h : ∀ c i, 92 ≤ c → c ≤ 96 → mu' c i = mu c i) (q : FlM mu F ls) : FlM mu' F ls := FlM_c (fun i _ => ⟨h _ _ (by omega) (by omega), h _ _ (by omega) (by omega)⟩) (h _ _ (by omega) (by omega)) (fun i _ => ⟨h _ _ (by omega) (by omega), h _ _ (by omega) (by omega)⟩) q
theorem AllM_k (h : ∀ c i, 92 ≤ c → c ≤ 96 → mu' c i = mu c i) (q : AllM mu LS n) : AllM mu' LS n := fun F hF => by
  obtain ⟨q1, q2, q3⟩ := q F hF
  exact ⟨FlM_k h q1, lnsOk_e (fun i => h 92 i (by omega) (by omega)) (fun i => h 93 i (by omega) (by omega)) (fun i => h 95 i (by omega) (by omega)) (fun i => h 96 i (by omega) (by omega)) _ _ _ q2, q3⟩
theorem hd_cl (h : 0 ≤ v.toInt) : clF 0 v x = if 0 < v then hd0 v x else 0 := by
  have e0 : (0 : Int32).toInt = 0 := rfl
  by_cases c : 0 < v
  · rw [if_pos c, ← cl_mm (by rw [e0]; exact h)]
    rfl
  · rw [if_neg c]
    have c' : v = 0 := Int32.toInt_inj.mp (by
      rw [Int32.lt_iff_toInt_lt, e0] at c
      rw [e0]
      omega)
    subst c'
    unfold clF
    by_cases c1 : x < 0
    · rw [if_pos c1]
    · rw [if_neg c1]
      by_cases c2 : 0 < x
      · rw [if_pos c2]
      · rw [if_neg c2]
        refine Int32.toInt_inj.mp ?_
        rw [Int32.lt_iff_toInt_lt, e0] at c1 c2
        rw [e0]
        omega
theorem pc_cl {c : Nat} (hc : c ≤ 99) (h : 0 ≤ v.toInt ∧ v.toInt ≤ 9999) : clF 0 v ((v * nI c + 99) / 100) = (v * nI c + 99) / 100 ∧ 0 ≤ ((v * nI c + 99) / 100).toInt ∧ ((v * nI c + 99) / 100).toInt ≤ v.toInt := by
  obtain ⟨V, hV, rfl⟩ : ∃ V : Nat, V ≤ 9999 ∧ v = nI V := ⟨v.toInt.toNat, by omega, Int32.toInt_inj.mp (by rw [nI_toInt (by omega)]; omega)⟩
  have hm : V * c ≤ V * 99 := Nat.mul_le_mul_left V hc
  have e1 : nI V * nI c + 99 = nI (V * c + 99) := by rw [show nI V * nI c = nI (V * c) from (Int32.ofNat_mul V c).symm, show (99 : Int32) = nI 99 from rfl, nI_add]
  have e2 : nI (V * c + 99) / 100 = nI ((V * c + 99) / 100) := by
    refine Int32.toInt_inj.mp ?_
    rw [Int32.toInt_div, nI_toInt (by omega), nI_toInt (by omega), show (100 : Int32).toInt = 100 from rfl]
    rw [Int.tdiv_eq_ediv_of_nonneg (by omega)]
    rw [Int.bmod_eq_of_le (by omega) (by omega)]
    omega
  have le : (V * c + 99) / 100 ≤ V := by
    have : V * 99 = 99 * V := Nat.mul_comm _ _
    omega
  rw [e1, e2]
  have t1 : (nI ((V * c + 99) / 100)).toInt = ((V * c + 99) / 100 : Nat) := nI_toInt (by omega)
  have t2 : (nI V).toInt = (V : Int) := nI_toInt (by omega)
  refine ⟨?_, by omega, by omega⟩
  unfold clF
  rw [if_neg (nI_pos (by omega)), if_neg (nI_nlt (by omega) (by omega))]
end
