-- ===== the calls in thought, both sides: seen, soonest
/-- the least of nine with which something is there -/
noncomputable def snL (B : Nat → Nat) : Nat → Nat → Int32
  | 0, _ => -2
  | r + 1, k => if B k = 0 then snL B r (k + 1) else nI k
noncomputable def soU (t i : Nat) (b : Option (Nat × Nat)) : Option (Nat × Nat) := if t = 0 then b else match b with
  | none => some (i, t)
  | some (x, u) => if t < u then some (i, t) else some (x, u)
noncomputable def soL (B : Nat → Nat) : Nat → Nat → Option (Nat × Nat) → Option (Nat × Nat)
  | 0, _, b => b
  | r + 1, i, b => soL B r (i + 1) (soU (B i) i b)
noncomputable def soB (b : Option (Nat × Nat)) : Int32 := match b with
  | none => -2
  | some (x, _) => nI x
noncomputable def soT (b : Option (Nat × Nat)) : Int32 := match b with
  | none => -2
  | some (_, t) => nI t
noncomputable def soW (b : Option (Nat × Nat)) : Int32 := match b with
  | none => 0
  | some (_, t) => nI t
def soOk (b : Option (Nat × Nat)) : Prop := ∀ x t, b = some (x, t) → x < 6 ∧ t ≤ 400
section
variable {X : Tok} {d : Nat} {mu mu1 m m' m0 mu' mM : Mu} {la la1 la' : La} {ro ro1 ro' : Ro} {et : Nat → Option va_E} {N n S r i j a b nt L : Nat} {g k x y z s pc ca cb cc cd w t fl c : Int32} {T T2 G : Nat → Int32} {f : Option Nat} {LS : Nat → List Ln} {P : Nat → Nat → Int32} {l2 l3 l8 : Value} {B : Nat → Nat}
theorem soV_k (h : ∀ c j, (c = 84 ∨ c = 85 ∨ c = 86 ∨ (c = 81 ∧ 9 ≤ j ∧ j ≤ 11)) → m' c j = m c j) {px py : Nat} : soV m' S px py L = soV m S px py L := by
  have e : lpF m' S px py = lpF m S px py := funext fun j => by
    unfold lpF
    rw [h 86 _ (by omega), h 85 _ (by omega), h 84 _ (by omega)]
  unfold soV soE
  rw [e, h 81 11 (by omega), h 81 10 (by omega), h 81 9 (by omega)]
theorem knM_k (h : ∀ c j, (c = 84 ∨ c = 85 ∨ c = 86 ∨ (c = 81 ∧ 9 ≤ j ∧ j ≤ 11)) → m' c j = m c j) : knM m' S L = knM m S L := by
  unfold knM slM wxM wyM
  rw [soV_k h, soV_k h, soV_k h, soV_k h, soV_k h, soV_k h]
theorem Md_k (h : ∀ c j, ¬ c = 97 → ¬ c = 98 → (¬ c = 81 ∨ j < 30 ∨ 46 < j ∨ (35 < j ∧ j < 43)) → m' c j = m c j) (q : MdOk m0 m N n LS) : MdOk m0 m' N n LS := by
  obtain ⟨m3, m29, qA, qS⟩ := q
  refine ⟨(h 81 3 (by omega) (by omega) (by omega)).trans m3, (h 81 29 (by omega) (by omega) (by omega)).trans m29, AllM_k (fun c j h1 h2 => h c j (by omega) (by omega) (by omega)) qA, fun S hS => ?_⟩
  obtain ⟨⟨L, ⟨hL, h83⟩, hK⟩, hR, hRB⟩ := qS S hS
  refine ⟨⟨L, ⟨hL, (h 83 S (by omega) (by omega) (by omega)).trans h83⟩, ?_⟩, RtM_k (fun j => h 87 j (by omega) (by omega) (by omega)) hR, hRB⟩
  rw [← hK]
  exact knM_k (fun c j q => h c j (by omega) (by omega) (by omega))
theorem nI_z {B : Nat} (hB : B < 2 ^ 31) : (nI B ≤ 0) = (B = 0) := by
  by_cases c : B = 0
  · subst c
    exact propext ⟨fun _ => rfl, fun _ => by decide⟩
  · have : ¬ nI B ≤ 0 := nI_ge (a := 0) (b := B) (by omega) hB
    exact propext ⟨fun h => absurd h this, fun h => absurd h c⟩
theorem fb_400 (h : Nat → Int32) : fbN h 400 ≤ 400 ∧ bkN h 400 ≤ 400 := ⟨(fb_bk h 400).2, bk_le h 400⟩
set_option maxHeartbeats 2000000 in
theorem c_seL (hN : N ≤ 6) (hn : n ≤ 4) (h9 : m0 0 9 = nI N) (h0 : m0 0 10 = nI n) (hG : Grd N n g S r) : ∀ (q k : Nat) (m : Mu) (ro : Ro), k + q = 10 → rOk ro → (∀ c j, (c < 6 ∨ 6 < c) → (c < 49 ∨ 68 < c) → m c j = m0 c j) → AllC m LS n → ∃ (m' : Mu) (ro' : Ro), Rr X (d + 7) MTo_seen 21 [.ref 0, .int g, .int s, .int w, .int (nI k)] [] (Wd m la ro et) = some (some (.int (snL (fun k => fbN (gS m0 LS (fR r) 0 S (nI k) s w) 400) q k)), Wd m' la ro' et) ∧ AllC m' LS n
  | 0, k, m, ro, h, hr, ho, hA => by
    have : k = 10 := by omega
    subst this
    have z : (9 : Int32) < nI 10 := nI_lt (a := 9) (b := 10) (by omega) (by omega)
    refine ⟨m, ro, ?_, hA⟩
    rw [snL]
    simp only [r_MTo_seen_0, r_MTo_seen_1, r_MTo_seen_2, r_MTo_seen_5, r_MTo_seen_8, r_MTo_seen_9, r_MTo_seen_10, r_MTo_seen_13, r_MTo_seen_16, r_MTo_seen_17, r_MTo_seen_18, r_MTo_seen_19, r_MTo_seen_21, r_MTo_seen_23, r_MTo_seen_25, r_MTo_seen_28, r_MTo_seen_29, r_MTo_seen_30, r_MTo_seen_32, r_MTo_seen_35, r_MTo_seen_36, r_MTo_seen_37, r_MTo_seen_38, r_MTo_seen_41, r_MTo_seen_44, r_MTo_seen_46, r_MTo_seen_47, r_MTo_seen_50, r_MTo_seen_53, r_MTo_seen_55, sL_0, sL_1, sL_2, mk_i, mk_r, mk_f, mk_n, mk_u, mk_l, List.set_cons_succ, List.set_cons_zero, Nat.reduceAdd, ckS_0, ckS_1, ckS_2, ckS_3, ckS_4, Option.bind_some, Option.isSome_some, psh, if_true, if_false, i10, not_true_eq_false, not_false_eq_true, Bool.false_eq_true, and_self, and_true, true_and, eq_self, z]
  | q + 1, k, m, ro, h, hr, ho, hA => by
    have z : ¬ (9 : Int32) < nI k := nI_nlt (a := 9) (b := k) (by omega) (by omega)
    obtain ⟨hS, hr', hg⟩ := id hG
    have eL := e_lay (X := X) (d := d + 3) (m := m) (la := la) (et := et) (k := nI k) hr hN hn ((ho _ _ (by omega) (by omega)).trans h9) ((ho _ _ (by omega) (by omega)).trans h0) hG
    obtain ⟨m1, hm1⟩ : ∃ m1, m1 = ruM m (19 + 5 * S) (nI k) := ⟨_, rfl⟩
    have o1 : ∀ c j, ¬ c = 6 → m1 c j = m c j := fun c j h => by rw [hm1]; exact ru_o h
    obtain ⟨hk, h66⟩ := ru_co (m := m) (a := 19 + 5 * S) (k := nI k) (by omega)
    have hs := ru_sit (m := m) (a := 19 + 5 * S) (k := nI k) (ro := ro) (n := n) hr' hn
    rw [← hm1] at eL hk hs
    rw [ho (19 + 5 * S + 4) 0 (by omega) (by omega), ho (19 + 5 * S + 4) 1 (by omega) (by omega), ho (19 + 5 * S + 4) 2 (by omega) (by omega), ho (19 + 5 * S + 4) 3 (by omega) (by omega)] at hk
    obtain ⟨m2, T, eF, o2, A2⟩ := e_firstBack (X := X) (d := d + 1) (la := la) (et := et) (s := s) (w := w) hn hk hs (AllC_k (m' := m1) (fun c j h1 h2 => o1 c j (by omega)) hn hA)
    obtain ⟨V, hV⟩ : ∃ V, V = fbN (gS m0 LS (fR r) 0 S (nI k) s w) 400 := ⟨_, rfl⟩
    have hV4 : V ≤ 400 := by rw [hV]; exact (fb_400 _).1
    have eF : Rr X (d + 6) MTo_firstBack 0 [.ref 0, .int s, .int w, mkU] [] (Wd m1 la (upR ro 6 5 (flN r)) et) = some (some (.int (nI V)), Wd (moM m2 T) la (upR ro 6 5 (flN r)) et) := by rw [hV]; exact eF
    have A3 : AllC (moM m2 T) LS n := AllC_k (fun c j h1 h2 => mo_o (by omega)) hn A2
    have eV := nI_z (B := V) (by omega)
    rw [snL, ← hV]
    by_cases c : V = 0
    · rw [if_pos c]
      obtain ⟨m', ro', E, A'⟩ := c_seL hN hn h9 h0 hG q (k + 1) (moM m2 T) (upR ro 6 5 (flN r)) (by omega) (rOk_u hr hr' hn) (fun c j h1 h2 => by rw [mo_o (by omega), o2 c j h2, o1 c j (by omega)]; exact ho c j h1 h2) A3
      refine ⟨m', ro', ?_, A'⟩
      rw [← E]
      have eV0 := eV.trans (eq_true c)
      simp only [r_MTo_seen_21, r_MTo_seen_23, r_MTo_seen_25, r_MTo_seen_28, r_MTo_seen_29, r_MTo_seen_30, r_MTo_seen_32, r_MTo_seen_35, r_MTo_seen_36, r_MTo_seen_37, r_MTo_seen_38, r_MTo_seen_41, r_MTo_seen_44, r_MTo_seen_46, r_MTo_seen_47, r_MTo_seen_50, sL_0, sL_1, sL_2, mk_i, mk_r, mk_f, mk_n, mk_u, mk_l, List.set_cons_succ, List.set_cons_zero, Nat.reduceAdd, ckS_0, ckS_1, ckS_2, ckS_3, ckS_4, Option.bind_some, Option.isSome_some, psh, if_true, if_false, i10, not_true_eq_false, not_false_eq_true, Bool.false_eq_true, and_self, and_true, true_and, eq_self, qI_0_9, qI_0_10, qR_0_0, qRd_0_0, qR_0_1, qRd_0_1, qR_0_2, qRd_0_2, qR_0_3, qRd_0_3, qR_0_4, qRd_0_4, qR_0_5, qRd_0_5, qR_0_6, qRd_0_6, qR_0_7, qRd_0_7, qR_0_8, qRd_0_8, qO_0, z, eL, eF, eV0, nI_1]
    · rw [if_neg c]
      refine ⟨moM m2 T, upR ro 6 5 (flN r), ?_, A3⟩
      simp only [r_MTo_seen_21, r_MTo_seen_23, r_MTo_seen_25, r_MTo_seen_28, r_MTo_seen_29, r_MTo_seen_30, r_MTo_seen_32, r_MTo_seen_35, r_MTo_seen_36, r_MTo_seen_37, r_MTo_seen_38, r_MTo_seen_41, r_MTo_seen_44, r_MTo_seen_46, sL_0, sL_1, sL_2, mk_i, mk_r, mk_f, mk_n, mk_u, mk_l, List.set_cons_succ, List.set_cons_zero, Nat.reduceAdd, ckS_0, ckS_1, ckS_2, ckS_3, ckS_4, Option.bind_some, Option.isSome_some, psh, if_true, if_false, i10, not_true_eq_false, not_false_eq_true, Bool.false_eq_true, and_self, and_true, true_and, eq_self, qI_0_9, qI_0_10, qR_0_0, qRd_0_0, qR_0_1, qRd_0_1, qR_0_2, qRd_0_2, qR_0_3, qRd_0_3, qR_0_4, qRd_0_4, qR_0_5, qRd_0_5, qR_0_6, qRd_0_6, qR_0_7, qRd_0_7, qR_0_8, qRd_0_8, qO_0, z, eL, eF, eV, c]
set_option maxHeartbeats 2000000 in
theorem m_seL (hS : S < 6) (hn : n ≤ 4) (hB : RtB cc cd) (hr : r = 9 ∨ r < n) (hb : stB s w) (e1 : g / 10 = nI S) (e2 : g - nI S * 10 = nI r) : ∀ (q k : Nat) (m : Mu), k + q = 10 → RtM m S ca cb cc cd → AllM m LS n → ∃ m' : Mu, Rr X (d + 7) MRm_seen 21 [.ref 81, .int g, .int s, .int w, .int (nI k)] [] (Wd m la ro et) = some (some (.int (snL (fun k => fbN (goS (nI k) ca cb cc cd (flO LS (fR r)) 0 s w) 400) q k)), Wd m' la ro et)
  | 0, k, m, h, hR, hA => by
    have : k = 10 := by omega
    subst this
    have z : (9 : Int32) < nI 10 := nI_lt (a := 9) (b := 10) (by omega) (by omega)
    refine ⟨m, ?_⟩
    rw [snL]
    simp only [r_MRm_seen_0, r_MRm_seen_1, r_MRm_seen_2, r_MRm_seen_5, r_MRm_seen_8, r_MRm_seen_9, r_MRm_seen_10, r_MRm_seen_13, r_MRm_seen_16, r_MRm_seen_17, r_MRm_seen_18, r_MRm_seen_19, r_MRm_seen_21, r_MRm_seen_23, r_MRm_seen_25, r_MRm_seen_28, r_MRm_seen_29, r_MRm_seen_30, r_MRm_seen_32, r_MRm_seen_33, r_MRm_seen_35, r_MRm_seen_36, r_MRm_seen_38, r_MRm_seen_39, r_MRm_seen_40, r_MRm_seen_41, r_MRm_seen_44, r_MRm_seen_45, r_MRm_seen_48, r_MRm_seen_51, r_MRm_seen_53, r_MRm_seen_54, r_MRm_seen_57, r_MRm_seen_60, r_MRm_seen_62, sL_0, sL_1, sL_2, mk_i, mk_r, mk_f, mk_n, mk_u, mk_l, List.set_cons_succ, List.set_cons_zero, Nat.reduceAdd, ckS_0, ckS_1, ckS_2, ckS_3, ckS_4, Option.bind_some, Option.isSome_some, psh, if_true, if_false, i10, not_true_eq_false, not_false_eq_true, Bool.false_eq_true, and_self, and_true, true_and, eq_self, z]
  | q + 1, k, m, h, hR, hA => by
    have z : ¬ (9 : Int32) < nI k := nI_nlt (a := 9) (b := k) (by omega) (by omega)
    obtain ⟨m1, eG, oG, r44, r45⟩ := e_goThrough (X := X) (d := d) (la := la) (ro := ro) (et := et) (k := nI k) (f := fR r) (pc := 0) (fl := nI r) (LS := LS) hS hn hR hB (sitM_r hn hr) hA (st_bd hb)
    obtain ⟨W, hW⟩ : ∃ W, W = bkN (goS (nI k) ca cb cc cd (flO LS (fR r)) 0 s w) 400 := ⟨_, rfl⟩
    have hW4 : W ≤ 400 := by rw [hW]; exact (fb_400 _).2
    have hfb := (fb_bk (goS (nI k) ca cb cc cd (flO LS (fR r)) 0 s w) 400).1
    rw [← hW] at r44 hfb
    have eV := nI_z (B := W) (by omega)
    rw [snL]
    by_cases c : W = 0
    · have c' : fbN (goS (nI k) ca cb cc cd (flO LS (fR r)) 0 s w) 400 = 0 := hfb.mpr c
      rw [if_pos c']
      obtain ⟨m', E⟩ := m_seL hS hn hB hr hb e1 e2 q (k + 1) m1 (by omega) (RtM_k (fun j => oG 87 j (by omega) (by omega) (by omega)) hR) (AllM_k (fun c j h1 h2 => oG c j (by omega) (by omega) (by omega)) hA)
      refine ⟨m', ?_⟩
      rw [← E]
      have eV0 := eV.trans (eq_true c)
      simp only [r_MRm_seen_21, r_MRm_seen_23, r_MRm_seen_25, r_MRm_seen_28, r_MRm_seen_29, r_MRm_seen_30, r_MRm_seen_32, r_MRm_seen_33, r_MRm_seen_35, r_MRm_seen_36, r_MRm_seen_38, r_MRm_seen_39, r_MRm_seen_40, r_MRm_seen_41, r_MRm_seen_44, r_MRm_seen_45, r_MRm_seen_48, r_MRm_seen_51, r_MRm_seen_53, r_MRm_seen_54, r_MRm_seen_57, sL_0, sL_1, sL_2, mk_i, mk_r, mk_f, mk_n, mk_u, mk_l, List.set_cons_succ, List.set_cons_zero, Nat.reduceAdd, ckS_0, ckS_1, ckS_2, ckS_3, ckS_4, Option.bind_some, Option.isSome_some, psh, if_true, if_false, i10, not_true_eq_false, not_false_eq_true, Bool.false_eq_true, and_self, and_true, true_and, eq_self, qI_81_0, qI_81_2, qI_81_3, qI_81_9, qI_81_10, qI_81_11, qI_81_12, qI_81_13, qI_81_18, qI_81_19, qI_81_20, qI_81_21, qI_81_29, qI_81_30, qI_81_31, qI_81_32, qI_81_33, qI_81_34, qI_81_35, qI_81_39, qI_81_40, qI_81_41, qI_81_42, qI_81_43, qI_81_44, qI_81_45, qI_81_46, qI_81_47, qI_81_51, qI_81_53, qR_81_1, qRd_81_1, qR_81_4, qRd_81_4, qR_81_5, qRd_81_5, qR_81_6, qRd_81_6, qR_81_7, qRd_81_7, qR_81_8, qRd_81_8, qR_81_14, qRd_81_14, qR_81_15, qRd_81_15, qR_81_16, qRd_81_16, qR_81_17, qRd_81_17, qR_81_22, qRd_81_22, qR_81_23, qRd_81_23, qR_81_24, qRd_81_24, qR_81_25, qRd_81_25, qR_81_26, qRd_81_26, qR_81_27, qRd_81_27, qR_81_28, qRd_81_28, qR_81_36, qRd_81_36, qR_81_37, qRd_81_37, qR_81_38, qRd_81_38, qR_81_48, qRd_81_48, qR_81_49, qRd_81_49, qR_81_50, qRd_81_50, qR_81_52, qRd_81_52, qR_81_54, qRd_81_54, qR_81_55, qRd_81_55, qR_81_56, qRd_81_56, qR_81_57, qRd_81_57, qR_81_58, qRd_81_58, qO_81, z, e1, e2, eG, r44, eV0, nI_1, show ¬ (10 : Int32) = 0 by decide]
    · have c' : ¬ fbN (goS (nI k) ca cb cc cd (flO LS (fR r)) 0 s w) 400 = 0 := fun q => c (hfb.mp q)
      rw [if_neg c']
      refine ⟨m1, ?_⟩
      simp only [r_MRm_seen_21, r_MRm_seen_23, r_MRm_seen_25, r_MRm_seen_28, r_MRm_seen_29, r_MRm_seen_30, r_MRm_seen_32, r_MRm_seen_33, r_MRm_seen_35, r_MRm_seen_36, r_MRm_seen_38, r_MRm_seen_39, r_MRm_seen_40, r_MRm_seen_41, r_MRm_seen_44, r_MRm_seen_45, r_MRm_seen_48, r_MRm_seen_51, r_MRm_seen_53, sL_0, sL_1, sL_2, mk_i, mk_r, mk_f, mk_n, mk_u, mk_l, List.set_cons_succ, List.set_cons_zero, Nat.reduceAdd, ckS_0, ckS_1, ckS_2, ckS_3, ckS_4, Option.bind_some, Option.isSome_some, psh, if_true, if_false, i10, not_true_eq_false, not_false_eq_true, Bool.false_eq_true, and_self, and_true, true_and, eq_self, qI_81_0, qI_81_2, qI_81_3, qI_81_9, qI_81_10, qI_81_11, qI_81_12, qI_81_13, qI_81_18, qI_81_19, qI_81_20, qI_81_21, qI_81_29, qI_81_30, qI_81_31, qI_81_32, qI_81_33, qI_81_34, qI_81_35, qI_81_39, qI_81_40, qI_81_41, qI_81_42, qI_81_43, qI_81_44, qI_81_45, qI_81_46, qI_81_47, qI_81_51, qI_81_53, qR_81_1, qRd_81_1, qR_81_4, qRd_81_4, qR_81_5, qRd_81_5, qR_81_6, qRd_81_6, qR_81_7, qRd_81_7, qR_81_8, qRd_81_8, qR_81_14, qRd_81_14, qR_81_15, qRd_81_15, qR_81_16, qRd_81_16, qR_81_17, qRd_81_17, qR_81_22, qRd_81_22, qR_81_23, qRd_81_23, qR_81_24, qRd_81_24, qR_81_25, qRd_81_25, qR_81_26, qRd_81_26, qR_81_27, qRd_81_27, qR_81_28, qRd_81_28, qR_81_36, qRd_81_36, qR_81_37, qRd_81_37, qR_81_38, qRd_81_38, qR_81_48, qRd_81_48, qR_81_49, qRd_81_49, qR_81_50, qRd_81_50, qR_81_52, qRd_81_52, qR_81_54, qRd_81_54, qR_81_55, qRd_81_55, qR_81_56, qRd_81_56, qR_81_57, qRd_81_57, qR_81_58, qRd_81_58, qO_81, z, e1, e2, eG, r44, eV, c, show ¬ (10 : Int32) = 0 by decide]
set_option maxHeartbeats 1000000 in
theorem seen_b (hr : rOk ro) (hN : N ≤ 6) (hn : n ≤ 4) (h9 : m 0 9 = nI N) (h0 : m 0 10 = nI n) (hA : AllC m LS n) : ∃ (x : Int32) (m' : Mu) (ro' : Ro), Rr X (d + 7) MTo_seen 0 [.ref 0, .int g, .int s, .int w, mkU] [] (Wd m la ro et) = some (some (.int x), Wd m' la ro' et) ∧ AllC m' LS n ∧ ∀ (mM : Mu) (laM : La) (roM : Ro), MdOk m mM N n LS → ∃ mM' : Mu, Rr X (d + 7) MRm_seen 0 [.ref 81, .int g, .int s, .int w, mkU] [] (Wd mM laM roM et) = some (some (.int x), Wd mM' laM roM et) := by
  have eG := e_isGround (X := X) (d := d + 3) (mu := m) (la := la) (et := et) (g := g) hr hN hn h9 h0
  have eB := e_startC (X := X) (d := d + 5) (mu := m) (la := la) (ro := ro) (et := et) (s := s) (w := w)
  have eBM := fun (mM : Mu) (laM : La) (roM : Ro) => e_startM (X := X) (d := d + 5) (mu := mM) (la := laM) (ro := roM) (et := et) (s := s) (w := w)
  rcases g_ca hN hn g with ⟨S, r, hG⟩ | hG
  · have eG := eG.1 S r hG
    have eGM := fun (mM : Mu) (laM : La) (roM : Ro) (h3 : mM 81 3 = nI N) (h29 : mM 81 29 = nI n) => (e_isGoing (X := X) (d := d + 4) (mu := mM) (la := laM) (ro := roM) (et := et) (g := g) hN hn h3 h29).1 S r hG
    by_cases hB : stB s w
    · have eB := eB.1 hB
      have eBM := fun mM laM roM => (eBM mM laM roM).1 hB
      obtain ⟨hS, hr', hg⟩ := id hG
      obtain ⟨m', ro', E, A'⟩ := c_seL (X := X) (d := d) (la := la) (et := et) (s := s) (w := w) (m0 := m) (LS := LS) hN hn h9 h0 hG 9 1 m ro (by omega) hr (fun _ _ _ _ => rfl) hA
      refine ⟨snL (fun k => fbN (gS m LS (fR r) 0 S (nI k) s w) 400) 9 1, m', ro', ?_, A', fun mM laM roM hM => ?_⟩
      · rw [← E]
        simp only [r_MTo_seen_0, r_MTo_seen_1, r_MTo_seen_2, r_MTo_seen_5, r_MTo_seen_8, r_MTo_seen_9, r_MTo_seen_10, r_MTo_seen_13, r_MTo_seen_16, r_MTo_seen_17, r_MTo_seen_18, r_MTo_seen_19, sL_0, sL_1, sL_2, mk_i, mk_r, mk_f, mk_n, mk_u, mk_l, List.set_cons_succ, List.set_cons_zero, Nat.reduceAdd, ckS_0, ckS_1, ckS_2, ckS_3, ckS_4, Option.bind_some, Option.isSome_some, psh, if_true, if_false, i10, not_true_eq_false, not_false_eq_true, Bool.false_eq_true, and_self, and_true, true_and, eq_self, qI_0_9, qI_0_10, qR_0_0, qRd_0_0, qR_0_1, qRd_0_1, qR_0_2, qRd_0_2, qR_0_3, qRd_0_3, qR_0_4, qRd_0_4, qR_0_5, qRd_0_5, qR_0_6, qRd_0_6, qR_0_7, qRd_0_7, qR_0_8, qRd_0_8, qO_0, eG, eB, show nI 1 = (1 : Int32) from rfl]
      · obtain ⟨q3, q29, qA, qS⟩ := hM
        obtain ⟨⟨L, ⟨hL, h83⟩, hK⟩, hR, hRB⟩ := qS S hS
        obtain ⟨e1, e2⟩ := g_dv (r := r) (S := S) (by omega) (by omega)
        rw [← hg] at e1 e2
        have eGM := eGM mM laM roM q3 q29
        have eBM := eBM mM laM roM
        obtain ⟨mM', E⟩ := m_seL (X := X) (d := d) (la := laM) (ro := roM) (et := et) (LS := LS) (show S < 6 by omega) hn hRB hr' hB e1 e2 9 1 mM (by omega) hR qA
        refine ⟨mM', ?_⟩
        refine Eq.trans ?_ E
        simp only [r_MRm_seen_0, r_MRm_seen_1, r_MRm_seen_2, r_MRm_seen_5, r_MRm_seen_8, r_MRm_seen_9, r_MRm_seen_10, r_MRm_seen_13, r_MRm_seen_16, r_MRm_seen_17, r_MRm_seen_18, r_MRm_seen_19, sL_0, sL_1, sL_2, mk_i, mk_r, mk_f, mk_n, mk_u, mk_l, List.set_cons_succ, List.set_cons_zero, Nat.reduceAdd, ckS_0, ckS_1, ckS_2, ckS_3, ckS_4, Option.bind_some, Option.isSome_some, psh, if_true, if_false, i10, not_true_eq_false, not_false_eq_true, Bool.false_eq_true, and_self, and_true, true_and, eq_self, qI_81_0, qI_81_2, qI_81_3, qI_81_9, qI_81_10, qI_81_11, qI_81_12, qI_81_13, qI_81_18, qI_81_19, qI_81_20, qI_81_21, qI_81_29, qI_81_30, qI_81_31, qI_81_32, qI_81_33, qI_81_34, qI_81_35, qI_81_39, qI_81_40, qI_81_41, qI_81_42, qI_81_43, qI_81_44, qI_81_45, qI_81_46, qI_81_47, qI_81_51, qI_81_53, qR_81_1, qRd_81_1, qR_81_4, qRd_81_4, qR_81_5, qRd_81_5, qR_81_6, qRd_81_6, qR_81_7, qRd_81_7, qR_81_8, qRd_81_8, qR_81_14, qRd_81_14, qR_81_15, qRd_81_15, qR_81_16, qRd_81_16, qR_81_17, qRd_81_17, qR_81_22, qRd_81_22, qR_81_23, qRd_81_23, qR_81_24, qRd_81_24, qR_81_25, qRd_81_25, qR_81_26, qRd_81_26, qR_81_27, qRd_81_27, qR_81_28, qRd_81_28, qR_81_36, qRd_81_36, qR_81_37, qRd_81_37, qR_81_38, qRd_81_38, qR_81_48, qRd_81_48, qR_81_49, qRd_81_49, qR_81_50, qRd_81_50, qR_81_52, qRd_81_52, qR_81_54, qRd_81_54, qR_81_55, qRd_81_55, qR_81_56, qRd_81_56, qR_81_57, qRd_81_57, qR_81_58, qRd_81_58, qO_81, eGM, eBM, show nI 1 = (1 : Int32) from rfl]
    · have eB := eB.2 hB
      have eBM := fun mM laM roM => (eBM mM laM roM).2 hB
      refine ⟨-1, m, ro, ?_, hA, fun mM laM roM hM => ⟨mM, ?_⟩⟩
      · simp only [r_MTo_seen_0, r_MTo_seen_1, r_MTo_seen_2, r_MTo_seen_5, r_MTo_seen_8, r_MTo_seen_9, r_MTo_seen_10, r_MTo_seen_13, r_MTo_seen_16, r_MTo_seen_17, r_MTo_seen_18, r_MTo_seen_19, r_MTo_seen_21, r_MTo_seen_23, r_MTo_seen_25, r_MTo_seen_28, r_MTo_seen_29, r_MTo_seen_30, r_MTo_seen_32, r_MTo_seen_35, r_MTo_seen_36, r_MTo_seen_37, r_MTo_seen_38, r_MTo_seen_41, r_MTo_seen_44, r_MTo_seen_46, r_MTo_seen_47, r_MTo_seen_50, r_MTo_seen_53, r_MTo_seen_55, sL_0, sL_1, sL_2, mk_i, mk_r, mk_f, mk_n, mk_u, mk_l, List.set_cons_succ, List.set_cons_zero, Nat.reduceAdd, ckS_0, ckS_1, ckS_2, ckS_3, ckS_4, Option.bind_some, Option.isSome_some, psh, if_true, if_false, i10, not_true_eq_false, not_false_eq_true, Bool.false_eq_true, and_self, and_true, true_and, eq_self, qI_0_9, qI_0_10, qI_6_0, qI_6_1, qI_6_2, qI_6_3, qI_6_4, qI_6_6, qI_6_7, qI_6_8, qI_6_9, qI_6_10, qI_6_11, qI_6_12, qI_6_13, qI_6_14, qI_6_15, qI_6_16, qR_0_0, qRd_0_0, qR_0_1, qRd_0_1, qR_0_2, qRd_0_2, qR_0_3, qRd_0_3, qR_0_4, qRd_0_4, qR_0_5, qRd_0_5, qR_0_6, qRd_0_6, qR_0_7, qRd_0_7, qR_0_8, qRd_0_8, qO_0, qO_6, qM_6_5, eG, eB]
      · have eGM := eGM mM laM roM hM.1 hM.2.1
        have eBM := eBM mM laM roM
        simp only [r_MRm_seen_0, r_MRm_seen_1, r_MRm_seen_2, r_MRm_seen_5, r_MRm_seen_8, r_MRm_seen_9, r_MRm_seen_10, r_MRm_seen_13, r_MRm_seen_16, r_MRm_seen_17, r_MRm_seen_18, r_MRm_seen_19, r_MRm_seen_21, r_MRm_seen_23, r_MRm_seen_25, r_MRm_seen_28, r_MRm_seen_29, r_MRm_seen_30, r_MRm_seen_32, r_MRm_seen_33, r_MRm_seen_35, r_MRm_seen_36, r_MRm_seen_38, r_MRm_seen_39, r_MRm_seen_40, r_MRm_seen_41, r_MRm_seen_44, r_MRm_seen_45, r_MRm_seen_48, r_MRm_seen_51, r_MRm_seen_53, r_MRm_seen_54, r_MRm_seen_57, r_MRm_seen_60, r_MRm_seen_62, sL_0, sL_1, sL_2, mk_i, mk_r, mk_f, mk_n, mk_u, mk_l, List.set_cons_succ, List.set_cons_zero, Nat.reduceAdd, ckS_0, ckS_1, ckS_2, ckS_3, ckS_4, Option.bind_some, Option.isSome_some, psh, if_true, if_false, i10, not_true_eq_false, not_false_eq_true, Bool.false_eq_true, and_self, and_true, true_and, eq_self, qI_81_0, qI_81_2, qI_81_3, qI_81_9, qI_81_10, qI_81_11, qI_81_12, qI_81_13, qI_81_18, qI_81_19, qI_81_20, qI_81_21, qI_81_29, qI_81_30, qI_81_31, qI_81_32, qI_81_33, qI_81_34, qI_81_35, qI_81_39, qI_81_40, qI_81_41, qI_81_42, qI_81_43, qI_81_44, qI_81_45, qI_81_46, qI_81_47, qI_81_51, qI_81_53, qR_81_1, qRd_81_1, qR_81_4, qRd_81_4, qR_81_5, qRd_81_5, qR_81_6, qRd_81_6, qR_81_7, qRd_81_7, qR_81_8, qRd_81_8, qR_81_14, qRd_81_14, qR_81_15, qRd_81_15, qR_81_16, qRd_81_16, qR_81_17, qRd_81_17, qR_81_22, qRd_81_22, qR_81_23, qRd_81_23, qR_81_24, qRd_81_24, qR_81_25, qRd_81_25, qR_81_26, qRd_81_26, qR_81_27, qRd_81_27, qR_81_28, qRd_81_28, qR_81_36, qRd_81_36, qR_81_37, qRd_81_37, qR_81_38, qRd_81_38, qR_81_48, qRd_81_48, qR_81_49, qRd_81_49, qR_81_50, qRd_81_50, qR_81_52, qRd_81_52, qR_81_54, qRd_81_54, qR_81_55, qRd_81_55, qR_81_56, qRd_81_56, qR_81_57, qRd_81_57, qR_81_58, qRd_81_58, qO_81, eGM, eBM]
  · have eG := eG.2 hG
    refine ⟨-1, m, ro, ?_, hA, fun mM laM roM hM => ⟨mM, ?_⟩⟩
    · simp only [r_MTo_seen_0, r_MTo_seen_1, r_MTo_seen_2, r_MTo_seen_5, r_MTo_seen_8, r_MTo_seen_9, r_MTo_seen_10, r_MTo_seen_13, r_MTo_seen_16, r_MTo_seen_17, r_MTo_seen_18, r_MTo_seen_19, r_MTo_seen_21, r_MTo_seen_23, r_MTo_seen_25, r_MTo_seen_28, r_MTo_seen_29, r_MTo_seen_30, r_MTo_seen_32, r_MTo_seen_35, r_MTo_seen_36, r_MTo_seen_37, r_MTo_seen_38, r_MTo_seen_41, r_MTo_seen_44, r_MTo_seen_46, r_MTo_seen_47, r_MTo_seen_50, r_MTo_seen_53, r_MTo_seen_55, sL_0, sL_1, sL_2, mk_i, mk_r, mk_f, mk_n, mk_u, mk_l, List.set_cons_succ, List.set_cons_zero, Nat.reduceAdd, ckS_0, ckS_1, ckS_2, ckS_3, ckS_4, Option.bind_some, Option.isSome_some, psh, if_true, if_false, i10, not_true_eq_false, not_false_eq_true, Bool.false_eq_true, and_self, and_true, true_and, eq_self, qI_0_9, qI_0_10, qI_6_0, qI_6_1, qI_6_2, qI_6_3, qI_6_4, qI_6_6, qI_6_7, qI_6_8, qI_6_9, qI_6_10, qI_6_11, qI_6_12, qI_6_13, qI_6_14, qI_6_15, qI_6_16, qR_0_0, qRd_0_0, qR_0_1, qRd_0_1, qR_0_2, qRd_0_2, qR_0_3, qRd_0_3, qR_0_4, qRd_0_4, qR_0_5, qRd_0_5, qR_0_6, qRd_0_6, qR_0_7, qRd_0_7, qR_0_8, qRd_0_8, qO_0, qO_6, qM_6_5, eG]
    · have eGM := (e_isGoing (X := X) (d := d + 4) (mu := mM) (la := laM) (ro := roM) (et := et) (g := g) hN hn hM.1 hM.2.1).2 hG
      simp only [r_MRm_seen_0, r_MRm_seen_1, r_MRm_seen_2, r_MRm_seen_5, r_MRm_seen_8, r_MRm_seen_9, r_MRm_seen_10, r_MRm_seen_13, r_MRm_seen_16, r_MRm_seen_17, r_MRm_seen_18, r_MRm_seen_19, r_MRm_seen_21, r_MRm_seen_23, r_MRm_seen_25, r_MRm_seen_28, r_MRm_seen_29, r_MRm_seen_30, r_MRm_seen_32, r_MRm_seen_33, r_MRm_seen_35, r_MRm_seen_36, r_MRm_seen_38, r_MRm_seen_39, r_MRm_seen_40, r_MRm_seen_41, r_MRm_seen_44, r_MRm_seen_45, r_MRm_seen_48, r_MRm_seen_51, r_MRm_seen_53, r_MRm_seen_54, r_MRm_seen_57, r_MRm_seen_60, r_MRm_seen_62, sL_0, sL_1, sL_2, mk_i, mk_r, mk_f, mk_n, mk_u, mk_l, List.set_cons_succ, List.set_cons_zero, Nat.reduceAdd, ckS_0, ckS_1, ckS_2, ckS_3, ckS_4, Option.bind_some, Option.isSome_some, psh, if_true, if_false, i10, not_true_eq_false, not_false_eq_true, Bool.false_eq_true, and_self, and_true, true_and, eq_self, qI_81_0, qI_81_2, qI_81_3, qI_81_9, qI_81_10, qI_81_11, qI_81_12, qI_81_13, qI_81_18, qI_81_19, qI_81_20, qI_81_21, qI_81_29, qI_81_30, qI_81_31, qI_81_32, qI_81_33, qI_81_34, qI_81_35, qI_81_39, qI_81_40, qI_81_41, qI_81_42, qI_81_43, qI_81_44, qI_81_45, qI_81_46, qI_81_47, qI_81_51, qI_81_53, qR_81_1, qRd_81_1, qR_81_4, qRd_81_4, qR_81_5, qRd_81_5, qR_81_6, qRd_81_6, qR_81_7, qRd_81_7, qR_81_8, qRd_81_8, qR_81_14, qRd_81_14, qR_81_15, qRd_81_15, qR_81_16, qRd_81_16, qR_81_17, qRd_81_17, qR_81_22, qRd_81_22, qR_81_23, qRd_81_23, qR_81_24, qRd_81_24, qR_81_25, qRd_81_25, qR_81_26, qRd_81_26, qR_81_27, qRd_81_27, qR_81_28, qRd_81_28, qR_81_36, qRd_81_36, qR_81_37, qRd_81_37, qR_81_38, qRd_81_38, qR_81_48, qRd_81_48, qR_81_49, qRd_81_49, qR_81_50, qRd_81_50, qR_81_52, qRd_81_52, qR_81_54, qRd_81_54, qR_81_55, qRd_81_55, qR_81_56, qRd_81_56, qR_81_57, qRd_81_57, qR_81_58, qRd_81_58, qO_81, eGM]
-- soonest
theorem so_k {b : Option (Nat × Nat)} {t : Nat} (hb : soOk b) (hi : i < 6) (ht : t ≤ 400) : soOk (soU t i b) := by
  intro x u e
  unfold soU at e
  by_cases c : t = 0
  · rw [if_pos c] at e
    exact hb x u e
  · rw [if_neg c] at e
    cases b with
    | none =>
      cases e
      exact ⟨hi, ht⟩
    | some q =>
      obtain ⟨x', u'⟩ := q
      have e : (if t < u' then some (i, t) else some (x', u')) = some (x, u) := e
      by_cases c2 : t < u'
      · rw [if_pos c2] at e
        cases e
        exact ⟨hi, ht⟩
      · rw [if_neg c2] at e
        cases e
        exact hb _ _ rfl
theorem e_flN (hr : rOk ro) (hn : n ≤ 4) (h0 : m 0 10 = nI n) : ((∃ r, (r = 9 ∨ r < n) ∧ fl = nI r) → Rr X (d + 2) MTo_isFloorOrNone 0 [.ref 0, .int fl] [] (Wd m la ro et) = some (some (.int 1), Wd m la ro et)) ∧ ((¬ fl = 9 ∧ ¬ (0 ≤ fl ∧ fl ≤ nI n - 1)) → Rr X (d + 2) MTo_isFloorOrNone 0 [.ref 0, .int fl] [] (Wd m la ro et) = some (some (.int 0), Wd m la ro et)) := by
  constructor
  · rintro ⟨r, rfl | hF, rfl⟩
    · simp only [r_MTo_isFloorOrNone_0, r_MTo_isFloorOrNone_1, r_MTo_isFloorOrNone_3, r_MTo_isFloorOrNone_6, r_MTo_isFloorOrNone_7, r_MTo_isFloorOrNone_8, r_MTo_isFloorOrNone_11, r_MTo_isFloorOrNone_11n, r_MTo_isFloorOrNone_14, r_MTo_isFloorOrNone_15, r_MTo_isFloorOrNone_18, r_MTo_isFloorOrNone_19, sL_0, sL_1, sL_2, mk_i, mk_r, mk_f, mk_n, mk_u, mk_l, List.set_cons_succ, List.set_cons_zero, Nat.reduceAdd, ckS_0, ckS_1, ckS_2, ckS_3, ckS_4, Option.bind_some, Option.isSome_some, psh, if_true, if_false, i10, not_true_eq_false, not_false_eq_true, Bool.false_eq_true, and_self, and_true, true_and, eq_self, true_or, or_true, qI_0_9, qI_0_10, qR_0_0, qRd_0_0, qR_0_1, qRd_0_1, qR_0_2, qRd_0_2, qR_0_3, qRd_0_3, qR_0_4, qRd_0_4, qR_0_5, qRd_0_5, qR_0_6, qRd_0_6, qR_0_7, qRd_0_7, qR_0_8, qRd_0_8, qO_0, show nI 9 = (9 : Int32) from rfl]
    · have n9 : ¬ nI r = 9 := fun q => by have := (nI_eq (a := r) (b := 9) (by omega) (by omega)).mp q; omega
      have eF := e_floorAt (X := X) (d := d) (mu := m) (la := la) (et := et) hr hn h0 hF
      simp only [r_MTo_isFloorOrNone_0, r_MTo_isFloorOrNone_1, r_MTo_isFloorOrNone_3, r_MTo_isFloorOrNone_6, r_MTo_isFloorOrNone_7, r_MTo_isFloorOrNone_8, r_MTo_isFloorOrNone_11, r_MTo_isFloorOrNone_11n, r_MTo_isFloorOrNone_14, r_MTo_isFloorOrNone_15, r_MTo_isFloorOrNone_18, r_MTo_isFloorOrNone_19, sL_0, sL_1, sL_2, mk_i, mk_r, mk_f, mk_n, mk_u, mk_l, List.set_cons_succ, List.set_cons_zero, Nat.reduceAdd, ckS_0, ckS_1, ckS_2, ckS_3, ckS_4, Option.bind_some, Option.isSome_some, psh, if_true, if_false, i10, not_true_eq_false, not_false_eq_true, Bool.false_eq_true, and_self, and_true, true_and, eq_self, true_or, or_true, qI_0_9, qI_0_10, qR_0_0, qRd_0_0, qR_0_1, qRd_0_1, qR_0_2, qRd_0_2, qR_0_3, qRd_0_3, qR_0_4, qRd_0_4, qR_0_5, qRd_0_5, qR_0_6, qRd_0_6, qR_0_7, qRd_0_7, qR_0_8, qRd_0_8, qO_0, n9, eF]
  · rintro ⟨h1, h2⟩
    have eF := e_floorNo (X := X) (d := d) (mu := m) (la := la) (ro := ro) (et := et) h0 h2
    simp only [r_MTo_isFloorOrNone_0, r_MTo_isFloorOrNone_1, r_MTo_isFloorOrNone_3, r_MTo_isFloorOrNone_6, r_MTo_isFloorOrNone_7, r_MTo_isFloorOrNone_8, r_MTo_isFloorOrNone_11, r_MTo_isFloorOrNone_11n, r_MTo_isFloorOrNone_14, r_MTo_isFloorOrNone_15, r_MTo_isFloorOrNone_18, r_MTo_isFloorOrNone_19, sL_0, sL_1, sL_2, mk_i, mk_r, mk_f, mk_n, mk_u, mk_l, List.set_cons_succ, List.set_cons_zero, Nat.reduceAdd, ckS_0, ckS_1, ckS_2, ckS_3, ckS_4, Option.bind_some, Option.isSome_some, psh, if_true, if_false, i10, not_true_eq_false, not_false_eq_true, Bool.false_eq_true, and_self, and_true, true_and, eq_self, true_or, or_true, qI_0_9, qI_0_10, qR_0_0, qRd_0_0, qR_0_1, qRd_0_1, qR_0_2, qRd_0_2, qR_0_3, qRd_0_3, qR_0_4, qRd_0_4, qR_0_5, qRd_0_5, qR_0_6, qRd_0_6, qR_0_7, qRd_0_7, qR_0_8, qRd_0_8, qO_0, h1, eF]
theorem f_ca (hn : n ≤ 4) (fl : Int32) : (∃ r, (r = 9 ∨ r < n) ∧ fl = nI r) ∨ (¬ fl = 9 ∧ ¬ (0 ≤ fl ∧ fl ≤ nI n - 1)) := by
  by_cases h : fl = 9
  · exact .inl ⟨9, .inl rfl, h⟩
  · by_cases c : 0 ≤ fl ∧ fl ≤ nI n - 1
    · obtain ⟨F, hF, e⟩ := fl_ca hn c
      exact .inl ⟨F, .inr hF, e⟩
    · exact .inr ⟨h, c⟩
theorem so_g {i r : Nat} : (10 : Int32) * nI i + nI r = nI (10 * i + r) := by
  rw [show (10 : Int32) = nI 10 from rfl, show nI 10 * nI i = nI (10 * i) from (Int32.ofNat_mul 10 i).symm, nI_add]
/-- the first tick at which stone i turns back -/
noncomputable def sbV (m : Mu) (LS : Nat → List Ln) (r : Nat) (s w : Int32) (i : Nat) : Nat := fbN (gS m LS (fR r) 0 i (knC m (19 + 5 * i)) s w) 400
set_option maxHeartbeats 4000000 in
theorem c_soL (hN : N ≤ 6) (hn : n ≤ 4) (h9 : m0 0 9 = nI N) (h0 : m0 0 10 = nI n) (hr' : r = 9 ∨ r < n) : ∀ (q i : Nat) (b : Option (Nat × Nat)) (m : Mu) (ro : Ro) (l8 : Value), i + q = N → soOk b → rOk ro → (∀ c j, (c < 6 ∨ 6 < c) → (c < 49 ∨ 68 < c) → m c j = m0 c j) → AllC m LS n → ∃ (m' : Mu) (ro' : Ro), Rr X (d + 7) MTo_soonest 39 [.ref 0, .int (nI r), .int s, .int w, .int c, .int (soB b), .int (soT b), .int (nI i), l8] [] (Wd m la ro et) = some (some (.int (if c = 0 then soB (soL (sbV m0 LS r s w) q i b) else soT (soL (sbV m0 LS r s w) q i b))), Wd m' la ro' et) ∧ AllC m' LS n
  | 0, i, b, m, ro, l8, h, hb, hr, ho, hA => by
    have : i = N := by omega
    subst this
    have z : nI i ≤ nI i := nI_le (a := i) (b := i) (Nat.le_refl _) (by omega)
    have m9 : m 0 9 = nI i := (ho 0 9 (by omega) (by omega)).trans h9
    refine ⟨m, ro, ?_, hA⟩
    rw [soL]
    by_cases c0 : c = 0
    · simp only [r_MTo_soonest_39, r_MTo_soonest_41, r_MTo_soonest_42, r_MTo_soonest_45, r_MTo_soonest_98, r_MTo_soonest_100, r_MTo_soonest_103, r_MTo_soonest_105, r_MTo_soonest_108, r_MTo_soonest_110, sL_0, sL_1, sL_2, mk_i, mk_r, mk_f, mk_n, mk_u, mk_l, List.set_cons_succ, List.set_cons_zero, Nat.reduceAdd, ckS_0, ckS_1, ckS_2, ckS_3, ckS_4, Option.bind_some, Option.isSome_some, psh, if_true, if_false, i10, not_true_eq_false, not_false_eq_true, Bool.false_eq_true, and_self, and_true, true_and, eq_self, qI_0_9, qI_0_10, qR_0_0, qRd_0_0, qR_0_1, qRd_0_1, qR_0_2, qRd_0_2, qR_0_3, qRd_0_3, qR_0_4, qRd_0_4, qR_0_5, qRd_0_5, qR_0_6, qRd_0_6, qR_0_7, qRd_0_7, qR_0_8, qRd_0_8, qO_0, m9, z, c0]
    · simp only [r_MTo_soonest_39, r_MTo_soonest_41, r_MTo_soonest_42, r_MTo_soonest_45, r_MTo_soonest_98, r_MTo_soonest_100, r_MTo_soonest_103, r_MTo_soonest_105, r_MTo_soonest_108, r_MTo_soonest_110, sL_0, sL_1, sL_2, mk_i, mk_r, mk_f, mk_n, mk_u, mk_l, List.set_cons_succ, List.set_cons_zero, Nat.reduceAdd, ckS_0, ckS_1, ckS_2, ckS_3, ckS_4, Option.bind_some, Option.isSome_some, psh, if_true, if_false, i10, not_true_eq_false, not_false_eq_true, Bool.false_eq_true, and_self, and_true, true_and, eq_self, qI_0_9, qI_0_10, qR_0_0, qRd_0_0, qR_0_1, qRd_0_1, qR_0_2, qRd_0_2, qR_0_3, qRd_0_3, qR_0_4, qRd_0_4, qR_0_5, qRd_0_5, qR_0_6, qRd_0_6, qR_0_7, qRd_0_7, qR_0_8, qRd_0_8, qO_0, m9, z, c0]
  | q + 1, i, b, m, ro, l8, h, hb, hr, ho, hA => by
    have z : ¬ nI N ≤ nI i := nI_ge (a := i) (b := N) (by omega) (by omega)
    have m9 : m 0 9 = nI N := (ho 0 9 (by omega) (by omega)).trans h9
    have hG : Grd N n (nI (10 * i + r)) i r := ⟨by omega, hr', rfl⟩
    have eL := e_layOwn (X := X) (d := d + 2) (m := m) (la := la) (et := et) hr hN hn m9 ((ho _ _ (by omega) (by omega)).trans h0) hG
    obtain ⟨ek, er⟩ := snA_k (m := m0) (m' := m) (S := i) ho (by omega)
    obtain ⟨m1, hm1⟩ : ∃ m1, m1 = ruM m (19 + 5 * i) (knC m (19 + 5 * i)) := ⟨_, rfl⟩
    have o1 : ∀ c j, ¬ c = 6 → m1 c j = m c j := fun c j h => by rw [hm1]; exact ru_o h
    obtain ⟨hk, h66⟩ := ru_co (m := m) (a := 19 + 5 * i) (k := knC m (19 + 5 * i)) (by omega)
    have hs := ru_sit (m := m) (a := 19 + 5 * i) (k := knC m (19 + 5 * i)) (ro := ro) (n := n) hr' hn
    rw [← hm1] at eL hk hs
    rw [er, er, er, er, ek] at hk
    obtain ⟨m2, T, eF, o2, A2⟩ := e_firstBack (X := X) (d := d + 1) (la := la) (et := et) (s := s) (w := w) hn hk hs (AllC_k (m' := m1) (fun c j h1 h2 => o1 c j (by omega)) hn hA)
    obtain ⟨V, hV⟩ : ∃ V, V = sbV m0 LS r s w i := ⟨_, rfl⟩
    have hV4 : V ≤ 400 := by rw [hV]; exact (fb_400 _).1
    have eF : Rr X (d + 6) MTo_firstBack 0 [.ref 0, .int s, .int w, mkU] [] (Wd m1 la (upR ro 6 5 (flN r)) et) = some (some (.int (nI V)), Wd (moM m2 T) la (upR ro 6 5 (flN r)) et) := by rw [hV]; exact eF
    have A3 : AllC (moM m2 T) LS n := AllC_k (fun c j h1 h2 => mo_o (by omega)) hn A2
    have eV := nI_z (B := V) (by omega)
    obtain ⟨m', ro', E, A'⟩ := c_soL hN hn h9 h0 hr' q (i + 1) (soU V i b) (moM m2 T) (upR ro 6 5 (flN r)) (.int (nI V)) (by omega) (so_k hb (by omega) hV4) (rOk_u hr hr' hn) (fun c j h1 h2 => by rw [mo_o (by omega), o2 c j h2, o1 c j (by omega)]; exact ho c j h1 h2) A3
    refine ⟨m', ro', ?_, A'⟩
    rw [soL, ← hV]
    refine Eq.trans ?_ E
    by_cases cV : V = 0
    · have eU : soU V i b = b := by unfold soU; rw [if_pos cV]
      rw [eU]
      have eV0 := eV.trans (eq_true cV)
      simp only [r_MTo_soonest_39, r_MTo_soonest_41, r_MTo_soonest_42, r_MTo_soonest_45, r_MTo_soonest_48, r_MTo_soonest_49, r_MTo_soonest_51, r_MTo_soonest_53, r_MTo_soonest_54, r_MTo_soonest_55, r_MTo_soonest_56, r_MTo_soonest_59, r_MTo_soonest_60, r_MTo_soonest_61, r_MTo_soonest_62, r_MTo_soonest_65, r_MTo_soonest_67, r_MTo_soonest_69, r_MTo_soonest_72, r_MTo_soonest_74, r_MTo_soonest_77, r_MTo_soonest_79, r_MTo_soonest_81, r_MTo_soonest_84, r_MTo_soonest_86, r_MTo_soonest_88, r_MTo_soonest_90, r_MTo_soonest_92, r_MTo_soonest_95, sL_0, sL_1, sL_2, mk_i, mk_r, mk_f, mk_n, mk_u, mk_l, List.set_cons_succ, List.set_cons_zero, Nat.reduceAdd, ckS_0, ckS_1, ckS_2, ckS_3, ckS_4, Option.bind_some, Option.isSome_some, psh, if_true, if_false, i10, not_true_eq_false, not_false_eq_true, Bool.false_eq_true, and_self, and_true, true_and, eq_self, qI_0_9, qI_0_10, qR_0_0, qRd_0_0, qR_0_1, qRd_0_1, qR_0_2, qRd_0_2, qR_0_3, qRd_0_3, qR_0_4, qRd_0_4, qR_0_5, qRd_0_5, qR_0_6, qRd_0_6, qR_0_7, qRd_0_7, qR_0_8, qRd_0_8, qO_0, m9, z, so_g, eL, eF, eV0, nI_1]
    · cases b with
      | none =>
        have eU : soU V i none = some (i, V) := by unfold soU; rw [if_neg cV]
        have y1 : soB none = -2 := rfl
        have y2 : soT none = -2 := rfl
        have y3 : soB (some (i, V)) = nI i := rfl
        have y4 : soT (some (i, V)) = nI V := rfl
        rw [eU, y1, y2, y3, y4]
        simp only [r_MTo_soonest_39, r_MTo_soonest_41, r_MTo_soonest_42, r_MTo_soonest_45, r_MTo_soonest_48, r_MTo_soonest_49, r_MTo_soonest_51, r_MTo_soonest_53, r_MTo_soonest_54, r_MTo_soonest_55, r_MTo_soonest_56, r_MTo_soonest_59, r_MTo_soonest_60, r_MTo_soonest_61, r_MTo_soonest_62, r_MTo_soonest_65, r_MTo_soonest_67, r_MTo_soonest_69, r_MTo_soonest_72, r_MTo_soonest_74, r_MTo_soonest_77, r_MTo_soonest_79, r_MTo_soonest_81, r_MTo_soonest_84, r_MTo_soonest_86, r_MTo_soonest_88, r_MTo_soonest_90, r_MTo_soonest_92, r_MTo_soonest_95, sL_0, sL_1, sL_2, mk_i, mk_r, mk_f, mk_n, mk_u, mk_l, List.set_cons_succ, List.set_cons_zero, Nat.reduceAdd, ckS_0, ckS_1, ckS_2, ckS_3, ckS_4, Option.bind_some, Option.isSome_some, psh, if_true, if_false, i10, not_true_eq_false, not_false_eq_true, Bool.false_eq_true, and_self, and_true, true_and, eq_self, qI_0_9, qI_0_10, qR_0_0, qRd_0_0, qR_0_1, qRd_0_1, qR_0_2, qRd_0_2, qR_0_3, qRd_0_3, qR_0_4, qRd_0_4, qR_0_5, qRd_0_5, qR_0_6, qRd_0_6, qR_0_7, qRd_0_7, qR_0_8, qRd_0_8, qO_0, m9, z, so_g, eL, eF, eV, cV, nI_1, show (-2 : Int32) < 0 by decide]
      | some p =>
        obtain ⟨x, u⟩ := p
        obtain ⟨hx, hu⟩ := hb x u rfl
        have zx : ¬ nI x < 0 := nI_pos (by omega)
        have y1 : soB (some (x, u)) = nI x := rfl
        have y2 : soT (some (x, u)) = nI u := rfl
        by_cases cu : V < u
        · have zu : ¬ nI u ≤ nI V := nI_ge (a := V) (b := u) cu (by omega)
          have eU : soU V i (some (x, u)) = some (i, V) := by
            unfold soU
            rw [if_neg cV]
            exact if_pos cu
          have y3 : soB (some (i, V)) = nI i := rfl
          have y4 : soT (some (i, V)) = nI V := rfl
          rw [eU, y1, y2, y3, y4]
          simp only [r_MTo_soonest_39, r_MTo_soonest_41, r_MTo_soonest_42, r_MTo_soonest_45, r_MTo_soonest_48, r_MTo_soonest_49, r_MTo_soonest_51, r_MTo_soonest_53, r_MTo_soonest_54, r_MTo_soonest_55, r_MTo_soonest_56, r_MTo_soonest_59, r_MTo_soonest_60, r_MTo_soonest_61, r_MTo_soonest_62, r_MTo_soonest_65, r_MTo_soonest_67, r_MTo_soonest_69, r_MTo_soonest_72, r_MTo_soonest_74, r_MTo_soonest_77, r_MTo_soonest_79, r_MTo_soonest_81, r_MTo_soonest_84, r_MTo_soonest_86, r_MTo_soonest_88, r_MTo_soonest_90, r_MTo_soonest_92, r_MTo_soonest_95, sL_0, sL_1, sL_2, mk_i, mk_r, mk_f, mk_n, mk_u, mk_l, List.set_cons_succ, List.set_cons_zero, Nat.reduceAdd, ckS_0, ckS_1, ckS_2, ckS_3, ckS_4, Option.bind_some, Option.isSome_some, psh, if_true, if_false, i10, not_true_eq_false, not_false_eq_true, Bool.false_eq_true, and_self, and_true, true_and, eq_self, qI_0_9, qI_0_10, qR_0_0, qRd_0_0, qR_0_1, qRd_0_1, qR_0_2, qRd_0_2, qR_0_3, qRd_0_3, qR_0_4, qRd_0_4, qR_0_5, qRd_0_5, qR_0_6, qRd_0_6, qR_0_7, qRd_0_7, qR_0_8, qRd_0_8, qO_0, m9, z, so_g, eL, eF, eV, cV, nI_1, zx, zu]
        · have zu : nI u ≤ nI V := nI_le (a := u) (b := V) (by omega) (by omega)
          have eU : soU V i (some (x, u)) = some (x, u) := by
            unfold soU
            rw [if_neg cV]
            exact if_neg cu
          rw [eU, y1, y2]
          simp only [r_MTo_soonest_39, r_MTo_soonest_41, r_MTo_soonest_42, r_MTo_soonest_45, r_MTo_soonest_48, r_MTo_soonest_49, r_MTo_soonest_51, r_MTo_soonest_53, r_MTo_soonest_54, r_MTo_soonest_55, r_MTo_soonest_56, r_MTo_soonest_59, r_MTo_soonest_60, r_MTo_soonest_61, r_MTo_soonest_62, r_MTo_soonest_65, r_MTo_soonest_67, r_MTo_soonest_69, r_MTo_soonest_72, r_MTo_soonest_74, r_MTo_soonest_77, r_MTo_soonest_79, r_MTo_soonest_81, r_MTo_soonest_84, r_MTo_soonest_86, r_MTo_soonest_88, r_MTo_soonest_90, r_MTo_soonest_92, r_MTo_soonest_95, sL_0, sL_1, sL_2, mk_i, mk_r, mk_f, mk_n, mk_u, mk_l, List.set_cons_succ, List.set_cons_zero, Nat.reduceAdd, ckS_0, ckS_1, ckS_2, ckS_3, ckS_4, Option.bind_some, Option.isSome_some, psh, if_true, if_false, i10, not_true_eq_false, not_false_eq_true, Bool.false_eq_true, and_self, and_true, true_and, eq_self, qI_0_9, qI_0_10, qR_0_0, qRd_0_0, qR_0_1, qRd_0_1, qR_0_2, qRd_0_2, qR_0_3, qRd_0_3, qR_0_4, qRd_0_4, qR_0_5, qRd_0_5, qR_0_6, qRd_0_6, qR_0_7, qRd_0_7, qR_0_8, qRd_0_8, qO_0, m9, z, so_g, eL, eF, eV, cV, nI_1, zx, zu]
set_option maxHeartbeats 4000000 in
theorem m_soL (hN : N ≤ 6) (hn : n ≤ 4) (hb' : stB s w) (hr' : r = 9 ∨ r < n) : ∀ (q i : Nat) (b : Option (Nat × Nat)) (mM : Mu), i + q = N → soOk b → MdOk m mM N n LS → ∃ (mM' : Mu), Rr X (d + 7) MRm_soonest 44 [.ref 81, .int (nI r), .int s, .int w, .int c, .int (soB b), .int (soW b), .int (nI i)] [] (Wd mM la ro et) = some (some (.int (if c = 0 then soB (soL (sbV m LS r s w) q i b) else soT (soL (sbV m LS r s w) q i b))), Wd mM' la ro et)
  | 0, i, b, mM, h, hb, hM => by
    have : i = N := by omega
    subst this
    have z : nI i ≤ nI i := nI_le (a := i) (b := i) (Nat.le_refl _) (by omega)
    have m3 := hM.1
    refine ⟨mM, ?_⟩
    rw [soL]
    cases b with
    | none =>
      have y1 : soB none = -2 := rfl
      have y2 : soT none = -2 := rfl
      rw [y1, y2, ite_self]
      simp only [r_MRm_soonest_44, r_MRm_soonest_46, r_MRm_soonest_47, r_MRm_soonest_50, r_MRm_soonest_108, r_MRm_soonest_110, r_MRm_soonest_113, r_MRm_soonest_115, r_MRm_soonest_118, r_MRm_soonest_120, r_MRm_soonest_123, r_MRm_soonest_125, sL_0, sL_1, sL_2, mk_i, mk_r, mk_f, mk_n, mk_u, mk_l, List.set_cons_succ, List.set_cons_zero, Nat.reduceAdd, ckS_0, ckS_1, ckS_2, ckS_3, ckS_4, Option.bind_some, Option.isSome_some, psh, if_true, if_false, i10, not_true_eq_false, not_false_eq_true, Bool.false_eq_true, and_self, and_true, true_and, eq_self, qI_81_0, qI_81_2, qI_81_3, qI_81_9, qI_81_10, qI_81_11, qI_81_12, qI_81_13, qI_81_18, qI_81_19, qI_81_20, qI_81_21, qI_81_29, qI_81_30, qI_81_31, qI_81_32, qI_81_33, qI_81_34, qI_81_35, qI_81_39, qI_81_40, qI_81_41, qI_81_42, qI_81_43, qI_81_44, qI_81_45, qI_81_46, qI_81_47, qI_81_51, qI_81_53, qR_81_1, qRd_81_1, qR_81_4, qRd_81_4, qR_81_5, qRd_81_5, qR_81_6, qRd_81_6, qR_81_7, qRd_81_7, qR_81_8, qRd_81_8, qR_81_14, qRd_81_14, qR_81_15, qRd_81_15, qR_81_16, qRd_81_16, qR_81_17, qRd_81_17, qR_81_22, qRd_81_22, qR_81_23, qRd_81_23, qR_81_24, qRd_81_24, qR_81_25, qRd_81_25, qR_81_26, qRd_81_26, qR_81_27, qRd_81_27, qR_81_28, qRd_81_28, qR_81_36, qRd_81_36, qR_81_37, qRd_81_37, qR_81_38, qRd_81_38, qR_81_48, qRd_81_48, qR_81_49, qRd_81_49, qR_81_50, qRd_81_50, qR_81_52, qRd_81_52, qR_81_54, qRd_81_54, qR_81_55, qRd_81_55, qR_81_56, qRd_81_56, qR_81_57, qRd_81_57, qR_81_58, qRd_81_58, qO_81, m3, z, show (-2 : Int32) < 0 by decide]
    | some p =>
      obtain ⟨x, u⟩ := p
      obtain ⟨hx, hu⟩ := hb x u rfl
      have zx : ¬ nI x < 0 := nI_pos (by omega)
      have y1 : soB (some (x, u)) = nI x := rfl
      have y2 : soT (some (x, u)) = nI u := rfl
      have y3 : soW (some (x, u)) = nI u := rfl
      rw [y1, y2, y3]
      by_cases c0 : c = 0
      · simp only [r_MRm_soonest_44, r_MRm_soonest_46, r_MRm_soonest_47, r_MRm_soonest_50, r_MRm_soonest_108, r_MRm_soonest_110, r_MRm_soonest_113, r_MRm_soonest_115, r_MRm_soonest_118, r_MRm_soonest_120, r_MRm_soonest_123, r_MRm_soonest_125, sL_0, sL_1, sL_2, mk_i, mk_r, mk_f, mk_n, mk_u, mk_l, List.set_cons_succ, List.set_cons_zero, Nat.reduceAdd, ckS_0, ckS_1, ckS_2, ckS_3, ckS_4, Option.bind_some, Option.isSome_some, psh, if_true, if_false, i10, not_true_eq_false, not_false_eq_true, Bool.false_eq_true, and_self, and_true, true_and, eq_self, qI_81_0, qI_81_2, qI_81_3, qI_81_9, qI_81_10, qI_81_11, qI_81_12, qI_81_13, qI_81_18, qI_81_19, qI_81_20, qI_81_21, qI_81_29, qI_81_30, qI_81_31, qI_81_32, qI_81_33, qI_81_34, qI_81_35, qI_81_39, qI_81_40, qI_81_41, qI_81_42, qI_81_43, qI_81_44, qI_81_45, qI_81_46, qI_81_47, qI_81_51, qI_81_53, qR_81_1, qRd_81_1, qR_81_4, qRd_81_4, qR_81_5, qRd_81_5, qR_81_6, qRd_81_6, qR_81_7, qRd_81_7, qR_81_8, qRd_81_8, qR_81_14, qRd_81_14, qR_81_15, qRd_81_15, qR_81_16, qRd_81_16, qR_81_17, qRd_81_17, qR_81_22, qRd_81_22, qR_81_23, qRd_81_23, qR_81_24, qRd_81_24, qR_81_25, qRd_81_25, qR_81_26, qRd_81_26, qR_81_27, qRd_81_27, qR_81_28, qRd_81_28, qR_81_36, qRd_81_36, qR_81_37, qRd_81_37, qR_81_38, qRd_81_38, qR_81_48, qRd_81_48, qR_81_49, qRd_81_49, qR_81_50, qRd_81_50, qR_81_52, qRd_81_52, qR_81_54, qRd_81_54, qR_81_55, qRd_81_55, qR_81_56, qRd_81_56, qR_81_57, qRd_81_57, qR_81_58, qRd_81_58, qO_81, m3, z, zx, c0]
      · simp only [r_MRm_soonest_44, r_MRm_soonest_46, r_MRm_soonest_47, r_MRm_soonest_50, r_MRm_soonest_108, r_MRm_soonest_110, r_MRm_soonest_113, r_MRm_soonest_115, r_MRm_soonest_118, r_MRm_soonest_120, r_MRm_soonest_123, r_MRm_soonest_125, sL_0, sL_1, sL_2, mk_i, mk_r, mk_f, mk_n, mk_u, mk_l, List.set_cons_succ, List.set_cons_zero, Nat.reduceAdd, ckS_0, ckS_1, ckS_2, ckS_3, ckS_4, Option.bind_some, Option.isSome_some, psh, if_true, if_false, i10, not_true_eq_false, not_false_eq_true, Bool.false_eq_true, and_self, and_true, true_and, eq_self, qI_81_0, qI_81_2, qI_81_3, qI_81_9, qI_81_10, qI_81_11, qI_81_12, qI_81_13, qI_81_18, qI_81_19, qI_81_20, qI_81_21, qI_81_29, qI_81_30, qI_81_31, qI_81_32, qI_81_33, qI_81_34, qI_81_35, qI_81_39, qI_81_40, qI_81_41, qI_81_42, qI_81_43, qI_81_44, qI_81_45, qI_81_46, qI_81_47, qI_81_51, qI_81_53, qR_81_1, qRd_81_1, qR_81_4, qRd_81_4, qR_81_5, qRd_81_5, qR_81_6, qRd_81_6, qR_81_7, qRd_81_7, qR_81_8, qRd_81_8, qR_81_14, qRd_81_14, qR_81_15, qRd_81_15, qR_81_16, qRd_81_16, qR_81_17, qRd_81_17, qR_81_22, qRd_81_22, qR_81_23, qRd_81_23, qR_81_24, qRd_81_24, qR_81_25, qRd_81_25, qR_81_26, qRd_81_26, qR_81_27, qRd_81_27, qR_81_28, qRd_81_28, qR_81_36, qRd_81_36, qR_81_37, qRd_81_37, qR_81_38, qRd_81_38, qR_81_48, qRd_81_48, qR_81_49, qRd_81_49, qR_81_50, qRd_81_50, qR_81_52, qRd_81_52, qR_81_54, qRd_81_54, qR_81_55, qRd_81_55, qR_81_56, qRd_81_56, qR_81_57, qRd_81_57, qR_81_58, qRd_81_58, qO_81, m3, z, zx, c0]
  | q + 1, i, b, mM, h, hb, hM => by
    have z : ¬ nI N ≤ nI i := nI_ge (a := i) (b := N) (by omega) (by omega)
    obtain ⟨m3, m29, qA, qS⟩ := id hM
    obtain ⟨⟨L, ⟨hL, h83⟩, hK⟩, hR, hRB⟩ := qS i (by omega)
    have eKM := e_keenOf (X := X) (d := d + 4) (m := mM) (la := la) (ro := ro) (et := et) (show i < 6 by omega) hL h83
    rw [hK] at eKM
    obtain ⟨m1, eG, oG, r44, r45⟩ := e_goThrough (X := X) (d := d) (la := la) (ro := ro) (et := et) (k := knC m (19 + 5 * i)) (f := fR r) (pc := 0) (fl := nI r) (LS := LS) (show i < 6 by omega) hn hR hRB (sitM_r hn hr') qA (st_bd hb')
    obtain ⟨W, hW⟩ : ∃ W, W = bkN (gS m LS (fR r) 0 i (knC m (19 + 5 * i)) s w) 400 := ⟨_, rfl⟩
    have hW4 : W ≤ 400 := by rw [hW]; exact (fb_400 _).2
    obtain ⟨V, hV⟩ : ∃ V, V = sbV m LS r s w i := ⟨_, rfl⟩
    have hV4 : V ≤ 400 := by rw [hV]; exact (fb_400 _).1
    have hfb : V = 0 ↔ W = 0 := by rw [hV, hW]; exact (fb_bk _ 400).1
    have r44 : m1 81 44 = nI W := by rw [hW]; exact r44
    have r45 : ¬ V = 0 → m1 81 45 = nI V := by rw [hV]; exact r45
    have eW : (nI W = 0) = (W = 0) := propext (nI_eq (b := 0) (by omega) (by omega))
    have hM' : MdOk m m1 N n LS := Md_k (fun c j h1 h2 h3 => oG c j h1 h2 (by omega)) hM
    obtain ⟨m', E⟩ := m_soL hN hn hb' hr' q (i + 1) (soU V i b) m1 (by omega) (so_k hb (by omega) hV4) hM'
    refine ⟨m', ?_⟩
    rw [soL, ← hV]
    refine Eq.trans ?_ E
    by_cases cV : V = 0
    · have cW : W = 0 := hfb.mp cV
      have eU : soU V i b = b := by unfold soU; rw [if_pos cV]
      rw [eU]
      have eW0 := eW.trans (eq_true cW)
      simp only [r_MRm_soonest_44, r_MRm_soonest_46, r_MRm_soonest_47, r_MRm_soonest_50, r_MRm_soonest_53, r_MRm_soonest_54, r_MRm_soonest_56, r_MRm_soonest_57, r_MRm_soonest_59, r_MRm_soonest_62, r_MRm_soonest_63, r_MRm_soonest_64, r_MRm_soonest_65, r_MRm_soonest_68, r_MRm_soonest_69, r_MRm_soonest_72, r_MRm_soonest_75, r_MRm_soonest_77, r_MRm_soonest_80, r_MRm_soonest_81, r_MRm_soonest_84, r_MRm_soonest_86, r_MRm_soonest_89, r_MRm_soonest_92, r_MRm_soonest_94, r_MRm_soonest_96, r_MRm_soonest_97, r_MRm_soonest_100, r_MRm_soonest_102, r_MRm_soonest_105, sL_0, sL_1, sL_2, mk_i, mk_r, mk_f, mk_n, mk_u, mk_l, List.set_cons_succ, List.set_cons_zero, Nat.reduceAdd, ckS_0, ckS_1, ckS_2, ckS_3, ckS_4, Option.bind_some, Option.isSome_some, psh, if_true, if_false, i10, not_true_eq_false, not_false_eq_true, Bool.false_eq_true, and_self, and_true, true_and, eq_self, qI_81_0, qI_81_2, qI_81_3, qI_81_9, qI_81_10, qI_81_11, qI_81_12, qI_81_13, qI_81_18, qI_81_19, qI_81_20, qI_81_21, qI_81_29, qI_81_30, qI_81_31, qI_81_32, qI_81_33, qI_81_34, qI_81_35, qI_81_39, qI_81_40, qI_81_41, qI_81_42, qI_81_43, qI_81_44, qI_81_45, qI_81_46, qI_81_47, qI_81_51, qI_81_53, qR_81_1, qRd_81_1, qR_81_4, qRd_81_4, qR_81_5, qRd_81_5, qR_81_6, qRd_81_6, qR_81_7, qRd_81_7, qR_81_8, qRd_81_8, qR_81_14, qRd_81_14, qR_81_15, qRd_81_15, qR_81_16, qRd_81_16, qR_81_17, qRd_81_17, qR_81_22, qRd_81_22, qR_81_23, qRd_81_23, qR_81_24, qRd_81_24, qR_81_25, qRd_81_25, qR_81_26, qRd_81_26, qR_81_27, qRd_81_27, qR_81_28, qRd_81_28, qR_81_36, qRd_81_36, qR_81_37, qRd_81_37, qR_81_38, qRd_81_38, qR_81_48, qRd_81_48, qR_81_49, qRd_81_49, qR_81_50, qRd_81_50, qR_81_52, qRd_81_52, qR_81_54, qRd_81_54, qR_81_55, qRd_81_55, qR_81_56, qRd_81_56, qR_81_57, qRd_81_57, qR_81_58, qRd_81_58, qO_81, m3, z, eKM, eG, r44, eW0, nI_1]
    · have cW : ¬ W = 0 := fun q => cV (hfb.mpr q)
      have r45 := r45 cV
      cases b with
      | none =>
        have eU : soU V i none = some (i, V) := by unfold soU; rw [if_neg cV]
        have y1 : soB none = -2 := rfl
        have y3 : soB (some (i, V)) = nI i := rfl
        have y4 : soW (some (i, V)) = nI V := rfl
        rw [eU, y1, y3, y4]
        simp only [r_MRm_soonest_44, r_MRm_soonest_46, r_MRm_soonest_47, r_MRm_soonest_50, r_MRm_soonest_53, r_MRm_soonest_54, r_MRm_soonest_56, r_MRm_soonest_57, r_MRm_soonest_59, r_MRm_soonest_62, r_MRm_soonest_63, r_MRm_soonest_64, r_MRm_soonest_65, r_MRm_soonest_68, r_MRm_soonest_69, r_MRm_soonest_72, r_MRm_soonest_75, r_MRm_soonest_77, r_MRm_soonest_80, r_MRm_soonest_81, r_MRm_soonest_84, r_MRm_soonest_86, r_MRm_soonest_89, r_MRm_soonest_92, r_MRm_soonest_94, r_MRm_soonest_96, r_MRm_soonest_97, r_MRm_soonest_100, r_MRm_soonest_102, r_MRm_soonest_105, sL_0, sL_1, sL_2, mk_i, mk_r, mk_f, mk_n, mk_u, mk_l, List.set_cons_succ, List.set_cons_zero, Nat.reduceAdd, ckS_0, ckS_1, ckS_2, ckS_3, ckS_4, Option.bind_some, Option.isSome_some, psh, if_true, if_false, i10, not_true_eq_false, not_false_eq_true, Bool.false_eq_true, and_self, and_true, true_and, eq_self, qI_81_0, qI_81_2, qI_81_3, qI_81_9, qI_81_10, qI_81_11, qI_81_12, qI_81_13, qI_81_18, qI_81_19, qI_81_20, qI_81_21, qI_81_29, qI_81_30, qI_81_31, qI_81_32, qI_81_33, qI_81_34, qI_81_35, qI_81_39, qI_81_40, qI_81_41, qI_81_42, qI_81_43, qI_81_44, qI_81_45, qI_81_46, qI_81_47, qI_81_51, qI_81_53, qR_81_1, qRd_81_1, qR_81_4, qRd_81_4, qR_81_5, qRd_81_5, qR_81_6, qRd_81_6, qR_81_7, qRd_81_7, qR_81_8, qRd_81_8, qR_81_14, qRd_81_14, qR_81_15, qRd_81_15, qR_81_16, qRd_81_16, qR_81_17, qRd_81_17, qR_81_22, qRd_81_22, qR_81_23, qRd_81_23, qR_81_24, qRd_81_24, qR_81_25, qRd_81_25, qR_81_26, qRd_81_26, qR_81_27, qRd_81_27, qR_81_28, qRd_81_28, qR_81_36, qRd_81_36, qR_81_37, qRd_81_37, qR_81_38, qRd_81_38, qR_81_48, qRd_81_48, qR_81_49, qRd_81_49, qR_81_50, qRd_81_50, qR_81_52, qRd_81_52, qR_81_54, qRd_81_54, qR_81_55, qRd_81_55, qR_81_56, qRd_81_56, qR_81_57, qRd_81_57, qR_81_58, qRd_81_58, qO_81, m3, z, eKM, eG, r44, r45, eW, cW, nI_1, show (-2 : Int32) < 0 by decide]
      | some p =>
        obtain ⟨x, u⟩ := p
        obtain ⟨hx, hu⟩ := hb x u rfl
        have zx : ¬ nI x < 0 := nI_pos (by omega)
        have y1 : soB (some (x, u)) = nI x := rfl
        have y2 : soW (some (x, u)) = nI u := rfl
        by_cases cu : V < u
        · have zu : nI V < nI u := nI_lt (a := V) (b := u) cu (by omega)
          have eU : soU V i (some (x, u)) = some (i, V) := by
            unfold soU
            rw [if_neg cV]
            exact if_pos cu
          have y3 : soB (some (i, V)) = nI i := rfl
          have y4 : soW (some (i, V)) = nI V := rfl
          rw [eU, y1, y2, y3, y4]
          simp only [r_MRm_soonest_44, r_MRm_soonest_46, r_MRm_soonest_47, r_MRm_soonest_50, r_MRm_soonest_53, r_MRm_soonest_54, r_MRm_soonest_56, r_MRm_soonest_57, r_MRm_soonest_59, r_MRm_soonest_62, r_MRm_soonest_63, r_MRm_soonest_64, r_MRm_soonest_65, r_MRm_soonest_68, r_MRm_soonest_69, r_MRm_soonest_72, r_MRm_soonest_75, r_MRm_soonest_77, r_MRm_soonest_80, r_MRm_soonest_81, r_MRm_soonest_84, r_MRm_soonest_86, r_MRm_soonest_89, r_MRm_soonest_92, r_MRm_soonest_94, r_MRm_soonest_96, r_MRm_soonest_97, r_MRm_soonest_100, r_MRm_soonest_102, r_MRm_soonest_105, sL_0, sL_1, sL_2, mk_i, mk_r, mk_f, mk_n, mk_u, mk_l, List.set_cons_succ, List.set_cons_zero, Nat.reduceAdd, ckS_0, ckS_1, ckS_2, ckS_3, ckS_4, Option.bind_some, Option.isSome_some, psh, if_true, if_false, i10, not_true_eq_false, not_false_eq_true, Bool.false_eq_true, and_self, and_true, true_and, eq_self, qI_81_0, qI_81_2, qI_81_3, qI_81_9, qI_81_10, qI_81_11, qI_81_12, qI_81_13, qI_81_18, qI_81_19, qI_81_20, qI_81_21, qI_81_29, qI_81_30, qI_81_31, qI_81_32, qI_81_33, qI_81_34, qI_81_35, qI_81_39, qI_81_40, qI_81_41, qI_81_42, qI_81_43, qI_81_44, qI_81_45, qI_81_46, qI_81_47, qI_81_51, qI_81_53, qR_81_1, qRd_81_1, qR_81_4, qRd_81_4, qR_81_5, qRd_81_5, qR_81_6, qRd_81_6, qR_81_7, qRd_81_7, qR_81_8, qRd_81_8, qR_81_14, qRd_81_14, qR_81_15, qRd_81_15, qR_81_16, qRd_81_16, qR_81_17, qRd_81_17, qR_81_22, qRd_81_22, qR_81_23, qRd_81_23, qR_81_24, qRd_81_24, qR_81_25, qRd_81_25, qR_81_26, qRd_81_26, qR_81_27, qRd_81_27, qR_81_28, qRd_81_28, qR_81_36, qRd_81_36, qR_81_37, qRd_81_37, qR_81_38, qRd_81_38, qR_81_48, qRd_81_48, qR_81_49, qRd_81_49, qR_81_50, qRd_81_50, qR_81_52, qRd_81_52, qR_81_54, qRd_81_54, qR_81_55, qRd_81_55, qR_81_56, qRd_81_56, qR_81_57, qRd_81_57, qR_81_58, qRd_81_58, qO_81, m3, z, eKM, eG, r44, r45, eW, cW, nI_1, zx, zu]
        · have zu : ¬ nI V < nI u := nI_nlt (by omega) (by omega)
          have eU : soU V i (some (x, u)) = some (x, u) := by
            unfold soU
            rw [if_neg cV]
            exact if_neg cu
          rw [eU, y1, y2]
          simp only [r_MRm_soonest_44, r_MRm_soonest_46, r_MRm_soonest_47, r_MRm_soonest_50, r_MRm_soonest_53, r_MRm_soonest_54, r_MRm_soonest_56, r_MRm_soonest_57, r_MRm_soonest_59, r_MRm_soonest_62, r_MRm_soonest_63, r_MRm_soonest_64, r_MRm_soonest_65, r_MRm_soonest_68, r_MRm_soonest_69, r_MRm_soonest_72, r_MRm_soonest_75, r_MRm_soonest_77, r_MRm_soonest_80, r_MRm_soonest_81, r_MRm_soonest_84, r_MRm_soonest_86, r_MRm_soonest_89, r_MRm_soonest_92, r_MRm_soonest_94, r_MRm_soonest_96, r_MRm_soonest_97, r_MRm_soonest_100, r_MRm_soonest_102, r_MRm_soonest_105, sL_0, sL_1, sL_2, mk_i, mk_r, mk_f, mk_n, mk_u, mk_l, List.set_cons_succ, List.set_cons_zero, Nat.reduceAdd, ckS_0, ckS_1, ckS_2, ckS_3, ckS_4, Option.bind_some, Option.isSome_some, psh, if_true, if_false, i10, not_true_eq_false, not_false_eq_true, Bool.false_eq_true, and_self, and_true, true_and, eq_self, qI_81_0, qI_81_2, qI_81_3, qI_81_9, qI_81_10, qI_81_11, qI_81_12, qI_81_13, qI_81_18, qI_81_19, qI_81_20, qI_81_21, qI_81_29, qI_81_30, qI_81_31, qI_81_32, qI_81_33, qI_81_34, qI_81_35, qI_81_39, qI_81_40, qI_81_41, qI_81_42, qI_81_43, qI_81_44, qI_81_45, qI_81_46, qI_81_47, qI_81_51, qI_81_53, qR_81_1, qRd_81_1, qR_81_4, qRd_81_4, qR_81_5, qRd_81_5, qR_81_6, qRd_81_6, qR_81_7, qRd_81_7, qR_81_8, qRd_81_8, qR_81_14, qRd_81_14, qR_81_15, qRd_81_15, qR_81_16, qRd_81_16, qR_81_17, qRd_81_17, qR_81_22, qRd_81_22, qR_81_23, qRd_81_23, qR_81_24, qRd_81_24, qR_81_25, qRd_81_25, qR_81_26, qRd_81_26, qR_81_27, qRd_81_27, qR_81_28, qRd_81_28, qR_81_36, qRd_81_36, qR_81_37, qRd_81_37, qR_81_38, qRd_81_38, qR_81_48, qRd_81_48, qR_81_49, qRd_81_49, qR_81_50, qRd_81_50, qR_81_52, qRd_81_52, qR_81_54, qRd_81_54, qR_81_55, qRd_81_55, qR_81_56, qRd_81_56, qR_81_57, qRd_81_57, qR_81_58, qRd_81_58, qO_81, m3, z, eKM, eG, r44, r45, eW, cW, nI_1, zx, zu]
set_option maxHeartbeats 1000000 in
theorem soonest_b (hr : rOk ro) (hN : N ≤ 6) (hn : n ≤ 4) (h9 : m 0 9 = nI N) (h0 : m 0 10 = nI n) (hA : AllC m LS n) : ∃ (x : Int32) (m' : Mu) (ro' : Ro), Rr X (d + 7) MTo_soonest 0 [.ref 0, .int fl, .int s, .int w, .int c, mkU, mkU, mkU, mkU] [] (Wd m la ro et) = some (some (.int x), Wd m' la ro' et) ∧ AllC m' LS n ∧ ∀ (mM : Mu) (laM : La) (roM : Ro), MdOk m mM N n LS → ∃ mM' : Mu, Rr X (d + 7) MRm_soonest 0 [.ref 81, .int fl, .int s, .int w, .int c, mkU, mkU, mkU] [] (Wd mM laM roM et) = some (some (.int x), Wd mM' laM roM et) := by
  have eG := e_flN (X := X) (d := d + 4) (m := m) (la := la) (et := et) (fl := fl) hr hn h0
  have eB := e_startC (X := X) (d := d + 5) (mu := m) (la := la) (ro := ro) (et := et) (s := s) (w := w)
  have eBM := fun (mM : Mu) (laM : La) (roM : Ro) => e_startM (X := X) (d := d + 5) (mu := mM) (la := laM) (ro := roM) (et := et) (s := s) (w := w)
  have n2 : soB none = -2 := rfl
  have n3 : soT none = -2 := rfl
  have n4 : soW none = 0 := rfl
  rcases f_ca hn fl with ⟨r, hr', rfl⟩ | hG
  · have eG := eG.1 ⟨r, hr', rfl⟩
    by_cases hB : stB s w
    · have eB := eB.1 hB
      have eBM := fun mM laM roM => (eBM mM laM roM).1 hB
      by_cases hc : 0 ≤ c ∧ c ≤ 1
      · obtain ⟨m', ro', E, A'⟩ := c_soL (X := X) (d := d) (la := la) (et := et) (s := s) (w := w) (c := c) (m0 := m) (LS := LS) hN hn h9 h0 hr' N 0 none m ro mkU (by omega) (fun x t e => by cases e) hr (fun _ _ _ _ => rfl) hA
        rw [n2, n3, show nI 0 = (0 : Int32) from rfl] at E
        refine ⟨if c = 0 then soB (soL (sbV m LS r s w) N 0 none) else soT (soL (sbV m LS r s w) N 0 none), m', ro', ?_, A', fun mM laM roM hM => ?_⟩
        · rw [← E]
          simp only [r_MTo_soonest_0, r_MTo_soonest_1, r_MTo_soonest_2, r_MTo_soonest_5, r_MTo_soonest_8, r_MTo_soonest_9, r_MTo_soonest_10, r_MTo_soonest_13, r_MTo_soonest_16, r_MTo_soonest_18, r_MTo_soonest_19, r_MTo_soonest_20, r_MTo_soonest_23, r_MTo_soonest_26, r_MTo_soonest_27, r_MTo_soonest_28, r_MTo_soonest_30, r_MTo_soonest_32, r_MTo_soonest_34, r_MTo_soonest_36, r_MTo_soonest_37, sL_0, sL_1, sL_2, mk_i, mk_r, mk_f, mk_n, mk_u, mk_l, List.set_cons_succ, List.set_cons_zero, Nat.reduceAdd, ckS_0, ckS_1, ckS_2, ckS_3, ckS_4, Option.bind_some, Option.isSome_some, psh, if_true, if_false, i10, not_true_eq_false, not_false_eq_true, Bool.false_eq_true, and_self, and_true, true_and, eq_self, qI_0_9, qI_0_10, qR_0_0, qRd_0_0, qR_0_1, qRd_0_1, qR_0_2, qRd_0_2, qR_0_3, qRd_0_3, qR_0_4, qRd_0_4, qR_0_5, qRd_0_5, qR_0_6, qRd_0_6, qR_0_7, qRd_0_7, qR_0_8, qRd_0_8, qO_0, eG, eB, e_isWithin, hc]
        · obtain ⟨mM', E⟩ := m_soL (X := X) (d := d) (la := laM) (ro := roM) (et := et) (s := s) (w := w) (c := c) (m := m) (LS := LS) hN hn hB hr' N 0 none mM (by omega) (fun x t e => by cases e) hM
          rw [n2, n4, show nI 0 = (0 : Int32) from rfl] at E
          have eBM := eBM mM laM roM
          refine ⟨mM', ?_⟩
          refine Eq.trans ?_ E
          rcases hr' with rfl | hF
          · simp only [r_MRm_soonest_0, r_MRm_soonest_1, r_MRm_soonest_3, r_MRm_soonest_6, r_MRm_soonest_7, r_MRm_soonest_8, r_MRm_soonest_11, r_MRm_soonest_14, r_MRm_soonest_15, r_MRm_soonest_16, r_MRm_soonest_19, r_MRm_soonest_22, r_MRm_soonest_24, r_MRm_soonest_25, r_MRm_soonest_26, r_MRm_soonest_29, r_MRm_soonest_32, r_MRm_soonest_33, r_MRm_soonest_34, r_MRm_soonest_36, r_MRm_soonest_38, r_MRm_soonest_39, r_MRm_soonest_41, r_MRm_soonest_42, sL_0, sL_1, sL_2, mk_i, mk_r, mk_f, mk_n, mk_u, mk_l, List.set_cons_succ, List.set_cons_zero, Nat.reduceAdd, ckS_0, ckS_1, ckS_2, ckS_3, ckS_4, Option.bind_some, Option.isSome_some, psh, if_true, if_false, i10, not_true_eq_false, not_false_eq_true, Bool.false_eq_true, and_self, and_true, true_and, eq_self, qI_81_0, qI_81_2, qI_81_3, qI_81_9, qI_81_10, qI_81_11, qI_81_12, qI_81_13, qI_81_18, qI_81_19, qI_81_20, qI_81_21, qI_81_29, qI_81_30, qI_81_31, qI_81_32, qI_81_33, qI_81_34, qI_81_35, qI_81_39, qI_81_40, qI_81_41, qI_81_42, qI_81_43, qI_81_44, qI_81_45, qI_81_46, qI_81_47, qI_81_51, qI_81_53, qR_81_1, qRd_81_1, qR_81_4, qRd_81_4, qR_81_5, qRd_81_5, qR_81_6, qRd_81_6, qR_81_7, qRd_81_7, qR_81_8, qRd_81_8, qR_81_14, qRd_81_14, qR_81_15, qRd_81_15, qR_81_16, qRd_81_16, qR_81_17, qRd_81_17, qR_81_22, qRd_81_22, qR_81_23, qRd_81_23, qR_81_24, qRd_81_24, qR_81_25, qRd_81_25, qR_81_26, qRd_81_26, qR_81_27, qRd_81_27, qR_81_28, qRd_81_28, qR_81_36, qRd_81_36, qR_81_37, qRd_81_37, qR_81_38, qRd_81_38, qR_81_48, qRd_81_48, qR_81_49, qRd_81_49, qR_81_50, qRd_81_50, qR_81_52, qRd_81_52, qR_81_54, qRd_81_54, qR_81_55, qRd_81_55, qR_81_56, qRd_81_56, qR_81_57, qRd_81_57, qR_81_58, qRd_81_58, qO_81, eBM, e_in, hc, show nI 9 = (9 : Int32) from rfl]
          · have n9 : ¬ nI r = 9 := fun q => by have := (nI_eq (a := r) (b := 9) (by omega) (by omega)).mp q; omega
            have cF := st_in (n := n) (by omega) hF
            have q29 := hM.2.1
            simp only [r_MRm_soonest_0, r_MRm_soonest_1, r_MRm_soonest_3, r_MRm_soonest_6, r_MRm_soonest_7, r_MRm_soonest_8, r_MRm_soonest_11, r_MRm_soonest_14, r_MRm_soonest_15, r_MRm_soonest_16, r_MRm_soonest_19, r_MRm_soonest_22, r_MRm_soonest_24, r_MRm_soonest_25, r_MRm_soonest_26, r_MRm_soonest_29, r_MRm_soonest_32, r_MRm_soonest_33, r_MRm_soonest_34, r_MRm_soonest_36, r_MRm_soonest_38, r_MRm_soonest_39, r_MRm_soonest_41, r_MRm_soonest_42, sL_0, sL_1, sL_2, mk_i, mk_r, mk_f, mk_n, mk_u, mk_l, List.set_cons_succ, List.set_cons_zero, Nat.reduceAdd, ckS_0, ckS_1, ckS_2, ckS_3, ckS_4, Option.bind_some, Option.isSome_some, psh, if_true, if_false, i10, not_true_eq_false, not_false_eq_true, Bool.false_eq_true, and_self, and_true, true_and, eq_self, qI_81_0, qI_81_2, qI_81_3, qI_81_9, qI_81_10, qI_81_11, qI_81_12, qI_81_13, qI_81_18, qI_81_19, qI_81_20, qI_81_21, qI_81_29, qI_81_30, qI_81_31, qI_81_32, qI_81_33, qI_81_34, qI_81_35, qI_81_39, qI_81_40, qI_81_41, qI_81_42, qI_81_43, qI_81_44, qI_81_45, qI_81_46, qI_81_47, qI_81_51, qI_81_53, qR_81_1, qRd_81_1, qR_81_4, qRd_81_4, qR_81_5, qRd_81_5, qR_81_6, qRd_81_6, qR_81_7, qRd_81_7, qR_81_8, qRd_81_8, qR_81_14, qRd_81_14, qR_81_15, qRd_81_15, qR_81_16, qRd_81_16, qR_81_17, qRd_81_17, qR_81_22, qRd_81_22, qR_81_23, qRd_81_23, qR_81_24, qRd_81_24, qR_81_25, qRd_81_25, qR_81_26, qRd_81_26, qR_81_27, qRd_81_27, qR_81_28, qRd_81_28, qR_81_36, qRd_81_36, qR_81_37, qRd_81_37, qR_81_38, qRd_81_38, qR_81_48, qRd_81_48, qR_81_49, qRd_81_49, qR_81_50, qRd_81_50, qR_81_52, qRd_81_52, qR_81_54, qRd_81_54, qR_81_55, qRd_81_55, qR_81_56, qRd_81_56, qR_81_57, qRd_81_57, qR_81_58, qRd_81_58, qO_81, n9, e_isFloor, q29, cF, eBM, e_in, hc]
      · refine ⟨-1, m, ro, ?_, hA, fun mM laM roM hM => ⟨mM, ?_⟩⟩
        · simp only [r_MTo_soonest_0, r_MTo_soonest_1, r_MTo_soonest_2, r_MTo_soonest_5, r_MTo_soonest_8, r_MTo_soonest_9, r_MTo_soonest_10, r_MTo_soonest_13, r_MTo_soonest_16, r_MTo_soonest_18, r_MTo_soonest_19, r_MTo_soonest_20, r_MTo_soonest_23, r_MTo_soonest_26, r_MTo_soonest_27, sL_0, sL_1, sL_2, mk_i, mk_r, mk_f, mk_n, mk_u, mk_l, List.set_cons_succ, List.set_cons_zero, Nat.reduceAdd, ckS_0, ckS_1, ckS_2, ckS_3, ckS_4, Option.bind_some, Option.isSome_some, psh, if_true, if_false, i10, not_true_eq_false, not_false_eq_true, Bool.false_eq_true, and_self, and_true, true_and, eq_self, qI_0_9, qI_0_10, qR_0_0, qRd_0_0, qR_0_1, qRd_0_1, qR_0_2, qRd_0_2, qR_0_3, qRd_0_3, qR_0_4, qRd_0_4, qR_0_5, qRd_0_5, qR_0_6, qRd_0_6, qR_0_7, qRd_0_7, qR_0_8, qRd_0_8, qO_0, eG, eB, e_isWithin, hc]
        · have eBM := eBM mM laM roM
          rcases hr' with rfl | hF
          · simp only [r_MRm_soonest_0, r_MRm_soonest_1, r_MRm_soonest_3, r_MRm_soonest_6, r_MRm_soonest_7, r_MRm_soonest_8, r_MRm_soonest_11, r_MRm_soonest_14, r_MRm_soonest_15, r_MRm_soonest_16, r_MRm_soonest_19, r_MRm_soonest_22, r_MRm_soonest_24, r_MRm_soonest_25, r_MRm_soonest_26, r_MRm_soonest_29, r_MRm_soonest_32, r_MRm_soonest_33, sL_0, sL_1, sL_2, mk_i, mk_r, mk_f, mk_n, mk_u, mk_l, List.set_cons_succ, List.set_cons_zero, Nat.reduceAdd, ckS_0, ckS_1, ckS_2, ckS_3, ckS_4, Option.bind_some, Option.isSome_some, psh, if_true, if_false, i10, not_true_eq_false, not_false_eq_true, Bool.false_eq_true, and_self, and_true, true_and, eq_self, qI_81_0, qI_81_2, qI_81_3, qI_81_9, qI_81_10, qI_81_11, qI_81_12, qI_81_13, qI_81_18, qI_81_19, qI_81_20, qI_81_21, qI_81_29, qI_81_30, qI_81_31, qI_81_32, qI_81_33, qI_81_34, qI_81_35, qI_81_39, qI_81_40, qI_81_41, qI_81_42, qI_81_43, qI_81_44, qI_81_45, qI_81_46, qI_81_47, qI_81_51, qI_81_53, qR_81_1, qRd_81_1, qR_81_4, qRd_81_4, qR_81_5, qRd_81_5, qR_81_6, qRd_81_6, qR_81_7, qRd_81_7, qR_81_8, qRd_81_8, qR_81_14, qRd_81_14, qR_81_15, qRd_81_15, qR_81_16, qRd_81_16, qR_81_17, qRd_81_17, qR_81_22, qRd_81_22, qR_81_23, qRd_81_23, qR_81_24, qRd_81_24, qR_81_25, qRd_81_25, qR_81_26, qRd_81_26, qR_81_27, qRd_81_27, qR_81_28, qRd_81_28, qR_81_36, qRd_81_36, qR_81_37, qRd_81_37, qR_81_38, qRd_81_38, qR_81_48, qRd_81_48, qR_81_49, qRd_81_49, qR_81_50, qRd_81_50, qR_81_52, qRd_81_52, qR_81_54, qRd_81_54, qR_81_55, qRd_81_55, qR_81_56, qRd_81_56, qR_81_57, qRd_81_57, qR_81_58, qRd_81_58, qO_81, eBM, e_in, hc, show nI 9 = (9 : Int32) from rfl]
          · have n9 : ¬ nI r = 9 := fun q => by have := (nI_eq (a := r) (b := 9) (by omega) (by omega)).mp q; omega
            have cF := st_in (n := n) (by omega) hF
            have q29 := hM.2.1
            simp only [r_MRm_soonest_0, r_MRm_soonest_1, r_MRm_soonest_3, r_MRm_soonest_6, r_MRm_soonest_7, r_MRm_soonest_8, r_MRm_soonest_11, r_MRm_soonest_14, r_MRm_soonest_15, r_MRm_soonest_16, r_MRm_soonest_19, r_MRm_soonest_22, r_MRm_soonest_24, r_MRm_soonest_25, r_MRm_soonest_26, r_MRm_soonest_29, r_MRm_soonest_32, r_MRm_soonest_33, sL_0, sL_1, sL_2, mk_i, mk_r, mk_f, mk_n, mk_u, mk_l, List.set_cons_succ, List.set_cons_zero, Nat.reduceAdd, ckS_0, ckS_1, ckS_2, ckS_3, ckS_4, Option.bind_some, Option.isSome_some, psh, if_true, if_false, i10, not_true_eq_false, not_false_eq_true, Bool.false_eq_true, and_self, and_true, true_and, eq_self, qI_81_0, qI_81_2, qI_81_3, qI_81_9, qI_81_10, qI_81_11, qI_81_12, qI_81_13, qI_81_18, qI_81_19, qI_81_20, qI_81_21, qI_81_29, qI_81_30, qI_81_31, qI_81_32, qI_81_33, qI_81_34, qI_81_35, qI_81_39, qI_81_40, qI_81_41, qI_81_42, qI_81_43, qI_81_44, qI_81_45, qI_81_46, qI_81_47, qI_81_51, qI_81_53, qR_81_1, qRd_81_1, qR_81_4, qRd_81_4, qR_81_5, qRd_81_5, qR_81_6, qRd_81_6, qR_81_7, qRd_81_7, qR_81_8, qRd_81_8, qR_81_14, qRd_81_14, qR_81_15, qRd_81_15, qR_81_16, qRd_81_16, qR_81_17, qRd_81_17, qR_81_22, qRd_81_22, qR_81_23, qRd_81_23, qR_81_24, qRd_81_24, qR_81_25, qRd_81_25, qR_81_26, qRd_81_26, qR_81_27, qRd_81_27, qR_81_28, qRd_81_28, qR_81_36, qRd_81_36, qR_81_37, qRd_81_37, qR_81_38, qRd_81_38, qR_81_48, qRd_81_48, qR_81_49, qRd_81_49, qR_81_50, qRd_81_50, qR_81_52, qRd_81_52, qR_81_54, qRd_81_54, qR_81_55, qRd_81_55, qR_81_56, qRd_81_56, qR_81_57, qRd_81_57, qR_81_58, qRd_81_58, qO_81, n9, e_isFloor, q29, cF, eBM, e_in, hc]
    · have eB := eB.2 hB
      have eBM := fun mM laM roM => (eBM mM laM roM).2 hB
      refine ⟨-1, m, ro, ?_, hA, fun mM laM roM hM => ⟨mM, ?_⟩⟩
      · simp only [r_MTo_soonest_0, r_MTo_soonest_1, r_MTo_soonest_2, r_MTo_soonest_5, r_MTo_soonest_8, r_MTo_soonest_9, r_MTo_soonest_10, r_MTo_soonest_13, r_MTo_soonest_16, r_MTo_soonest_18, r_MTo_soonest_19, r_MTo_soonest_20, r_MTo_soonest_23, r_MTo_soonest_26, r_MTo_soonest_27, sL_0, sL_1, sL_2, mk_i, mk_r, mk_f, mk_n, mk_u, mk_l, List.set_cons_succ, List.set_cons_zero, Nat.reduceAdd, ckS_0, ckS_1, ckS_2, ckS_3, ckS_4, Option.bind_some, Option.isSome_some, psh, if_true, if_false, i10, not_true_eq_false, not_false_eq_true, Bool.false_eq_true, and_self, and_true, true_and, eq_self, qI_0_9, qI_0_10, qR_0_0, qRd_0_0, qR_0_1, qRd_0_1, qR_0_2, qRd_0_2, qR_0_3, qRd_0_3, qR_0_4, qRd_0_4, qR_0_5, qRd_0_5, qR_0_6, qRd_0_6, qR_0_7, qRd_0_7, qR_0_8, qRd_0_8, qO_0, eG, eB]
      · have eBM := eBM mM laM roM
        rcases hr' with rfl | hF
        · simp only [r_MRm_soonest_0, r_MRm_soonest_1, r_MRm_soonest_3, r_MRm_soonest_6, r_MRm_soonest_7, r_MRm_soonest_8, r_MRm_soonest_11, r_MRm_soonest_14, r_MRm_soonest_15, r_MRm_soonest_16, r_MRm_soonest_19, r_MRm_soonest_22, r_MRm_soonest_24, r_MRm_soonest_25, r_MRm_soonest_26, r_MRm_soonest_29, r_MRm_soonest_32, r_MRm_soonest_33, sL_0, sL_1, sL_2, mk_i, mk_r, mk_f, mk_n, mk_u, mk_l, List.set_cons_succ, List.set_cons_zero, Nat.reduceAdd, ckS_0, ckS_1, ckS_2, ckS_3, ckS_4, Option.bind_some, Option.isSome_some, psh, if_true, if_false, i10, not_true_eq_false, not_false_eq_true, Bool.false_eq_true, and_self, and_true, true_and, eq_self, qI_81_0, qI_81_2, qI_81_3, qI_81_9, qI_81_10, qI_81_11, qI_81_12, qI_81_13, qI_81_18, qI_81_19, qI_81_20, qI_81_21, qI_81_29, qI_81_30, qI_81_31, qI_81_32, qI_81_33, qI_81_34, qI_81_35, qI_81_39, qI_81_40, qI_81_41, qI_81_42, qI_81_43, qI_81_44, qI_81_45, qI_81_46, qI_81_47, qI_81_51, qI_81_53, qR_81_1, qRd_81_1, qR_81_4, qRd_81_4, qR_81_5, qRd_81_5, qR_81_6, qRd_81_6, qR_81_7, qRd_81_7, qR_81_8, qRd_81_8, qR_81_14, qRd_81_14, qR_81_15, qRd_81_15, qR_81_16, qRd_81_16, qR_81_17, qRd_81_17, qR_81_22, qRd_81_22, qR_81_23, qRd_81_23, qR_81_24, qRd_81_24, qR_81_25, qRd_81_25, qR_81_26, qRd_81_26, qR_81_27, qRd_81_27, qR_81_28, qRd_81_28, qR_81_36, qRd_81_36, qR_81_37, qRd_81_37, qR_81_38, qRd_81_38, qR_81_48, qRd_81_48, qR_81_49, qRd_81_49, qR_81_50, qRd_81_50, qR_81_52, qRd_81_52, qR_81_54, qRd_81_54, qR_81_55, qRd_81_55, qR_81_56, qRd_81_56, qR_81_57, qRd_81_57, qR_81_58, qRd_81_58, qO_81, eBM, show nI 9 = (9 : Int32) from rfl]
        · have n9 : ¬ nI r = 9 := fun q => by have := (nI_eq (a := r) (b := 9) (by omega) (by omega)).mp q; omega
          have cF := st_in (n := n) (by omega) hF
          have q29 := hM.2.1
          simp only [r_MRm_soonest_0, r_MRm_soonest_1, r_MRm_soonest_3, r_MRm_soonest_6, r_MRm_soonest_7, r_MRm_soonest_8, r_MRm_soonest_11, r_MRm_soonest_14, r_MRm_soonest_15, r_MRm_soonest_16, r_MRm_soonest_19, r_MRm_soonest_22, r_MRm_soonest_24, r_MRm_soonest_25, r_MRm_soonest_26, r_MRm_soonest_29, r_MRm_soonest_32, r_MRm_soonest_33, sL_0, sL_1, sL_2, mk_i, mk_r, mk_f, mk_n, mk_u, mk_l, List.set_cons_succ, List.set_cons_zero, Nat.reduceAdd, ckS_0, ckS_1, ckS_2, ckS_3, ckS_4, Option.bind_some, Option.isSome_some, psh, if_true, if_false, i10, not_true_eq_false, not_false_eq_true, Bool.false_eq_true, and_self, and_true, true_and, eq_self, qI_81_0, qI_81_2, qI_81_3, qI_81_9, qI_81_10, qI_81_11, qI_81_12, qI_81_13, qI_81_18, qI_81_19, qI_81_20, qI_81_21, qI_81_29, qI_81_30, qI_81_31, qI_81_32, qI_81_33, qI_81_34, qI_81_35, qI_81_39, qI_81_40, qI_81_41, qI_81_42, qI_81_43, qI_81_44, qI_81_45, qI_81_46, qI_81_47, qI_81_51, qI_81_53, qR_81_1, qRd_81_1, qR_81_4, qRd_81_4, qR_81_5, qRd_81_5, qR_81_6, qRd_81_6, qR_81_7, qRd_81_7, qR_81_8, qRd_81_8, qR_81_14, qRd_81_14, qR_81_15, qRd_81_15, qR_81_16, qRd_81_16, qR_81_17, qRd_81_17, qR_81_22, qRd_81_22, qR_81_23, qRd_81_23, qR_81_24, qRd_81_24, qR_81_25, qRd_81_25, qR_81_26, qRd_81_26, qR_81_27, qRd_81_27, qR_81_28, qRd_81_28, qR_81_36, qRd_81_36, qR_81_37, qRd_81_37, qR_81_38, qRd_81_38, qR_81_48, qRd_81_48, qR_81_49, qRd_81_49, qR_81_50, qRd_81_50, qR_81_52, qRd_81_52, qR_81_54, qRd_81_54, qR_81_55, qRd_81_55, qR_81_56, qRd_81_56, qR_81_57, qRd_81_57, qR_81_58, qRd_81_58, qO_81, n9, e_isFloor, q29, cF, eBM]
  · have eG := eG.2 hG
    refine ⟨-1, m, ro, ?_, hA, fun mM laM roM hM => ⟨mM, ?_⟩⟩
    · simp only [r_MTo_soonest_0, r_MTo_soonest_1, r_MTo_soonest_2, r_MTo_soonest_5, r_MTo_soonest_8, r_MTo_soonest_9, r_MTo_soonest_10, r_MTo_soonest_13, r_MTo_soonest_16, r_MTo_soonest_18, r_MTo_soonest_19, r_MTo_soonest_20, r_MTo_soonest_23, r_MTo_soonest_26, r_MTo_soonest_27, sL_0, sL_1, sL_2, mk_i, mk_r, mk_f, mk_n, mk_u, mk_l, List.set_cons_succ, List.set_cons_zero, Nat.reduceAdd, ckS_0, ckS_1, ckS_2, ckS_3, ckS_4, Option.bind_some, Option.isSome_some, psh, if_true, if_false, i10, not_true_eq_false, not_false_eq_true, Bool.false_eq_true, and_self, and_true, true_and, eq_self, qI_0_9, qI_0_10, qR_0_0, qRd_0_0, qR_0_1, qRd_0_1, qR_0_2, qRd_0_2, qR_0_3, qRd_0_3, qR_0_4, qRd_0_4, qR_0_5, qRd_0_5, qR_0_6, qRd_0_6, qR_0_7, qRd_0_7, qR_0_8, qRd_0_8, qO_0, eG]
    · have q29 := hM.2.1
      obtain ⟨g1, g2⟩ := hG
      simp only [r_MRm_soonest_0, r_MRm_soonest_1, r_MRm_soonest_3, r_MRm_soonest_6, r_MRm_soonest_7, r_MRm_soonest_8, r_MRm_soonest_11, r_MRm_soonest_14, r_MRm_soonest_15, r_MRm_soonest_16, r_MRm_soonest_19, r_MRm_soonest_22, r_MRm_soonest_24, r_MRm_soonest_25, r_MRm_soonest_26, r_MRm_soonest_29, r_MRm_soonest_32, r_MRm_soonest_33, sL_0, sL_1, sL_2, mk_i, mk_r, mk_f, mk_n, mk_u, mk_l, List.set_cons_succ, List.set_cons_zero, Nat.reduceAdd, ckS_0, ckS_1, ckS_2, ckS_3, ckS_4, Option.bind_some, Option.isSome_some, psh, if_true, if_false, i10, not_true_eq_false, not_false_eq_true, Bool.false_eq_true, and_self, and_true, true_and, eq_self, qI_81_0, qI_81_2, qI_81_3, qI_81_9, qI_81_10, qI_81_11, qI_81_12, qI_81_13, qI_81_18, qI_81_19, qI_81_20, qI_81_21, qI_81_29, qI_81_30, qI_81_31, qI_81_32, qI_81_33, qI_81_34, qI_81_35, qI_81_39, qI_81_40, qI_81_41, qI_81_42, qI_81_43, qI_81_44, qI_81_45, qI_81_46, qI_81_47, qI_81_51, qI_81_53, qR_81_1, qRd_81_1, qR_81_4, qRd_81_4, qR_81_5, qRd_81_5, qR_81_6, qRd_81_6, qR_81_7, qRd_81_7, qR_81_8, qRd_81_8, qR_81_14, qRd_81_14, qR_81_15, qRd_81_15, qR_81_16, qRd_81_16, qR_81_17, qRd_81_17, qR_81_22, qRd_81_22, qR_81_23, qRd_81_23, qR_81_24, qRd_81_24, qR_81_25, qRd_81_25, qR_81_26, qRd_81_26, qR_81_27, qRd_81_27, qR_81_28, qRd_81_28, qR_81_36, qRd_81_36, qR_81_37, qRd_81_37, qR_81_38, qRd_81_38, qR_81_48, qRd_81_48, qR_81_49, qRd_81_49, qR_81_50, qRd_81_50, qR_81_52, qRd_81_52, qR_81_54, qRd_81_54, qR_81_55, qRd_81_55, qR_81_56, qRd_81_56, qR_81_57, qRd_81_57, qR_81_58, qRd_81_58, qO_81, g1, e_isFloor, q29, g2]
end
