-- ===== stones, changes, floors: what goings need of both sides
def RFG (mu : Mu) : Prop := ∃ F, F ≤ 4 ∧ mu 0 10 = nI F ∧ mu 81 29 = nI F ∧ RFs mu F
def RMo (mu : Mu) (la : La) (ro : Ro) : Prop := RTS mu la ro ∧ RFG mu
abbrev dFK : WS := [(0, 11), (81, 30), (92, 0), (93, 0), (94, 0), (95, 0), (96, 0)]
abbrev dFC : WS := [(49, 5), (50, 0), (51, 0), (52, 0), (53, 0), (54, 5), (55, 0), (56, 0), (57, 0), (58, 0), (59, 5), (60, 0), (61, 0), (62, 0), (63, 0), (64, 5), (65, 0), (66, 0), (67, 0), (68, 0)]
abbrev dMo : WS := dTS ++ (dFK ++ dFC)
/-- but for the class's floors -/
abbrev dMc : WS := dTS ++ dFK
section
variable {X : Tok} {d : Nat} {mu mu1 mu' m m' : Mu} {la la1 la' : La} {ro ro1 ro' : Ro} {et : Nat → Option va_E} {N n S r F a R nt i j c : Nat} {g s w x y z k ca cb cc cd pc t fl x1 x2 : Int32} {T T' T0 G : Nat → Int32} {f : Option Nat} {LS : Nat → List Ln}
theorem RFG_LS (hj : JB mu la ro) (h : RFG mu) : ∃ n LS, n ≤ 4 ∧ mu 0 10 = nI n ∧ mu 81 29 = nI n ∧ AllC mu LS n ∧ AllM mu LS n := by
  obtain ⟨n, hn, h1, h2, h3⟩ := h
  have ex : ∀ F, ∃ ls, F < n → lnsOkC 0 ls ∧ ((ptL ls).length ≤ 121 ∧ (cdL ls).length ≤ 130 ∧ ls.length ≤ 61) ∧ FlC mu (49 + 5 * F) (ptL ls) ∧ FlM mu F ls := fun F => by
    by_cases q : F < n
    · obtain ⟨ls, hl⟩ := h3 F q
      exact ⟨ls, fun _ => hl⟩
    · exact ⟨[], fun z => absurd z q⟩
  obtain ⟨LS, hLS⟩ : ∃ LS : Nat → List Ln, ∀ F, F < n → lnsOkC 0 (LS F) ∧ ((ptL (LS F)).length ≤ 121 ∧ (cdL (LS F)).length ≤ 130 ∧ (LS F).length ≤ 61) ∧ FlC mu (49 + 5 * F) (ptL (LS F)) ∧ FlM mu F (LS F) := ⟨fun F => Classical.choose (ex F), fun F hF => Classical.choose_spec (ex F) hF⟩
  refine ⟨n, LS, hn, h1, h2, fun F hF => ?_, fun F hF => ?_⟩
  · obtain ⟨a1, ⟨a2, a3, a4⟩, a5, a6⟩ := hLS F hF
    exact ⟨a5, a1, a2⟩
  · obtain ⟨a1, ⟨a2, a3, a4⟩, a5, a6⟩ := hLS F hF
    obtain ⟨n', hn', b1, b2⟩ := hj.2.2 F (by omega)
    have : n' = (LS F).length := (nI_eq (by omega) (by omega)).mp (b1.symm.trans a6.1)
    subst this
    exact ⟨a6, b2, a1, a3, a4⟩
theorem RFG_of (hn : n ≤ 4) (h1 : mu 0 10 = nI n) (h2 : mu 81 29 = nI n) (hC : AllC mu LS n) (hM : AllM mu LS n) : RFG mu := by
  refine ⟨n, hn, h1, h2, fun F hF => ⟨LS F, ?_⟩⟩
  obtain ⟨c1, c2, c3⟩ := hC F hF
  obtain ⟨m1, m2, m3, m4, m5⟩ := hM F hF
  exact ⟨c2, ⟨c3, m4, m5⟩, c1, m1⟩
theorem fc_d : ∀ F, F < 4 → ((shp (49 + 5 * F)).1 = 0 ∧ wIn dFC (49 + 5 * F) 5 = true) ∧ ∀ r, r < 4 → (shp (49 + 5 * F + (r + 1))).1 ≠ 0 ∧ wIn dFC (49 + 5 * F + (r + 1)) 0 = true := by decide +kernel
theorem RFG_k (h0 : mu' 0 10 = mu 0 10) (h1 : mu' 81 29 = mu 81 29) (hC : ∀ F, F < 4 → ∀ P, FlC mu (49 + 5 * F) P → FlC mu' (49 + 5 * F) P) (hM : ∀ c i, 92 ≤ c → c ≤ 96 → mu' c i = mu c i) (q : RFG mu) : RFG mu' := by
  obtain ⟨n, hn, a0, a1, hs⟩ := q
  refine ⟨n, hn, h0.trans a0, h1.trans a1, fun F hF => ?_⟩
  obtain ⟨ls, b1, b2, b3, b4⟩ := hs F hF
  exact ⟨ls, b1, b2, hC F (by omega) _ b3, FlM_k hM b4⟩
theorem dFK_c {w : WS} (h : wDis w dFK = true) (f : frm w mu la ro mu' la' ro') : (mu' 0 10 = mu 0 10 ∧ mu' 81 29 = mu 81 29) ∧ ∀ c i, 92 ≤ c → c ≤ 96 → mu' c i = mu c i := by
  refine ⟨⟨dis_f h f (by decide) (by decide), dis_f h f (by decide) (by decide)⟩, fun c i h1 h2 => ?_⟩
  have : c = 92 ∨ c = 93 ∨ c = 94 ∨ c = 95 ∨ c = 96 := by omega
  rcases this with rfl | rfl | rfl | rfl | rfl <;> exact dis_r h f (by decide) (by decide)
theorem RFG_f {w : WS} (h : wDis w (dFK ++ dFC) = true) (f : frm w mu la ro mu' la' ro') (q : RFG mu) : RFG mu' := by
  obtain ⟨h1, h2⟩ := wDis_l h
  obtain ⟨⟨a, b⟩, c⟩ := dFK_c h1 f
  refine RFG_k a b (fun F hF P qP => ?_) c q
  obtain ⟨⟨w0, w1⟩, w2⟩ := fc_d F hF
  obtain ⟨p1, p2⟩ := qP
  have r : ∀ r j, r < 4 → mu' (49 + 5 * F + (r + 1)) j = mu (49 + 5 * F + (r + 1)) j := fun r j hr => dis_r h2 f (w2 r hr).1 (w2 r hr).2
  refine ⟨(dis_f h2 f w0 w1).trans p1, fun i p hp => ?_⟩
  obtain ⟨z1, z2, z3, z4⟩ := p2 i p hp
  exact ⟨(r 0 i (by omega)).trans z1, (r 1 i (by omega)).trans z2, (r 2 i (by omega)).trans z3, fun v hv => (r 3 i (by omega)).trans (z4 v hv)⟩
theorem RMo_f {w : WS} (h : wDis w dMo = true) (f : frm w mu la ro mu' la' ro') (q : RMo mu la ro) : RMo mu' la' ro' := ⟨RTS_f (wDis_l h).1 f q.1, RFG_f (wDis_l h).2 f q.2⟩
/-- what a going of the class leaves -/
theorem RMo_c {w : WS} (h : wDis w dMc = true) (f : frm w mu la ro mu' la' ro') (hj : JB mu la ro) (hA : ∀ n LS, n ≤ 4 → mu 0 10 = nI n → AllC mu LS n → AllC mu' LS n) (q : RMo mu la ro) : RMo mu' la' ro' := by
  refine ⟨RTS_f (wDis_l h).1 f q.1, ?_⟩
  obtain ⟨n, LS, hn, h1, h2, hC, hM⟩ := RFG_LS hj q.2
  obtain ⟨⟨a, b⟩, c⟩ := dFK_c (wDis_l h).2 f
  exact RFG_of hn (a.trans h1) (b.trans h2) (hA n LS hn h1 hC) (AllM_k c hM)
/-- a stone, as a going needs it -/
theorem st_go (q : RMo mu la ro) (hS : S < N) (h9 : mu 0 9 = nI N) (hN : N ≤ 6) : ∃ L, (L ≤ 12 ∧ mu 83 S = nI L) ∧ knM mu S L = knC mu (19 + 5 * S) ∧ RtM mu S (mu (19 + 5 * S + 4) 0) (mu (19 + 5 * S + 4) 1) (mu (19 + 5 * S + 4) 2) (mu (19 + 5 * S + 4) 3) ∧ RtB (mu (19 + 5 * S + 4) 2) (mu (19 + 5 * S + 4) 3) := by
  obtain ⟨⟨_, n, D, U, ⟨hn, _⟩, e9, _, h0, hs, _⟩, _⟩ := q
  have : n = N := (nI_eq (by omega) (by omega)).mp (e9.symm.trans h9)
  subst this
  have h := hs S hS
  obtain ⟨L, ⟨l1, l2⟩, l3, l4, l5, l6, l7⟩ := id h
  refine ⟨L, ⟨l2, l4⟩, (kn_eq0 h l4 l2 h0).1, ⟨(l6 0 (by omega)).1.symm, (l6 1 (by omega)).1.symm, (l6 2 (by omega)).1.symm, (l6 3 (by omega)).1.symm⟩, ?_⟩
  obtain ⟨e2, r2⟩ := l6 2 (by omega)
  obtain ⟨e3, r3⟩ := l6 3 (by omega)
  unfold rtI at r2 r3
  rw [if_neg (by omega)] at r2 r3
  rw [← e2] at r2
  rw [← e3] at r3
  exact ⟨r2, r3⟩
theorem RMo_N (q : RMo mu la ro) : ∃ N, N ≤ 6 ∧ mu 0 9 = nI N ∧ mu 81 3 = nI N := by
  obtain ⟨⟨_, n, D, U, ⟨hn, _⟩, e9, e3, _⟩, _⟩ := q
  exact ⟨n, hn, e9, e3⟩
theorem sitM_r (hn : n ≤ 4) (h : r = 9 ∨ r < n) : SitM (nI r) n (fR r) 0 := by
  unfold fR
  by_cases c : r = 9
  · rw [if_pos c]
    subst c
    exact .inl ⟨rfl, rfl⟩
  · rw [if_neg c]
    exact ⟨by omega, rfl⟩
theorem sitP_r : SitP (fR r) 0 := by
  unfold fR
  by_cases c : r = 9
  · rw [if_pos c]
    exact SitM_P (n := 0) (fl := 9) (f := none) (.inl ⟨rfl, rfl⟩)
  · rw [if_neg c]
    exact SitM_P (n := r + 1) (fl := nI r) (f := some r) ⟨by omega, rfl⟩
-- roll: the class
theorem nn_le (h : 0 ≤ x ∧ x ≤ 400) : ∃ nt, nt ≤ 400 ∧ x = nI nt := by
  obtain ⟨h1, h2⟩ := h
  obtain ⟨W, hW, rfl⟩ := nn_n h1
  rw [Int32.le_iff_toInt_le, nI_toInt hW, show (400 : Int32).toInt = 400 from rfl] at h2
  exact ⟨W, by omega, rfl⟩
/-- the going of roll: tick by tick -/
noncomputable def roP (m : Mu) (S r : Nat) (LS : Nat → List Ln) (k s w : Int32) : Nat → Nat → Int32 := fun i => spN k (m (19 + 5 * S + 4) 0) (m (19 + 5 * S + 4) 1) (m (19 + 5 * S + 4) 2) (m (19 + 5 * S + 4) 3) (flO LS (fR r)) 0 i (beT s (w / 1000) (w - w / 1000 * 1000) 0)
theorem e_rollC (hr : rOk ro) (hN : N ≤ 6) (hn : n ≤ 4) (h9 : m 0 9 = nI N) (h0 : m 0 10 = nI n) (hG : Grd N n g S r) (hB : stB s w) (hnt : nt ≤ 400) (hA : AllC m LS n) : ∃ m' : Mu, Rr X (d + 6) MTo_roll 0 [.ref 0, .int g, .int s, .int w, .int (nI nt)] [] (Wd m la ro et) = some (some (.int (roP m S r LS (knC m (19 + 5 * S)) s w nt 7)), Wd (moM m' (roP m S r LS (knC m (19 + 5 * S)) s w nt)) la (upR ro 6 5 (flN r)) et) ∧ (∀ c j, (c < 6 ∨ 10 < c) → (c < 49 ∨ 68 < c) → m' c j = m c j) ∧ AllC m' LS n ∧ (∀ t, t ≤ nt → m' 8 t = roP m S r LS (knC m (19 + 5 * S)) s w t 7 ∧ m' 9 t = roP m S r LS (knC m (19 + 5 * S)) s w t 8 ∧ m' 10 t = roP m S r LS (knC m (19 + 5 * S)) s w t 9) ∧ m' 7 3 = nI nt ∧ m' 7 4 = roP m S r LS (knC m (19 + 5 * S)) s w nt 12 ∧ m' 7 5 = roP m S r LS (knC m (19 + 5 * S)) s w nt 13 ∧ m' 7 6 = roP m S r LS (knC m (19 + 5 * S)) s w nt 14 ∧ m' 7 7 = roP m S r LS (knC m (19 + 5 * S)) s w nt 15 ∧ m' 7 8 = roP m S r LS (knC m (19 + 5 * S)) s w nt 16 := by
  obtain ⟨hS, hr', _⟩ := id hG
  obtain ⟨P, hP⟩ : ∃ P, P = roP m S r LS (knC m (19 + 5 * S)) s w := ⟨_, rfl⟩
  have eG := (e_isGround (X := X) (d := d + 2) (mu := m) (la := la) (et := et) (g := g) hr hN hn h9 h0).1 S r hG
  have eB := (e_startC (X := X) (d := d + 4) (mu := m) (la := la) (ro := ro) (et := et) (s := s) (w := w)).1 hB
  have eL := e_layOwn (X := X) (d := d + 1) (m := m) (la := la) (et := et) hr hN hn h9 h0 hG
  obtain ⟨m1, hm1⟩ : ∃ m1, m1 = ruM m (19 + 5 * S) (knC m (19 + 5 * S)) := ⟨_, rfl⟩
  have o1 : ∀ c j, ¬ c = 6 → m1 c j = m c j := fun c j h => by rw [hm1]; exact ru_o h
  obtain ⟨hk, h66⟩ := ru_co (m := m) (a := 19 + 5 * S) (k := knC m (19 + 5 * S)) (by omega)
  have hs := ru_sit (m := m) (a := 19 + 5 * S) (k := knC m (19 + 5 * S)) (ro := ro) (n := n) hr' hn
  rw [← hm1] at eL hk hs
  have eT := e_startT (X := X) (d := d + 3) (m := m1) (la := la) (ro := upR ro 6 5 (flN r)) (et := et) (s := s) (w := w)
  have hP0 : beT s (w / 1000) (w - w / 1000 * 1000) 0 = P 0 := by rw [hP]; rfl
  rw [hP0] at eT
  have A1 := AllC_k (m' := m1) (fun c j h1 h2 => o1 c j (by omega)) hn hA
  obtain ⟨m', eR, o', A', rw1, f3, f4, f5, f6, f7, f8⟩ := e_record (X := X) (d := d) (la := la) (et := et) (nt := nt) (P := P) hn hnt (fun i => by rw [hP]; rfl) hk hs A1
  rw [← hP]
  have v7 : moM m' (P nt) 6 7 = P nt 7 := mo_v (by omega) (by omega)
  have c4 : (0 : Int32) ≤ nI nt ∧ nI nt ≤ 400 := ⟨Int32.not_lt.mp (nI_pos (by omega)), nI_le (a := nt) (b := 400) hnt (by decide)⟩
  refine ⟨m', ?_, fun c j h1 h2 => (o' c j (by omega) h2).trans (o1 c j (by omega)), A', rw1, f3, f4, f5, f6, f7, f8⟩
  simp only [r_MTo_roll_0, r_MTo_roll_1, r_MTo_roll_2, r_MTo_roll_5, r_MTo_roll_8, r_MTo_roll_9, r_MTo_roll_10, r_MTo_roll_13, r_MTo_roll_16, r_MTo_roll_18, r_MTo_roll_19, r_MTo_roll_22, r_MTo_roll_25, r_MTo_roll_28, r_MTo_roll_30, r_MTo_roll_31, r_MTo_roll_32, r_MTo_roll_33, r_MTo_roll_36, r_MTo_roll_37, r_MTo_roll_38, r_MTo_roll_39, r_MTo_roll_42, r_MTo_roll_43, r_MTo_roll_46, r_MTo_roll_47, r_MTo_roll_50, r_MTo_roll_52, r_MTo_roll_55, r_MTo_roll_56, r_MTo_roll_59, r_MTo_roll_62, sL_0, sL_1, sL_2, mk_i, mk_r, mk_f, mk_n, mk_u, mk_l, List.set_cons_succ, List.set_cons_zero, Nat.reduceAdd, ckS_0, ckS_1, ckS_2, ckS_3, ckS_4, Option.bind_some, Option.isSome_some, psh, if_true, if_false, i10, not_true_eq_false, not_false_eq_true, Bool.false_eq_true, and_self, and_true, true_and, eq_self, qI_0_9, qI_0_10, qI_6_0, qI_6_1, qI_6_2, qI_6_3, qI_6_4, qI_6_6, qI_6_7, qI_6_8, qI_6_9, qI_6_10, qI_6_11, qI_6_12, qI_6_13, qI_6_14, qI_6_15, qI_6_16, qI_7_3, qI_7_4, qI_7_5, qI_7_6, qI_7_7, qI_7_8, qR_0_0, qRd_0_0, qR_0_1, qRd_0_1, qR_0_2, qRd_0_2, qR_0_3, qRd_0_3, qR_0_4, qRd_0_4, qR_0_5, qRd_0_5, qR_0_6, qRd_0_6, qR_0_7, qRd_0_7, qR_0_8, qRd_0_8, qR_7_0, qRd_7_0, qR_7_1, qRd_7_1, qR_7_2, qRd_7_2, qO_0, qO_6, qO_7, qM_6_5, eG, eB, eL, eT, eR, e_isWithin, c4, v7]
theorem e_rollC0 (hr : rOk ro) (hN : N ≤ 6) (hn : n ≤ 4) (h9 : m 0 9 = nI N) (h0 : m 0 10 = nI n) (h : (¬ ∃ S r, Grd N n g S r) ∨ ¬ stB s w ∨ ¬ (0 ≤ t ∧ t ≤ 400)) : Rr X (d + 6) MTo_roll 0 [.ref 0, .int g, .int s, .int w, .int t] [] (Wd m la ro et) = some (some (.int (-2000000000)), Wd m la ro et) := by
  have eG := e_isGround (X := X) (d := d + 2) (mu := m) (la := la) (et := et) (g := g) hr hN hn h9 h0
  have eB := e_startC (X := X) (d := d + 4) (mu := m) (la := la) (ro := ro) (et := et) (s := s) (w := w)
  rcases g_ca hN hn g with ⟨S, r, hG⟩ | hG
  · have eG := eG.1 S r hG
    by_cases hB : stB s w
    · have eB := eB.1 hB
      have h4 : ¬ (0 ≤ t ∧ t ≤ 400) := by
        rcases h with h | h | h
        · exact absurd ⟨S, r, hG⟩ h
        · exact absurd hB h
        · exact h
      simp only [r_MTo_roll_0, r_MTo_roll_1, r_MTo_roll_2, r_MTo_roll_5, r_MTo_roll_8, r_MTo_roll_9, r_MTo_roll_10, r_MTo_roll_13, r_MTo_roll_16, r_MTo_roll_18, r_MTo_roll_19, r_MTo_roll_22, r_MTo_roll_25, r_MTo_roll_28, r_MTo_roll_30, r_MTo_roll_31, r_MTo_roll_32, r_MTo_roll_33, r_MTo_roll_36, r_MTo_roll_37, r_MTo_roll_38, r_MTo_roll_39, r_MTo_roll_42, r_MTo_roll_43, r_MTo_roll_46, r_MTo_roll_47, r_MTo_roll_50, r_MTo_roll_52, r_MTo_roll_55, r_MTo_roll_56, r_MTo_roll_59, r_MTo_roll_62, sL_0, sL_1, sL_2, mk_i, mk_r, mk_f, mk_n, mk_u, mk_l, List.set_cons_succ, List.set_cons_zero, Nat.reduceAdd, ckS_0, ckS_1, ckS_2, ckS_3, ckS_4, Option.bind_some, Option.isSome_some, psh, if_true, if_false, i10, not_true_eq_false, not_false_eq_true, Bool.false_eq_true, and_self, and_true, true_and, eq_self, qI_0_9, qI_0_10, qI_6_0, qI_6_1, qI_6_2, qI_6_3, qI_6_4, qI_6_6, qI_6_7, qI_6_8, qI_6_9, qI_6_10, qI_6_11, qI_6_12, qI_6_13, qI_6_14, qI_6_15, qI_6_16, qI_7_3, qI_7_4, qI_7_5, qI_7_6, qI_7_7, qI_7_8, qR_0_0, qRd_0_0, qR_0_1, qRd_0_1, qR_0_2, qRd_0_2, qR_0_3, qRd_0_3, qR_0_4, qRd_0_4, qR_0_5, qRd_0_5, qR_0_6, qRd_0_6, qR_0_7, qRd_0_7, qR_0_8, qRd_0_8, qR_7_0, qRd_7_0, qR_7_1, qRd_7_1, qR_7_2, qRd_7_2, qO_0, qO_6, qO_7, qM_6_5, eG, eB, e_isWithin, h4]
    · have eB := eB.2 hB
      simp only [r_MTo_roll_0, r_MTo_roll_1, r_MTo_roll_2, r_MTo_roll_5, r_MTo_roll_8, r_MTo_roll_9, r_MTo_roll_10, r_MTo_roll_13, r_MTo_roll_16, r_MTo_roll_18, r_MTo_roll_19, r_MTo_roll_22, r_MTo_roll_25, r_MTo_roll_28, r_MTo_roll_30, r_MTo_roll_31, r_MTo_roll_32, r_MTo_roll_33, r_MTo_roll_36, r_MTo_roll_37, r_MTo_roll_38, r_MTo_roll_39, r_MTo_roll_42, r_MTo_roll_43, r_MTo_roll_46, r_MTo_roll_47, r_MTo_roll_50, r_MTo_roll_52, r_MTo_roll_55, r_MTo_roll_56, r_MTo_roll_59, r_MTo_roll_62, sL_0, sL_1, sL_2, mk_i, mk_r, mk_f, mk_n, mk_u, mk_l, List.set_cons_succ, List.set_cons_zero, Nat.reduceAdd, ckS_0, ckS_1, ckS_2, ckS_3, ckS_4, Option.bind_some, Option.isSome_some, psh, if_true, if_false, i10, not_true_eq_false, not_false_eq_true, Bool.false_eq_true, and_self, and_true, true_and, eq_self, qI_0_9, qI_0_10, qI_6_0, qI_6_1, qI_6_2, qI_6_3, qI_6_4, qI_6_6, qI_6_7, qI_6_8, qI_6_9, qI_6_10, qI_6_11, qI_6_12, qI_6_13, qI_6_14, qI_6_15, qI_6_16, qI_7_3, qI_7_4, qI_7_5, qI_7_6, qI_7_7, qI_7_8, qR_0_0, qRd_0_0, qR_0_1, qRd_0_1, qR_0_2, qRd_0_2, qR_0_3, qRd_0_3, qR_0_4, qRd_0_4, qR_0_5, qRd_0_5, qR_0_6, qRd_0_6, qR_0_7, qRd_0_7, qR_0_8, qRd_0_8, qR_7_0, qRd_7_0, qR_7_1, qRd_7_1, qR_7_2, qRd_7_2, qO_0, qO_6, qO_7, qM_6_5, eG, eB]
  · have eG := eG.2 hG
    simp only [r_MTo_roll_0, r_MTo_roll_1, r_MTo_roll_2, r_MTo_roll_5, r_MTo_roll_8, r_MTo_roll_9, r_MTo_roll_10, r_MTo_roll_13, r_MTo_roll_16, r_MTo_roll_18, r_MTo_roll_19, r_MTo_roll_22, r_MTo_roll_25, r_MTo_roll_28, r_MTo_roll_30, r_MTo_roll_31, r_MTo_roll_32, r_MTo_roll_33, r_MTo_roll_36, r_MTo_roll_37, r_MTo_roll_38, r_MTo_roll_39, r_MTo_roll_42, r_MTo_roll_43, r_MTo_roll_46, r_MTo_roll_47, r_MTo_roll_50, r_MTo_roll_52, r_MTo_roll_55, r_MTo_roll_56, r_MTo_roll_59, r_MTo_roll_62, sL_0, sL_1, sL_2, mk_i, mk_r, mk_f, mk_n, mk_u, mk_l, List.set_cons_succ, List.set_cons_zero, Nat.reduceAdd, ckS_0, ckS_1, ckS_2, ckS_3, ckS_4, Option.bind_some, Option.isSome_some, psh, if_true, if_false, i10, not_true_eq_false, not_false_eq_true, Bool.false_eq_true, and_self, and_true, true_and, eq_self, qI_0_9, qI_0_10, qI_6_0, qI_6_1, qI_6_2, qI_6_3, qI_6_4, qI_6_6, qI_6_7, qI_6_8, qI_6_9, qI_6_10, qI_6_11, qI_6_12, qI_6_13, qI_6_14, qI_6_15, qI_6_16, qI_7_3, qI_7_4, qI_7_5, qI_7_6, qI_7_7, qI_7_8, qR_0_0, qRd_0_0, qR_0_1, qRd_0_1, qR_0_2, qRd_0_2, qR_0_3, qRd_0_3, qR_0_4, qRd_0_4, qR_0_5, qRd_0_5, qR_0_6, qRd_0_6, qR_0_7, qRd_0_7, qR_0_8, qRd_0_8, qR_7_0, qRd_7_0, qR_7_1, qRd_7_1, qR_7_2, qRd_7_2, qO_0, qO_6, qO_7, qM_6_5, eG]
end
