-- ===== the reader of the class, against the model's as functions
abbrev Sm (s r : PS) (N : List Pt) (n q : Nat) : Prop := ∃ code, r.2.2.2 = s.2.2.2 ++ code ∧ Sem code N n q
/-- how a reading ends: parts more, a part or -1, a place -/
abbrev Ocm (mu : Mu) (a : Nat) (la : La) (ro : Ro) (et : Nat → Option va_E) (s r : PS) (P : List Pt) (res : Res) : Prop := ∃ (N : List Pt) (p : Int32) (h : Nat), res = some (some (.int p), (Wd (tp (fm mu a (P ++ N)) (h)) la ro et)) ∧ (N.length + s.1 ≤ h ∧ h ≤ Tt mu) ∧ (noF r = true → h = r.1 ∧ ∃ q, p = nI q ∧ q < (P ++ N).length ∧ Sm s r N P.length q) ∧ (noF r = false → r.2.1 = some h ∧ (p = -1 ∨ isD (bt mu h) = true))
section
variable {X : Tok} {d : Nat} {mu mu' : Mu} {la la' : La} {ro ro' : Ro} {et : Nat → Option va_E} {a h : Nat} {P : List Pt} {x : Int32} {s : PS} {k : Nat} {sub : PS → PS} {sg : Int32 → Bool}
theorem fm_o {c j : Nat} (ha : 49 ≤ a) (hc : c < 49) : fm mu a P c j = mu c j := by
  unfold fm
  rw [if_neg (by omega), if_neg (by omega), if_neg (by omega), if_neg (by omega), if_neg (by omega)]
theorem cb_fm (ha : 49 ≤ a) : cb (fm mu a P) = cb mu := by
  refine funext fun h => ?_
  unfold cb
  rw [fm_o ha (by decide), fm_o ha (by decide)]
theorem tC_fm (ha : 49 ≤ a) (hT : tC mu) : tC (fm mu a P) := by
  obtain ⟨T, t1, t2⟩ := hT
  exact ⟨T, t1, by rw [fm_o ha (by decide)]; exact t2⟩
theorem Tcl_fm (ha : 49 ≤ a) : Tcl (fm mu a P) = Tcl mu := by
  unfold Tcl
  rw [fm_o ha (by decide)]
theorem dgC_c (hb : cb mu' = cb mu) {l : Int32} : dgC mu' l h = dgC mu l h := by
  unfold dgC
  rw [hb]
theorem nbL_c (hb : cb mu' = cb mu) : ∀ (r h : Nat) (v : Int32), nbL mu' r h v = nbL mu r h v
  | 0, _, _ => rfl
  | r + 1, h, v => by rw [nbL, nbL, dgC_c hb, hb, nbL_c hb r]
theorem nbC_c (hb : cb mu' = cb mu) {M : Nat} : nbC mu' M h = nbC mu M h := by
  unfold nbC
  rw [dgC_c hb, hb, nbL_c hb]
theorem w_here (hR : RT mu) (ha : 49 ≤ a) (hh : h ≤ 120) : Rr X d MTa_here 0 [.ref 1] [] (Wd (tp (fm mu a (P)) (h)) la ro et) = some (some (.int (cb mu h)), (Wd (tp (fm mu a (P)) (h)) la ro et)) := by
  rw [e_here (tC_fm ha (RT_C hR)) hh, cb_fm ha]
theorem w_skip (hR : RT mu) (ha : 49 ≤ a) (hh : h ≤ 120) : Rr X (d + 1) MTa_skip 0 [.ref 1, .int x] [] (Wd (tp (fm mu a (P)) (h)) la ro et) = some (some (.int (if cb mu h = x then 1 else 0)), (Wd (tp (fm mu a (P)) (if cb mu h = x then h + 1 else h)) la ro et)) := by
  rw [e_skip (tC_fm ha (RT_C hR)) hh, cb_fm ha]
theorem w_number (hR : RT mu) (ha : 49 ≤ a) (hh : h ≤ Tcl mu) : Rr X (d + 2) MTa_number 0 [.ref 1, .int 4, mkU, mkU, mkU, mkU] [] (Wd (tp (fm mu a (P)) (h)) la ro et) = some (some (.int (nbC mu 4 h).2), (Wd (tp (fm mu a (P)) ((nbC mu 4 h).1)) la ro et)) := by
  have e := e_number (X := X) (d := d) (la := la) (ro := ro) (et := et) (M := 4) (tC_fm (P := P) ha (RT_C hR)) (by decide) (by decide) (h := h) (by rw [Tcl_fm ha]; exact hh)
  rw [nbC_c (cb_fm ha)] at e
  exact e
theorem loopJ_x (h : noF s = false) : ∀ n, loopJ mu sg sub n s = s
  | 0 => rfl
  | n + 1 => by rw [loopJ, if_neg (by rw [h, Bool.false_and]; decide)]
theorem m1_ne {L : Nat} (hL : L < 2 ^ 31) : ¬ (-1 : Int32) = nI L := fun q => nI_nm hL q.symm
theorem rj_m1 {z : Nat} {L o most i : Int32} {l7 l8 : Value} {w : Hp} : Rr X d MFl_readJoined 39 [.ref z, .ref 1, .int L, .int o, .int (-1), .int most, .int i, l7, l8] [] w = some (some (.int (-1)), w) := by
  rw [r_MFl_readJoined_39]
  simp only [r_MFl_readJoined_41, r_MFl_readJoined_43, r_MFl_readJoined_46, r_MFl_readJoined_48, r_MFl_readJoined_49, r_MFl_readJoined_115, r_MFl_readJoined_117, sL_0, sL_1, sL_2, mk_i, mk_r, mk_f, mk_n, mk_u, mk_l, List.set_cons_succ, List.set_cons_zero, Nat.reduceAdd, ckS_0, ckS_1, ckS_2, ckS_3, ckS_4, Option.bind_some, Option.isSome_some, psh, if_true, if_false, i10, not_true_eq_false, not_false_eq_true, Bool.false_eq_true, and_self, and_true, true_and, eq_self, ite_self]
theorem rj_dead {L : Nat} {o p most i : Int32} {l7 l8 : Value} (hR : RT mu) (ha : 49 ≤ a) (hh : h ≤ 120) (hne : ¬ lvF (cb mu h) = nI L) : Rr X (d + 1) MFl_readJoined 39 [.ref a, .ref 1, .int (nI L), .int o, .int p, .int most, .int i, l7, l8] [] (Wd (tp (fm mu a (P)) (h)) la ro et) = some (some (.int p), (Wd (tp (fm mu a (P)) (h)) la ro et)) := by
  have eh := w_here (X := X) (d := d) (la := la) (ro := ro) (et := et) (P := P) hR ha hh
  rw [r_MFl_readJoined_39]
  simp only [r_MFl_readJoined_41, r_MFl_readJoined_43, r_MFl_readJoined_46, r_MFl_readJoined_48, r_MFl_readJoined_49, r_MFl_readJoined_52, r_MFl_readJoined_52n, r_MFl_readJoined_53, r_MFl_readJoined_56, r_MFl_readJoined_59, r_MFl_readJoined_60, r_MFl_readJoined_115, r_MFl_readJoined_117, sL_0, sL_1, sL_2, mk_i, mk_r, mk_f, mk_n, mk_u, mk_l, List.set_cons_succ, List.set_cons_zero, Nat.reduceAdd, ckS_0, ckS_1, ckS_2, ckS_3, ckS_4, Option.bind_some, Option.isSome_some, psh, if_true, if_false, i10, not_true_eq_false, not_false_eq_true, Bool.false_eq_true, and_self, and_true, true_and, eq_self, qI_1_1, qI_1_2, qR_1_0, qRd_1_0, qO_1, eh, e_levelOf, hne, ite_self]
set_option maxHeartbeats 4000000 in
theorem rj_loop {c L most : Nat} (hR : RT mu) (qa : flA a) (hL : L ≤ 4) (hs : sgOk sg) (hb : ∀ b, sg b = true → bi b ∧ 0 ≤ b.toInt ∧ b.toInt ≤ 127) (hlv : ∀ h, lvF (cb mu h) = nI L ↔ sg (bt mu h) = true) (hG : Gd mu k sub) (hsub : ∀ d s P, Pre mu k s → P.length ≤ s.1 → Ocm mu a la ro et s (sub s) P (Rr X (d + c + 2) MFl_readJoined 0 [.ref a, .ref 1, .int (nI (L + 1)), .int (nI s.2.2.1), mkU, mkU, mkU, mkU, mkU] [] (Wd (tp (fm mu a (P)) (s.1)) la ro et))) (d : Nat) (h0 : Pre mu k s) (hP : P.length ≤ s.1) : ∀ (m i : Nat) (r : PS) (N : List Pt) (q : Nat) (l7 l8 : Value), Rl mu s r → noF r = true → N.length + s.1 ≤ r.1 → q < (P ++ N).length → Sm s r N P.length q → ((most = 120 ∧ Tt mu - r.1 < m ∧ 2 * i ≤ r.1) ∨ (most = 1 ∧ i + m = 1)) → Ocm mu a la ro et s (loopJ mu sg sub m r) P (Rr X (d + c + 3) MFl_readJoined 39 [.ref a, .ref 1, .int (nI L), .int (nI s.2.2.1), .int (nI q), .int (nI most), .int (nI i), l7, l8] [] (Wd (tp (fm mu a (P ++ N)) (r.1)) la ro et)) := by
  have hT2 := Tt_le (RT_M hR)
  have ha := qa.1.2.2
  have f0 := qa.1.1
  intro m
  induction m with
  | zero =>
    intro i r N q l7 l8 hr hn hN hq hsm hm
    have hi : most = 1 ∧ i = 1 := by omega
    obtain ⟨hm1, hi1⟩ := hi
    have h1 : nI most ≤ nI i := nI_le (by omega) (by omega)
    rw [loopJ]
    refine ⟨N, nI q, r.1, ?_, ⟨hN, hr.1.2⟩, fun _ => ⟨rfl, q, rfl, hq, hsm⟩, fun h => absurd (hn.symm.trans h) (by decide)⟩
    simp only [r_MFl_readJoined_39, r_MFl_readJoined_41, r_MFl_readJoined_43, r_MFl_readJoined_115, r_MFl_readJoined_117, sL_0, sL_1, sL_2, mk_i, mk_r, mk_f, mk_n, mk_u, mk_l, List.set_cons_succ, List.set_cons_zero, Nat.reduceAdd, ckS_0, ckS_1, ckS_2, ckS_3, ckS_4, Option.bind_some, Option.isSome_some, psh, if_true, if_false, h1]
  | succ m ih =>
    intro i r N q l7 l8 hr hn hN hq hsm hm
    have hr1 : r.1 ≤ 120 := by have := hr.1.2; omega
    have hlen : (P ++ N).length ≤ r.1 := by rw [List.length_append]; omega
    have h1 : ¬ nI most ≤ nI i := nI_ge (by omega) (by omega)
    have h2 : ¬ nI q = -1 := nI_nm (by omega)
    have eh := fun d => w_here (X := X) (d := d) (la := la) (ro := ro) (et := et) (P := P ++ N) hR ha hr1
    by_cases c1 : sg (bt mu r.1) = true
    · have hl := (hlv r.1).mpr c1
      obtain ⟨hbi, hb1, hb2⟩ := hb _ c1
      have ecb : cb mu r.1 = bt mu r.1 := (cb_k hR ⟨hb1, hb2⟩).mpr rfl
      obtain ⟨g1, g2, g3⟩ := Rl_step hs hG h0 hr hn c1
      obtain ⟨_, _, _, code0, k1, k2, k3⟩ := id hr
      have hop := (k3 hn).1
      obtain ⟨N2, p2, h3, e2, ⟨b1, b2⟩, b3, b4⟩ := hsub d (hS r) (P ++ N) g1 (by show (P ++ N).length ≤ r.1 + 1; omega)
      have e2' : Rr X (d + c + 2) MFl_readJoined 0 [.ref a, .ref 1, .int (nI (L + 1)), .int (nI s.2.2.1), mkU, mkU, mkU, mkU, mkU] [] (Wd (tp (fm mu a (P ++ N)) (r.1 + 1)) la ro et) = some (some (.int p2), (Wd (tp (fm mu a (P ++ N ++ N2)) (h3)) la ro et)) := by rw [← hop]; exact e2
      have b1 : N2.length + (r.1 + 1) ≤ h3 := b1
      have hlen2 : (P ++ N ++ N2).length + 1 ≤ h3 := by rw [List.length_append]; omega
      have es := fun d => w_skip (X := X) (d := d) (la := la) (ro := ro) (et := et) (P := P ++ N) (x := cb mu r.1) hR ha hr1
      simp only [if_true] at es
      rw [loopJ, if_pos (by rw [hn, c1]; rfl)]
      by_cases c2 : noF (sub (hS r)) = true
      · obtain ⟨rfl, q2, rfl, hq2, code2, m1, m2⟩ := b3 c2
        have ea := fun d => e_app (X := X) (d := d) (mu := mu) (la := la) (ro := ro) (et := et) (P := P ++ N ++ N2) (h := (sub (hS r)).1) (x := cb mu r.1) (l := nI q) (r := nI q2) qa (by omega)
        have nq : ¬ nI q2 = -1 := nI_nm (by omega)
        obtain ⟨code1, j1, j2⟩ := hsm
        obtain ⟨_, _, _, code3, t1, t2, t3⟩ := hG _ g1
        have t4 : r.1 + 1 < (sub (hS r)).1 := (t3 c2).2.1
        have eL : P ++ (N ++ N2 ++ [(cb mu r.1, nI q, nI q2, none)]) = P ++ N ++ N2 ++ [(cb mu r.1, nI q, nI q2, none)] := by simp only [List.append_assoc]
        have nx := ih (i + 1) (adS (sub (hS r)) (bt mu r.1) 0) (N ++ N2 ++ [(cb mu r.1, nI q, nI q2, none)]) (P ++ N ++ N2).length (.int (cb mu r.1)) (.int (nI q2)) g3 c2 (by
          show (N ++ N2 ++ [(cb mu r.1, nI q, nI q2, none)]).length + s.1 ≤ (sub (hS r)).1
          rw [List.length_append, List.length_append, List.length_singleton]
          omega) (by rw [eL, List.length_append (as := P ++ N ++ N2), List.length_singleton]; omega) (by
          refine ⟨code1 ++ code2 ++ [(bt mu r.1, 0)], ?_, ?_⟩
          · show (sub (hS r)).2.2.2 ++ [(bt mu r.1, 0)] = _
            rw [m1]
            show r.2.2.2 ++ code2 ++ _ = _
            rw [j1]
            simp only [List.append_assoc]
          · rw [ecb]
            rw [List.length_append] at m2 hlen2
            have z := Sem_bin (n := P.length) (N1 := N) (N2 := N2) hbi (by rw [List.length_append] at hlen2; omega) j2 m2
            rw [List.append_assoc P N N2, List.length_append (as := P)]
            exact z) (by show (_ ∧ Tt mu - (sub (hS r)).1 < m ∧ 2 * (i + 1) ≤ (sub (hS r)).1) ∨ _; omega)
        rw [eL] at nx
        rw [r_MFl_readJoined_39]
        simp only [r_MFl_readJoined_41, r_MFl_readJoined_43, r_MFl_readJoined_46, r_MFl_readJoined_48, r_MFl_readJoined_49, r_MFl_readJoined_52, r_MFl_readJoined_52n, r_MFl_readJoined_53, r_MFl_readJoined_56, r_MFl_readJoined_59, r_MFl_readJoined_60, r_MFl_readJoined_63, r_MFl_readJoined_63n, r_MFl_readJoined_64, r_MFl_readJoined_67, r_MFl_readJoined_69, r_MFl_readJoined_69n, r_MFl_readJoined_70, r_MFl_readJoined_72, r_MFl_readJoined_75, r_MFl_readJoined_76, r_MFl_readJoined_77, r_MFl_readJoined_77n, r_MFl_readJoined_78, r_MFl_readJoined_79, r_MFl_readJoined_80, r_MFl_readJoined_81, r_MFl_readJoined_82, r_MFl_readJoined_85, r_MFl_readJoined_87, r_MFl_readJoined_89, r_MFl_readJoined_90, r_MFl_readJoined_93, r_MFl_readJoined_94, r_MFl_readJoined_97, r_MFl_readJoined_98, r_MFl_readJoined_100, r_MFl_readJoined_102, r_MFl_readJoined_104, r_MFl_readJoined_107, r_MFl_readJoined_109, r_MFl_readJoined_112, sL_0, sL_1, sL_2, mk_i, mk_r, mk_f, mk_n, mk_u, mk_l, List.set_cons_succ, List.set_cons_zero, Nat.reduceAdd, ckS_0, ckS_1, ckS_2, ckS_3, ckS_4, Option.bind_some, Option.isSome_some, psh, if_true, if_false, i10, not_true_eq_false, not_false_eq_true, Bool.false_eq_true, and_self, and_true, true_and, eq_self, qI_1_1, qI_1_2, qR_1_0, qRd_1_0, qO_1, f0, h1, h2, eh, e_levelOf, hl, es, nI_1, e2', nq, ea]
        exact nx
      · have c2' : noF (sub (hS r)) = false := Bool.eq_false_iff.mpr c2
        obtain ⟨f1, f2⟩ := b4 c2'
        rw [loopJ_x (s := adS (sub (hS r)) (bt mu r.1) 0) c2']
        by_cases p1 : p2 = -1
        · subst p1
          refine ⟨N ++ N2, -1, h3, ?_, ⟨by rw [List.length_append]; omega, b2⟩, fun h => absurd h c2, fun _ => ⟨f1, .inl rfl⟩⟩
          rw [← List.append_assoc]
          rw [r_MFl_readJoined_39]
          simp only [r_MFl_readJoined_41, r_MFl_readJoined_43, r_MFl_readJoined_46, r_MFl_readJoined_48, r_MFl_readJoined_49, r_MFl_readJoined_52, r_MFl_readJoined_52n, r_MFl_readJoined_53, r_MFl_readJoined_56, r_MFl_readJoined_59, r_MFl_readJoined_60, r_MFl_readJoined_63, r_MFl_readJoined_63n, r_MFl_readJoined_64, r_MFl_readJoined_67, r_MFl_readJoined_69, r_MFl_readJoined_69n, r_MFl_readJoined_70, r_MFl_readJoined_72, r_MFl_readJoined_75, r_MFl_readJoined_76, r_MFl_readJoined_77, r_MFl_readJoined_77n, r_MFl_readJoined_78, r_MFl_readJoined_79, r_MFl_readJoined_80, r_MFl_readJoined_81, r_MFl_readJoined_82, r_MFl_readJoined_85, r_MFl_readJoined_87, r_MFl_readJoined_89, r_MFl_readJoined_90, r_MFl_readJoined_93, r_MFl_readJoined_94, r_MFl_readJoined_97, r_MFl_readJoined_98, r_MFl_readJoined_100, r_MFl_readJoined_102, r_MFl_readJoined_104, r_MFl_readJoined_107, r_MFl_readJoined_109, r_MFl_readJoined_112, rj_m1, sL_0, sL_1, sL_2, mk_i, mk_r, mk_f, mk_n, mk_u, mk_l, List.set_cons_succ, List.set_cons_zero, Nat.reduceAdd, ckS_0, ckS_1, ckS_2, ckS_3, ckS_4, Option.bind_some, Option.isSome_some, psh, if_true, if_false, i10, not_true_eq_false, not_false_eq_true, Bool.false_eq_true, and_self, and_true, true_and, eq_self, qI_1_1, qI_1_2, qR_1_0, qRd_1_0, qO_1, f0, h1, h2, eh, e_levelOf, hl, es, nI_1, e2']
        · have f3 := f2.resolve_left p1
          have ea := fun d => e_app (X := X) (d := d) (mu := mu) (la := la) (ro := ro) (et := et) (P := P ++ N ++ N2) (h := h3) (x := cb mu r.1) (l := nI q) (r := p2) qa (by omega)
          have hne : ¬ lvF (cb mu h3) = nI L := by rw [cb_d hR f3, lv_dig f3]; exact m1_ne (by omega)
          have st := fun d (i : Int32) (l7 l8 : Value) => rj_dead (X := X) (d := d) (la := la) (ro := ro) (et := et) (P := P ++ N ++ N2 ++ [(cb mu r.1, nI q, p2, none)]) (L := L) (o := nI s.2.2.1) (p := nI (P ++ N ++ N2).length) (most := nI most) (i := i) (l7 := l7) (l8 := l8) hR ha (show h3 ≤ 120 by omega) hne
          refine ⟨N ++ N2 ++ [(cb mu r.1, nI q, p2, none)], nI (P ++ N ++ N2).length, h3, ?_, ⟨by rw [List.length_append, List.length_append, List.length_singleton]; omega, b2⟩, fun h => absurd h c2, fun _ => ⟨f1, .inr f3⟩⟩
          rw [← List.append_assoc, ← List.append_assoc]
          rw [r_MFl_readJoined_39]
          simp only [r_MFl_readJoined_41, r_MFl_readJoined_43, r_MFl_readJoined_46, r_MFl_readJoined_48, r_MFl_readJoined_49, r_MFl_readJoined_52, r_MFl_readJoined_52n, r_MFl_readJoined_53, r_MFl_readJoined_56, r_MFl_readJoined_59, r_MFl_readJoined_60, r_MFl_readJoined_63, r_MFl_readJoined_63n, r_MFl_readJoined_64, r_MFl_readJoined_67, r_MFl_readJoined_69, r_MFl_readJoined_69n, r_MFl_readJoined_70, r_MFl_readJoined_72, r_MFl_readJoined_75, r_MFl_readJoined_76, r_MFl_readJoined_77, r_MFl_readJoined_77n, r_MFl_readJoined_78, r_MFl_readJoined_79, r_MFl_readJoined_80, r_MFl_readJoined_81, r_MFl_readJoined_82, r_MFl_readJoined_85, r_MFl_readJoined_87, r_MFl_readJoined_89, r_MFl_readJoined_90, r_MFl_readJoined_93, r_MFl_readJoined_94, r_MFl_readJoined_97, r_MFl_readJoined_98, r_MFl_readJoined_100, r_MFl_readJoined_102, r_MFl_readJoined_104, r_MFl_readJoined_107, r_MFl_readJoined_109, r_MFl_readJoined_112, st, sL_0, sL_1, sL_2, mk_i, mk_r, mk_f, mk_n, mk_u, mk_l, List.set_cons_succ, List.set_cons_zero, Nat.reduceAdd, ckS_0, ckS_1, ckS_2, ckS_3, ckS_4, Option.bind_some, Option.isSome_some, psh, if_true, if_false, i10, not_true_eq_false, not_false_eq_true, Bool.false_eq_true, and_self, and_true, true_and, eq_self, qI_1_1, qI_1_2, qR_1_0, qRd_1_0, qO_1, f0, h1, h2, eh, e_levelOf, hl, es, nI_1, e2', p1, ea]
    · have hne : ¬ lvF (cb mu r.1) = nI L := fun q => c1 ((hlv _).mp q)
      rw [loopJ, if_neg (by rw [hn, Bool.true_and]; exact c1)]
      refine ⟨N, nI q, r.1, ?_, ⟨hN, hr.1.2⟩, fun _ => ⟨rfl, q, rfl, hq, hsm⟩, fun h => absurd (hn.symm.trans h) (by decide)⟩
      rw [r_MFl_readJoined_39]
      simp only [r_MFl_readJoined_41, r_MFl_readJoined_43, r_MFl_readJoined_46, r_MFl_readJoined_48, r_MFl_readJoined_49, r_MFl_readJoined_52, r_MFl_readJoined_52n, r_MFl_readJoined_53, r_MFl_readJoined_56, r_MFl_readJoined_59, r_MFl_readJoined_60, r_MFl_readJoined_115, r_MFl_readJoined_117, sL_0, sL_1, sL_2, mk_i, mk_r, mk_f, mk_n, mk_u, mk_l, List.set_cons_succ, List.set_cons_zero, Nat.reduceAdd, ckS_0, ckS_1, ckS_2, ckS_3, ckS_4, Option.bind_some, Option.isSome_some, psh, if_true, if_false, i10, not_true_eq_false, not_false_eq_true, Bool.false_eq_true, and_self, and_true, true_and, eq_self, qI_1_1, qI_1_2, qR_1_0, qRd_1_0, qO_1, f0, h1, h2, eh, e_levelOf, hne]
set_option maxHeartbeats 4000000 in
theorem rj_lv {c L n : Nat} (hR : RT mu) (qa : flA a) (hL : L ≤ 4) (hs : sgOk sg) (hb : ∀ b, sg b = true → bi b ∧ 0 ≤ b.toInt ∧ b.toInt ≤ 127) (hlv : ∀ h, lvF (cb mu h) = nI L ↔ sg (bt mu h) = true) (hG : Gd mu k sub) (hn : (n = 121 ∧ ¬ L = 2) ∨ (n = 1 ∧ L = 2)) (hsub : ∀ d s P, Pre mu k s → P.length ≤ s.1 → Ocm mu a la ro et s (sub s) P (Rr X (d + c + 2) MFl_readJoined 0 [.ref a, .ref 1, .int (nI (L + 1)), .int (nI s.2.2.1), mkU, mkU, mkU, mkU, mkU] [] (Wd (tp (fm mu a (P)) (s.1)) la ro et))) (d : Nat) (s : PS) (P : List Pt) (h0 : Pre mu k s) (hP : P.length ≤ s.1) : Ocm mu a la ro et s (jn mu sg n sub s) P (Rr X (d + c + 3) MFl_readJoined 0 [.ref a, .ref 1, .int (nI L), .int (nI s.2.2.1), mkU, mkU, mkU, mkU, mkU] [] (Wd (tp (fm mu a (P)) (s.1)) la ro et)) := by
  have hT2 := Tt_le (RT_M hR)
  have ha := qa.1.2.2
  have f0 := qa.1.1
  obtain ⟨N, p, h, e, ⟨b1, b2⟩, b3, b4⟩ := hsub d s P h0 hP
  have hl4 : nI L ≤ 4 := nI_le (a := L) (b := 4) hL (by omega)
  obtain ⟨most, hm, hmo⟩ : ∃ most : Nat, ((most = 120 ∧ ¬ L = 2) ∨ (most = 1 ∧ L = 2)) ∧ Rr X (d + c + 3) MFl_readJoined 0 [.ref a, .ref 1, .int (nI L), .int (nI s.2.2.1), mkU, mkU, mkU, mkU, mkU] [] (Wd (tp (fm mu a (P)) (s.1)) la ro et) = Rr X (d + c + 3) MFl_readJoined 39 [.ref a, .ref 1, .int (nI L), .int (nI s.2.2.1), .int p, .int (nI most), .int (nI 0), mkU, mkU] [] (Wd (tp (fm mu a (P ++ N)) (h)) la ro et) := by
    by_cases c2 : L = 2
    · subst c2
      have t2 : nI 2 = 2 := rfl
      have t3 : (2 : Int32) + 1 = nI 3 := rfl
      have e3 : Rr X (d + c + 2) MFl_readJoined 0 [.ref a, .ref 1, .int (nI 3), .int (nI s.2.2.1), mkU, mkU, mkU, mkU, mkU] [] (Wd (tp (fm mu a (P)) (s.1)) la ro et) = some (some (.int p), (Wd (tp (fm mu a (P ++ N)) (h)) la ro et)) := e
      rw [t2] at hl4
      refine ⟨1, .inr ⟨rfl, rfl⟩, ?_⟩
      simp only [r_MFl_readJoined_0, r_MFl_readJoined_1, r_MFl_readJoined_2, r_MFl_readJoined_5, r_MFl_readJoined_6, r_MFl_readJoined_6n, r_MFl_readJoined_7, r_MFl_readJoined_8, r_MFl_readJoined_11, r_MFl_readJoined_12, r_MFl_readJoined_13, r_MFl_readJoined_13n, r_MFl_readJoined_14, r_MFl_readJoined_15, r_MFl_readJoined_16, r_MFl_readJoined_17, r_MFl_readJoined_18, r_MFl_readJoined_21, r_MFl_readJoined_23, r_MFl_readJoined_24, r_MFl_readJoined_25, r_MFl_readJoined_28, r_MFl_readJoined_29, r_MFl_readJoined_32, r_MFl_readJoined_34, r_MFl_readJoined_36, r_MFl_readJoined_37, sL_0, sL_1, sL_2, mk_i, mk_r, mk_f, mk_n, mk_u, mk_l, List.set_cons_succ, List.set_cons_zero, Nat.reduceAdd, ckS_0, ckS_1, ckS_2, ckS_3, ckS_4, Option.bind_some, Option.isSome_some, psh, if_true, if_false, i10, not_true_eq_false, not_false_eq_true, Bool.false_eq_true, and_self, and_true, true_and, eq_self, f0, t2, hl4, t3, e3]
      rfl
    · have t2 : ¬ nI L = 2 := fun q => c2 ((nI_eq (b := 2) (by omega) (by omega)).mp q)
      refine ⟨120, .inl ⟨rfl, c2⟩, ?_⟩
      simp only [r_MFl_readJoined_0, r_MFl_readJoined_1, r_MFl_readJoined_2, r_MFl_readJoined_5, r_MFl_readJoined_6, r_MFl_readJoined_6n, r_MFl_readJoined_7, r_MFl_readJoined_8, r_MFl_readJoined_11, r_MFl_readJoined_12, r_MFl_readJoined_13, r_MFl_readJoined_13n, r_MFl_readJoined_14, r_MFl_readJoined_15, r_MFl_readJoined_16, r_MFl_readJoined_17, r_MFl_readJoined_18, r_MFl_readJoined_21, r_MFl_readJoined_23, r_MFl_readJoined_24, r_MFl_readJoined_25, r_MFl_readJoined_28, r_MFl_readJoined_29, r_MFl_readJoined_32, r_MFl_readJoined_34, r_MFl_readJoined_36, r_MFl_readJoined_37, sL_0, sL_1, sL_2, mk_i, mk_r, mk_f, mk_n, mk_u, mk_l, List.set_cons_succ, List.set_cons_zero, Nat.reduceAdd, ckS_0, ckS_1, ckS_2, ckS_3, ckS_4, Option.bind_some, Option.isSome_some, psh, if_true, if_false, i10, not_true_eq_false, not_false_eq_true, Bool.false_eq_true, and_self, and_true, true_and, eq_self, f0, t2, hl4, nI_1, e]
      rfl
  rw [hmo, jn]
  by_cases c1 : noF (sub s) = true
  · obtain ⟨rfl, q, rfl, hq, hsm⟩ := b3 c1
    exact rj_loop hR qa hL hs hb hlv hG hsub d h0 hP n 0 (sub s) N q mkU mkU (hG s h0) c1 b1 hq hsm (by omega)
  · have c1' : noF (sub s) = false := Bool.eq_false_iff.mpr c1
    obtain ⟨f1, f2⟩ := b4 c1'
    have hz : ¬ nI most ≤ nI 0 := nI_ge (by omega) (by omega)
    rw [loopJ_x c1']
    refine ⟨N, p, h, ?_, ⟨b1, b2⟩, fun q => absurd q c1, fun _ => ⟨f1, f2⟩⟩
    by_cases p1 : p = -1
    · subst p1
      exact rj_m1
    · have f3 := f2.resolve_left p1
      have hne : ¬ lvF (cb mu h) = nI L := by rw [cb_d hR f3, lv_dig f3]; exact m1_ne (by omega)
      exact rj_dead hR ha (show h ≤ 120 by omega) hne
theorem rj_5 {c : Nat} (hsub : ∀ d s P, Pre mu k s → P.length ≤ s.1 → Ocm mu a la ro et s (sub s) P (Rr X (d + c) MFl_readOne 0 [.ref a, .ref 1, .int (nI s.2.2.1), mkU, mkU] [] (Wd (tp (fm mu a (P)) (s.1)) la ro et))) (f1 : qO a 3 = true) (d : Nat) (s : PS) (P : List Pt) (h0 : Pre mu k s) (hP : P.length ≤ s.1) : Ocm mu a la ro et s (sub s) P (Rr X (d + c + 1) MFl_readJoined 0 [.ref a, .ref 1, .int (nI 5), .int (nI s.2.2.1), mkU, mkU, mkU, mkU, mkU] [] (Wd (tp (fm mu a (P)) (s.1)) la ro et)) := by
  obtain ⟨N, p, h, e, b⟩ := hsub d s P h0 hP
  have hl4 : ¬ nI 5 ≤ 4 := by decide
  refine ⟨N, p, h, ?_, b⟩
  simp only [r_MFl_readJoined_0, r_MFl_readJoined_1, r_MFl_readJoined_2, r_MFl_readJoined_5, r_MFl_readJoined_6, r_MFl_readJoined_6n, r_MFl_readJoined_7, r_MFl_readJoined_8, r_MFl_readJoined_11, sL_0, sL_1, sL_2, mk_i, mk_r, mk_f, mk_n, mk_u, mk_l, List.set_cons_succ, List.set_cons_zero, Nat.reduceAdd, ckS_0, ckS_1, ckS_2, ckS_3, ckS_4, Option.bind_some, Option.isSome_some, psh, if_true, if_false, i10, not_true_eq_false, not_false_eq_true, Bool.false_eq_true, and_self, and_true, true_and, eq_self, hl4, f1, e]
theorem bi_Mu : ∀ b, isMu b = true → bi b ∧ 0 ≤ b.toInt ∧ b.toInt ≤ 127 := fun b h => by rcases of_decide_eq_true h with rfl | rfl | rfl <;> decide
theorem bi_Su : ∀ b, isSu b = true → bi b ∧ 0 ≤ b.toInt ∧ b.toInt ≤ 127 := fun b h => by rcases of_decide_eq_true h with rfl | rfl <;> decide
theorem bi_Cp : ∀ b, isCp b = true → bi b ∧ 0 ≤ b.toInt ∧ b.toInt ≤ 127 := fun b h => by rcases of_decide_eq_true h with rfl | rfl | rfl <;> decide
theorem bi_Bo : ∀ b, isBo b = true → bi b ∧ 0 ≤ b.toInt ∧ b.toInt ≤ 127 := fun b h => by cases of_decide_eq_true h; decide
theorem bi_Ei : ∀ b, isEi b = true → bi b ∧ 0 ≤ b.toInt ∧ b.toInt ≤ 127 := fun b h => by cases of_decide_eq_true h; decide
theorem rj_all {c : Nat} (hR : RT mu) (qa : flA a) (hG : Gd mu k sub) (hsub : ∀ d s P, Pre mu k s → P.length ≤ s.1 → Ocm mu a la ro et s (sub s) P (Rr X (d + (c + 1)) MFl_readOne 0 [.ref a, .ref 1, .int (nI s.2.2.1), mkU, mkU] [] (Wd (tp (fm mu a (P)) (s.1)) la ro et))) (d : Nat) (s : PS) (P : List Pt) (h0 : Pre mu k s) (hP : P.length ≤ s.1) : Ocm mu a la ro et s (lv5 mu sub s) P (Rr X (d + c + 7) MFl_readJoined 0 [.ref a, .ref 1, .int (nI 0), .int (nI s.2.2.1), mkU, mkU, mkU, mkU, mkU] [] (Wd (tp (fm mu a (P)) (s.1)) la ro et)) := by
  obtain ⟨G1, G2, G3, G4, G5⟩ := Gd_lv5 hG
  have s5 := rj_5 (c := c + 1) hsub qa.1.1
  have s4 := rj_lv (c := c) (L := 4) (n := 121) hR qa (by decide) sg_Mu bi_Mu (fun h => (lv_sg hR).1) hG (.inl ⟨rfl, by decide⟩) s5
  have s3 := rj_lv (c := c + 1) (L := 3) (n := 121) hR qa (by decide) sg_Su bi_Su (fun h => (lv_sg hR).2.1) G1 (.inl ⟨rfl, by decide⟩) s4
  have s2 := rj_lv (c := c + 2) (L := 2) (n := 1) hR qa (by decide) sg_Cp bi_Cp (fun h => (lv_sg hR).2.2.1) G2 (.inr ⟨rfl, rfl⟩) s3
  have s1 := rj_lv (c := c + 3) (L := 1) (n := 121) hR qa (by decide) sg_Bo bi_Bo (fun h => (lv_sg hR).2.2.2.1) G3 (.inl ⟨rfl, by decide⟩) s2
  exact rj_lv (c := c + 4) (L := 0) (n := 121) hR qa (by decide) sg_Ei bi_Ei (fun h => (lv_sg hR).2.2.2.2) G4 (.inl ⟨rfl, by decide⟩) s1 d s P h0 hP
-- what stands open
theorem ropU {D o : Nat} {y a3 : Int32} {r : PS} (hR : RT mu) (qa : flA a) (hx : (x = 33 ∧ y = 33 ∧ a3 = 3) ∨ (x = 45 ∧ y = 2 ∧ a3 = 4)) (hP : P.length ≤ s.1) (hO : Ocm mu a la ro et (hS (oS s o)) r P (Rr X D MFl_readOne 0 [.ref a, .ref 1, .int (nI o), mkU, mkU] [] (Wd (tp (fm mu a (P)) (s.1 + 1)) la ro et))) : Ocm mu a la ro et s (adS (oS r (r.2.2.1 - 1)) a3 0) P (Rr X (D + 1) MFl_readOpened 0 [.ref a, .ref 1, .int x, .int (nI o), mkU] [] (Wd (tp (fm mu a (P)) (s.1 + 1)) la ro et)) := by
  have hT2 := Tt_le (RT_M hR)
  obtain ⟨N, p, h, e, ⟨b1, b2⟩, b3, b4⟩ := hO
  have b1 : N.length + (s.1 + 1) ≤ h := b1
  have f1 := qa.1.1
  have hlen : (P ++ N).length + 1 ≤ h := by rw [List.length_append]; omega
  have ea := e_app (X := X) (d := D) (mu := mu) (la := la) (ro := ro) (et := et) (P := P ++ N) (h := h) (x := y) (l := p) (r := -1) qa (by omega)
  have run : ¬ p = -1 → Rr X (D + 1) MFl_readOpened 0 [.ref a, .ref 1, .int x, .int (nI o), mkU] [] (Wd (tp (fm mu a (P)) (s.1 + 1)) la ro et) = some (some (.int (nI (P ++ N).length)), (Wd (tp (fm mu a (P ++ N ++ [(y, p, -1, none)])) (h)) la ro et)) := fun p1 => by
    rcases hx with ⟨rfl, rfl, rfl⟩ | ⟨rfl, rfl, rfl⟩
    · have k1 : ((33 : Int32) = 40) = False := by decide
      have k2 : ((33 : Int32) = 45) = False := by decide
      simp only [r_MFl_readOpened_0, r_MFl_readOpened_1, r_MFl_readOpened_3, r_MFl_readOpened_6, r_MFl_readOpened_7, r_MFl_readOpened_7n, r_MFl_readOpened_8, r_MFl_readOpened_9, r_MFl_readOpened_10, r_MFl_readOpened_13, r_MFl_readOpened_15, r_MFl_readOpened_17, r_MFl_readOpened_18, r_MFl_readOpened_21, r_MFl_readOpened_21n, r_MFl_readOpened_22, r_MFl_readOpened_24, r_MFl_readOpened_27, r_MFl_readOpened_30, r_MFl_readOpened_32, r_MFl_readOpened_35, r_MFl_readOpened_36, r_MFl_readOpened_37, r_MFl_readOpened_38, r_MFl_readOpened_38n, r_MFl_readOpened_39, r_MFl_readOpened_40, r_MFl_readOpened_43, r_MFl_readOpened_45, r_MFl_readOpened_47, r_MFl_readOpened_48, r_MFl_readOpened_51, r_MFl_readOpened_52, r_MFl_readOpened_55, r_MFl_readOpened_56, r_MFl_readOpened_57, r_MFl_readOpened_59, r_MFl_readOpened_62, r_MFl_readOpened_63, r_MFl_readOpened_66, r_MFl_readOpened_67, r_MFl_readOpened_69, r_MFl_readOpened_70, r_MFl_readOpened_73, sL_0, sL_1, sL_2, mk_i, mk_r, mk_f, mk_n, mk_u, mk_l, List.set_cons_succ, List.set_cons_zero, Nat.reduceAdd, ckS_0, ckS_1, ckS_2, ckS_3, ckS_4, Option.bind_some, Option.isSome_some, psh, if_true, if_false, i10, not_true_eq_false, not_false_eq_true, Bool.false_eq_true, and_self, and_true, true_and, eq_self, k1, k2, e, p1, f1, ea]
    · have k1 : ((45 : Int32) = 40) = False := by decide
      simp only [r_MFl_readOpened_0, r_MFl_readOpened_1, r_MFl_readOpened_3, r_MFl_readOpened_6, r_MFl_readOpened_7, r_MFl_readOpened_7n, r_MFl_readOpened_8, r_MFl_readOpened_9, r_MFl_readOpened_10, r_MFl_readOpened_13, r_MFl_readOpened_15, r_MFl_readOpened_17, r_MFl_readOpened_18, r_MFl_readOpened_21, r_MFl_readOpened_21n, r_MFl_readOpened_22, r_MFl_readOpened_24, r_MFl_readOpened_27, r_MFl_readOpened_30, r_MFl_readOpened_32, r_MFl_readOpened_35, r_MFl_readOpened_36, r_MFl_readOpened_37, r_MFl_readOpened_38, r_MFl_readOpened_38n, r_MFl_readOpened_39, r_MFl_readOpened_40, r_MFl_readOpened_43, r_MFl_readOpened_45, r_MFl_readOpened_47, r_MFl_readOpened_48, r_MFl_readOpened_51, r_MFl_readOpened_52, r_MFl_readOpened_55, r_MFl_readOpened_56, r_MFl_readOpened_57, r_MFl_readOpened_59, r_MFl_readOpened_62, r_MFl_readOpened_63, r_MFl_readOpened_66, r_MFl_readOpened_67, r_MFl_readOpened_69, r_MFl_readOpened_70, r_MFl_readOpened_73, sL_0, sL_1, sL_2, mk_i, mk_r, mk_f, mk_n, mk_u, mk_l, List.set_cons_succ, List.set_cons_zero, Nat.reduceAdd, ckS_0, ckS_1, ckS_2, ckS_3, ckS_4, Option.bind_some, Option.isSome_some, psh, if_true, if_false, i10, not_true_eq_false, not_false_eq_true, Bool.false_eq_true, and_self, and_true, true_and, eq_self, k1, e, p1, f1, ea]
  have runN : p = -1 → Rr X (D + 1) MFl_readOpened 0 [.ref a, .ref 1, .int x, .int (nI o), mkU] [] (Wd (tp (fm mu a (P)) (s.1 + 1)) la ro et) = some (some (.int (-1)), (Wd (tp (fm mu a (P ++ N)) (h)) la ro et)) := fun p1 => by
    subst p1
    rcases hx with ⟨rfl, rfl, rfl⟩ | ⟨rfl, rfl, rfl⟩
    · have k1 : ((33 : Int32) = 40) = False := by decide
      simp only [r_MFl_readOpened_0, r_MFl_readOpened_1, r_MFl_readOpened_3, r_MFl_readOpened_6, r_MFl_readOpened_7, r_MFl_readOpened_7n, r_MFl_readOpened_8, r_MFl_readOpened_9, r_MFl_readOpened_10, r_MFl_readOpened_13, r_MFl_readOpened_15, r_MFl_readOpened_17, r_MFl_readOpened_18, r_MFl_readOpened_21, r_MFl_readOpened_21n, r_MFl_readOpened_22, r_MFl_readOpened_24, r_MFl_readOpened_27, r_MFl_readOpened_30, r_MFl_readOpened_32, r_MFl_readOpened_35, r_MFl_readOpened_36, r_MFl_readOpened_37, r_MFl_readOpened_38, r_MFl_readOpened_38n, r_MFl_readOpened_39, r_MFl_readOpened_40, r_MFl_readOpened_43, r_MFl_readOpened_45, r_MFl_readOpened_47, r_MFl_readOpened_48, r_MFl_readOpened_51, r_MFl_readOpened_52, r_MFl_readOpened_55, r_MFl_readOpened_56, r_MFl_readOpened_57, r_MFl_readOpened_59, r_MFl_readOpened_62, r_MFl_readOpened_63, r_MFl_readOpened_66, r_MFl_readOpened_67, r_MFl_readOpened_69, r_MFl_readOpened_70, r_MFl_readOpened_73, sL_0, sL_1, sL_2, mk_i, mk_r, mk_f, mk_n, mk_u, mk_l, List.set_cons_succ, List.set_cons_zero, Nat.reduceAdd, ckS_0, ckS_1, ckS_2, ckS_3, ckS_4, Option.bind_some, Option.isSome_some, psh, if_true, if_false, i10, not_true_eq_false, not_false_eq_true, Bool.false_eq_true, and_self, and_true, true_and, eq_self, k1, e, f1]
    · have k1 : ((45 : Int32) = 40) = False := by decide
      simp only [r_MFl_readOpened_0, r_MFl_readOpened_1, r_MFl_readOpened_3, r_MFl_readOpened_6, r_MFl_readOpened_7, r_MFl_readOpened_7n, r_MFl_readOpened_8, r_MFl_readOpened_9, r_MFl_readOpened_10, r_MFl_readOpened_13, r_MFl_readOpened_15, r_MFl_readOpened_17, r_MFl_readOpened_18, r_MFl_readOpened_21, r_MFl_readOpened_21n, r_MFl_readOpened_22, r_MFl_readOpened_24, r_MFl_readOpened_27, r_MFl_readOpened_30, r_MFl_readOpened_32, r_MFl_readOpened_35, r_MFl_readOpened_36, r_MFl_readOpened_37, r_MFl_readOpened_38, r_MFl_readOpened_38n, r_MFl_readOpened_39, r_MFl_readOpened_40, r_MFl_readOpened_43, r_MFl_readOpened_45, r_MFl_readOpened_47, r_MFl_readOpened_48, r_MFl_readOpened_51, r_MFl_readOpened_52, r_MFl_readOpened_55, r_MFl_readOpened_56, r_MFl_readOpened_57, r_MFl_readOpened_59, r_MFl_readOpened_62, r_MFl_readOpened_63, r_MFl_readOpened_66, r_MFl_readOpened_67, r_MFl_readOpened_69, r_MFl_readOpened_70, r_MFl_readOpened_73, sL_0, sL_1, sL_2, mk_i, mk_r, mk_f, mk_n, mk_u, mk_l, List.set_cons_succ, List.set_cons_zero, Nat.reduceAdd, ckS_0, ckS_1, ckS_2, ckS_3, ckS_4, Option.bind_some, Option.isSome_some, psh, if_true, if_false, i10, not_true_eq_false, not_false_eq_true, Bool.false_eq_true, and_self, and_true, true_and, eq_self, k1, e, f1]
  by_cases c : noF r = true
  · obtain ⟨rfl, q, rfl, hq, code, m1, m2⟩ := b3 c
    refine ⟨N ++ [(y, nI q, -1, none)], nI (P ++ N).length, r.1, ?_, ⟨by rw [List.length_append, List.length_singleton]; omega, b2⟩, fun _ => ⟨rfl, (P ++ N).length, rfl, ?_, code ++ [(a3, 0)], ?_, ?_⟩, fun hh => absurd (c.symm.trans hh) (by decide)⟩
    · rw [← List.append_assoc]
      exact run (nI_nm (by omega))
    · rw [← List.append_assoc, List.length_append (as := P ++ N), List.length_singleton]
      omega
    · show r.2.2.2 ++ [(a3, 0)] = _
      rw [m1]
      show s.2.2.2 ++ code ++ _ = _
      rw [List.append_assoc]
    · rw [List.length_append] at hlen ⊢
      rcases hx with ⟨rfl, rfl, rfl⟩ | ⟨rfl, rfl, rfl⟩
      · exact Sem_not (by omega) m2
      · exact Sem_neg (by omega) m2
  · obtain ⟨g1, g2⟩ := b4 (Bool.eq_false_iff.mpr c)
    by_cases p1 : p = -1
    · exact ⟨N, -1, h, runN p1, ⟨by omega, b2⟩, fun q => absurd q c, fun _ => ⟨g1, .inl rfl⟩⟩
    · refine ⟨N ++ [(y, p, -1, none)], nI (P ++ N).length, h, ?_, ⟨by rw [List.length_append, List.length_singleton]; omega, b2⟩, fun q => absurd q c, fun _ => ⟨g1, .inr (g2.resolve_left p1)⟩⟩
      rw [← List.append_assoc]
      exact run p1
theorem ropB {D o : Nat} {r : PS} (hR : RT mu) (qa : flA a) (hP : P.length ≤ s.1) (hO : Ocm mu a la ro et (hS (oS s o)) r P (Rr X (D + 1) MFl_readJoined 0 [.ref a, .ref 1, .int (nI 0), .int (nI o), mkU, mkU, mkU, mkU, mkU] [] (Wd (tp (fm mu a (P)) (s.1 + 1)) la ro et))) : Ocm mu a la ro et s (clS mu r) P (Rr X (D + 2) MFl_readOpened 0 [.ref a, .ref 1, .int 40, .int (nI o), mkU] [] (Wd (tp (fm mu a (P)) (s.1 + 1)) la ro et)) := by
  have hT2 := Tt_le (RT_M hR)
  have ha := qa.1.2.2
  obtain ⟨N, p, h, e, ⟨b1, b2⟩, b3, b4⟩ := hO
  have e : Rr X (D + 1) MFl_readJoined 0 [.ref a, .ref 1, .int 0, .int (nI o), mkU, mkU, mkU, mkU, mkU] [] (Wd (tp (fm mu a (P)) (s.1 + 1)) la ro et) = some (some (.int p), (Wd (tp (fm mu a (P ++ N)) (h)) la ro et)) := e
  have b1 : N.length + (s.1 + 1) ≤ h := b1
  have f1 := qa.1.1
  have es := w_skip (X := X) (d := D) (la := la) (ro := ro) (et := et) (P := P ++ N) (x := 41) hR ha (show h ≤ 120 by omega)
  have run1 : p = -1 → Rr X (D + 2) MFl_readOpened 0 [.ref a, .ref 1, .int 40, .int (nI o), mkU] [] (Wd (tp (fm mu a (P)) (s.1 + 1)) la ro et) = some (some (.int (-1)), (Wd (tp (fm mu a (P ++ N)) (h)) la ro et)) := fun p1 => by
    subst p1
    simp only [r_MFl_readOpened_0, r_MFl_readOpened_1, r_MFl_readOpened_3, r_MFl_readOpened_6, r_MFl_readOpened_7, r_MFl_readOpened_7n, r_MFl_readOpened_8, r_MFl_readOpened_9, r_MFl_readOpened_10, r_MFl_readOpened_13, r_MFl_readOpened_15, r_MFl_readOpened_17, r_MFl_readOpened_18, r_MFl_readOpened_21, r_MFl_readOpened_21n, r_MFl_readOpened_22, r_MFl_readOpened_24, r_MFl_readOpened_27, r_MFl_readOpened_30, r_MFl_readOpened_32, r_MFl_readOpened_35, r_MFl_readOpened_36, sL_0, sL_1, sL_2, mk_i, mk_r, mk_f, mk_n, mk_u, mk_l, List.set_cons_succ, List.set_cons_zero, Nat.reduceAdd, ckS_0, ckS_1, ckS_2, ckS_3, ckS_4, Option.bind_some, Option.isSome_some, psh, if_true, if_false, i10, not_true_eq_false, not_false_eq_true, Bool.false_eq_true, and_self, and_true, true_and, eq_self, e, f1]
  have run2 : ¬ p = -1 → ¬ cb mu h = 41 → Rr X (D + 2) MFl_readOpened 0 [.ref a, .ref 1, .int 40, .int (nI o), mkU] [] (Wd (tp (fm mu a (P)) (s.1 + 1)) la ro et) = some (some (.int (-1)), (Wd (tp (fm mu a (P ++ N)) (h)) la ro et)) := fun p1 c1 => by
    simp only [r_MFl_readOpened_0, r_MFl_readOpened_1, r_MFl_readOpened_3, r_MFl_readOpened_6, r_MFl_readOpened_7, r_MFl_readOpened_7n, r_MFl_readOpened_8, r_MFl_readOpened_9, r_MFl_readOpened_10, r_MFl_readOpened_13, r_MFl_readOpened_15, r_MFl_readOpened_17, r_MFl_readOpened_18, r_MFl_readOpened_21, r_MFl_readOpened_21n, r_MFl_readOpened_22, r_MFl_readOpened_24, r_MFl_readOpened_27, r_MFl_readOpened_30, r_MFl_readOpened_32, r_MFl_readOpened_35, r_MFl_readOpened_36, sL_0, sL_1, sL_2, mk_i, mk_r, mk_f, mk_n, mk_u, mk_l, List.set_cons_succ, List.set_cons_zero, Nat.reduceAdd, ckS_0, ckS_1, ckS_2, ckS_3, ckS_4, Option.bind_some, Option.isSome_some, psh, if_true, if_false, i10, not_true_eq_false, not_false_eq_true, Bool.false_eq_true, and_self, and_true, true_and, eq_self, qI_1_1, qI_1_2, qR_1_0, qRd_1_0, qO_1, e, f1, p1, es, c1]
  have run3 : ¬ p = -1 → cb mu h = 41 → Rr X (D + 2) MFl_readOpened 0 [.ref a, .ref 1, .int 40, .int (nI o), mkU] [] (Wd (tp (fm mu a (P)) (s.1 + 1)) la ro et) = some (some (.int p), (Wd (tp (fm mu a (P ++ N)) (h + 1)) la ro et)) := fun p1 c1 => by
    simp only [r_MFl_readOpened_0, r_MFl_readOpened_1, r_MFl_readOpened_3, r_MFl_readOpened_6, r_MFl_readOpened_7, r_MFl_readOpened_7n, r_MFl_readOpened_8, r_MFl_readOpened_9, r_MFl_readOpened_10, r_MFl_readOpened_13, r_MFl_readOpened_15, r_MFl_readOpened_17, r_MFl_readOpened_18, r_MFl_readOpened_21, r_MFl_readOpened_21n, r_MFl_readOpened_22, r_MFl_readOpened_24, r_MFl_readOpened_27, r_MFl_readOpened_30, r_MFl_readOpened_32, r_MFl_readOpened_35, r_MFl_readOpened_36, sL_0, sL_1, sL_2, mk_i, mk_r, mk_f, mk_n, mk_u, mk_l, List.set_cons_succ, List.set_cons_zero, Nat.reduceAdd, ckS_0, ckS_1, ckS_2, ckS_3, ckS_4, Option.bind_some, Option.isSome_some, psh, if_true, if_false, i10, not_true_eq_false, not_false_eq_true, Bool.false_eq_true, and_self, and_true, true_and, eq_self, qI_1_1, qI_1_2, qR_1_0, qRd_1_0, qO_1, e, f1, p1, es, c1]
  unfold clS
  by_cases c : noF r = true
  · rw [if_pos c]
    obtain ⟨rfl, q, rfl, hq, code, m1, m2⟩ := b3 c
    have p1 : ¬ nI q = -1 := nI_nm (by rw [List.length_append] at hq; omega)
    by_cases c8 : bt mu r.1 = 41
    · rw [if_pos c8]
      have hlt := bt_lt (mu := mu) (k := r.1) (by rw [c8]; decide)
      exact ⟨N, nI q, r.1 + 1, run3 p1 ((cb_k hR (by decide)).mpr c8), ⟨by omega, hlt⟩, fun _ => ⟨rfl, q, rfl, hq, code, m1, m2⟩, fun hh => absurd (c.symm.trans hh) (by decide)⟩
    · rw [if_neg c8]
      refine ⟨N, -1, r.1, run2 p1 (fun q => c8 ((cb_k hR (by decide)).mp q)), ⟨by omega, b2⟩, fun q => absurd q (by rw [wr_noF]; decide), fun _ => ⟨?_, .inl rfl⟩⟩
      unfold wrS
      rw [noF_n c]
  · rw [if_neg c]
    obtain ⟨g1, g2⟩ := b4 (Bool.eq_false_iff.mpr c)
    by_cases p1 : p = -1
    · exact ⟨N, -1, h, run1 p1, ⟨by omega, b2⟩, fun q => absurd q c, fun _ => ⟨g1, .inl rfl⟩⟩
    · have g3 := g2.resolve_left p1
      have c1 : ¬ cb mu h = 41 := fun q => by
        rw [cb_d hR g3] at q
        rw [q] at g3
        exact absurd (of_decide_eq_true g3) (by decide)
      exact ⟨N, -1, h, run2 p1 c1, ⟨by omega, b2⟩, fun q => absurd q c, fun _ => ⟨g1, .inl rfl⟩⟩
theorem fgL_ge : ∀ (r h : Nat) (v : Int32) (n : Nat), n ≤ (fgL mu r h v n).2.2
  | 0, _, _, _ => Nat.le_refl _
  | r + 1, h, v, n => by
    rw [fgL]
    split
    · exact Nat.le_trans (Nat.le_succ n) (fgL_ge r _ _ _)
    · exact Nat.le_refl _
theorem rnum {D : Nat} {o : Int32} {l3 l4 : Value} (hR : RT mu) (qa : flA a) (h0 : Pre mu k s) (hP : P.length ≤ s.1) : Ocm mu a la ro et s (fgS mu s) P (Rr X (D + 3) MFl_readOne 130 [.ref a, .ref 1, .int o, l3, l4] [] (Wd (tp (fm mu a (P)) (s.1)) la ro et)) := by
  have hT2 := Tt_le (RT_M hR)
  have ha := qa.1.2.2
  have f1 := qa.1.1
  obtain ⟨q1, q2, q3, q4, q5⟩ := h0
  have n0 := noF_n q1
  have en := w_number (X := X) (d := D) (la := la) (ro := ro) (et := et) (P := P) hR ha (h := s.1) (by rw [RT_T hR]; exact q2)
  unfold fgS
  by_cases c : dgC mu 0 s.1 = true
  · have c' : isD (bt mu s.1) = true := by rw [← dg_eq hR]; exact c
    obtain ⟨n, n1, n2, n3, n4⟩ := dg_n l00 c
    have e1 : fgL mu 4 s.1 0 0 = fgL mu 3 (s.1 + 1) (nI n) 1 := by
      rw [fgL, if_pos c', show (10 : Int32) * 0 = 0 from rfl, Int32.zero_add, ← cb_d hR c', n4]
    have e2 : nbC mu 4 s.1 = ((fgL mu 3 (s.1 + 1) (nI n) 1).1, (fgL mu 3 (s.1 + 1) (nI n) 1).2.1) := by
      unfold nbC
      rw [if_pos c, n4, nb_fg hR 3 (s.1 + 1) (nI n) 1]
    obtain ⟨w, w1, w2⟩ := nb_b (mu := mu) 3 (s.1 + 1) n
    rw [nb_fg hR 3 (s.1 + 1) (nI n) 1] at w1
    obtain ⟨a1, a2, a3⟩ := fgL_n (mu := mu) 3 (s.1 + 1) (nI n) 1
    have a4 := fgL_ge (mu := mu) 3 (s.1 + 1) (nI n) 1
    have a5 := a2 (isD_lt c')
    rw [e2] at en
    rw [e1]
    generalize fgL mu 3 (s.1 + 1) (nI n) 1 = q at *
    obtain ⟨h', v, m⟩ := q
    simp only at a1 a2 a3 a4 a5 en w1 ⊢
    subst w1
    have z : 0 ≤ nI w := nI_pos' (by omega)
    have ea := e_appNum (X := X) (d := D + 1) (mu := mu) (la := la) (ro := ro) (et := et) (P := P) (h := h') (v := nI w) qa (by omega)
    have run : Rr X (D + 3) MFl_readOne 130 [.ref a, .ref 1, .int o, l3, l4] [] (Wd (tp (fm mu a (P)) (s.1)) la ro et) = some (some (.int (nI P.length)), (Wd (tp (fm mu a (P ++ [(1, -1, -1, some (nI w))])) (h')) la ro et)) := by
      simp only [r_MFl_readOne_130, r_MFl_readOne_130n, r_MFl_readOne_131, r_MFl_readOne_132, r_MFl_readOne_135, r_MFl_readOne_137, r_MFl_readOne_139, r_MFl_readOne_142, r_MFl_readOne_143, r_MFl_readOne_146, r_MFl_readOne_147, r_MFl_readOne_149, r_MFl_readOne_152, sL_0, sL_1, sL_2, mk_i, mk_r, mk_f, mk_n, mk_u, mk_l, List.set_cons_succ, List.set_cons_zero, Nat.reduceAdd, ckS_0, ckS_1, ckS_2, ckS_3, ckS_4, Option.bind_some, Option.isSome_some, psh, if_true, if_false, i10, not_true_eq_false, not_false_eq_true, Bool.false_eq_true, and_self, and_true, true_and, eq_self, qI_1_1, qI_1_2, qR_1_0, qRd_1_0, qO_1, en, z, f1, ea]
    unfold fgW
    rw [if_neg (by omega)]
    by_cases c5 : isD (bt mu h') = true
    · rw [if_pos c5]
      have e : (adS (wrS ((h', s.2) : PS)) 1 (nI w)).2.1 = some h' := by
        show (match s.2.1 with | none => some h' | some k => some k) = _
        rw [n0]
      exact ⟨[(1, -1, -1, some (nI w))], nI P.length, h', run, ⟨by rw [List.length_singleton]; omega, a5⟩, fun q => absurd q (by rw [noF_s e]; decide), fun _ => ⟨e, .inr c5⟩⟩
    · rw [if_neg c5]
      refine ⟨[(1, -1, -1, some (nI w))], nI P.length, h', run, ⟨by rw [List.length_singleton]; omega, a5⟩, fun _ => ⟨rfl, P.length, rfl, by rw [List.length_append, List.length_singleton]; omega, [(1, nI w)], rfl, Sem_num⟩, fun q => ?_⟩
      have q : noF s = false := q
      rw [q1] at q
      cases q
  · have c' : ¬ isD (bt mu s.1) = true := by rw [← dg_eq hR]; exact c
    have e1 : fgL mu 4 s.1 0 0 = (s.1, 0, 0) := by rw [fgL, if_neg c']
    have e2 : nbC mu 4 s.1 = (s.1, -1) := by
      unfold nbC
      rw [if_neg c]
    have z : ¬ (0 : Int32) ≤ -1 := by decide
    rw [e2] at en
    rw [e1]
    unfold fgW
    rw [if_pos rfl]
    have e : (adS (wrS ((s.1, s.2) : PS)) 1 0).2.1 = some s.1 := by
      show (match s.2.1 with | none => some s.1 | some k => some k) = _
      rw [n0]
    refine ⟨[], -1, s.1, ?_, ⟨by rw [List.length_nil]; omega, q2⟩, fun q => absurd q (by rw [noF_s e]; decide), fun _ => ⟨e, .inl rfl⟩⟩
    rw [List.append_nil]
    simp only [r_MFl_readOne_130, r_MFl_readOne_130n, r_MFl_readOne_131, r_MFl_readOne_132, r_MFl_readOne_135, r_MFl_readOne_137, r_MFl_readOne_139, r_MFl_readOne_142, r_MFl_readOne_143, r_MFl_readOne_146, r_MFl_readOne_147, r_MFl_readOne_149, r_MFl_readOne_152, sL_0, sL_1, sL_2, mk_i, mk_r, mk_f, mk_n, mk_u, mk_l, List.set_cons_succ, List.set_cons_zero, Nat.reduceAdd, ckS_0, ckS_1, ckS_2, ckS_3, ckS_4, Option.bind_some, Option.isSome_some, psh, if_true, if_false, i10, not_true_eq_false, not_false_eq_true, Bool.false_eq_true, and_self, and_true, true_and, eq_self, qI_1_1, qI_1_2, qR_1_0, qRd_1_0, qO_1, en, z]
theorem nm_cases {b : Int32} (h : 0 ≤ nmF b) : b = 119 ∨ b = 118 ∨ b = 115 ∨ b = 112 ∨ b = 113 ∨ b = 105 := by
  unfold nmF at h
  by_cases c1 : b = 119
  · exact .inl c1
  by_cases c2 : b = 118
  · exact .inr (.inl c2)
  by_cases c3 : b = 115
  · exact .inr (.inr (.inl c3))
  by_cases c4 : b = 112
  · exact .inr (.inr (.inr (.inl c4)))
  by_cases c5 : b = 113
  · exact .inr (.inr (.inr (.inr (.inl c5))))
  by_cases c6 : b = 105
  · exact .inr (.inr (.inr (.inr (.inr c6))))
  rw [if_neg c1, if_neg c2, if_neg c3, if_neg c4, if_neg c5, if_neg c6] at h
  exact absurd h (by decide)
theorem nm_not {b : Int32} (h : ¬ 0 ≤ nmF b) : ¬ b = 119 ∧ ¬ b = 118 ∧ ¬ b = 115 ∧ ¬ b = 112 ∧ ¬ b = 113 ∧ ¬ b = 105 := by
  refine ⟨?_, ?_, ?_, ?_, ?_, ?_⟩ <;> (intro q; subst q; exact h (by decide))
set_option maxHeartbeats 4000000 in
theorem rone (hR : RT mu) (qa : flA a) : ∀ (k d : Nat) (s : PS) (P : List Pt), Pre mu k s → P.length ≤ s.1 → Ocm mu a la ro et s (opN mu k s) P (Rr X (d + (8 * k + 4 + 1)) MFl_readOne 0 [.ref a, .ref 1, .int (nI s.2.2.1), mkU, mkU] [] (Wd (tp (fm mu a (P)) (s.1)) la ro et)) := by
  intro k
  have hT := RT_M hR
  have hT2 := Tt_le hT
  have ha := qa.1.2.2
  have f1 := qa.1.1
  induction k with
  | zero => intro d s P h0 _; exact absurd h0.2.2.2.2 (by have := h0.2.2.1; omega)
  | succ k ih =>
    intro d s P h0 hP
    have hG := Gd_op hT k
    have ihE := fun d s P h hp => rj_all (X := X) (la := la) (ro := ro) (et := et) (c := 8 * k + 4) hR qa hG (fun d s P h hp => ih d s P h hp) d s P h hp
    obtain ⟨q1, q2, q3, q4, q5⟩ := id h0
    have hin : s.2.2.1 ≠ 6 → bt mu s.1 ≠ -1 → Pre mu k (hS (oS s (s.2.2.1 + 1))) := fun h1 h2 => by
      have := bt_lt h2
      exact ⟨q1, by show s.1 + 1 ≤ _; omega, by show s.2.2.1 + 1 ≤ 6; omega, by show s.2.2.2.length ≤ s.1 + 1; omega, by show 7 ≤ k + (s.2.2.1 + 1); omega⟩
    have hl : s.1 ≤ 120 := by omega
    have eh := fun d => w_here (X := X) (d := d) (la := la) (ro := ro) (et := et) (P := P) hR ha hl
    show Ocm mu a la ro et s (opN mu (k + 1) s) P (Rr X (d + 8 * k + 12 + 1) MFl_readOne 0 [.ref a, .ref 1, .int (nI s.2.2.1), mkU, mkU] [] (Wd (tp (fm mu a (P)) (s.1)) la ro et))
    rw [opN]
    unfold opd
    by_cases c1 : 0 ≤ nmF (bt mu s.1)
    · rw [if_pos c1]
      obtain ⟨n1, n2⟩ := nm_in c1
      have hlt := bt_lt n1
      refine ⟨[(bt mu s.1, -1, -1, none)], nI P.length, s.1 + 1, ?_, ⟨by rw [List.length_singleton]; omega, hlt⟩, fun _ => ⟨rfl, P.length, rfl, by rw [List.length_append, List.length_singleton]; omega, [(2, nmF (bt mu s.1))], rfl, Sem_name c1⟩, fun h => ?_⟩
      · have ea := fun (x : Int32) d => e_app (X := X) (d := d) (mu := mu) (la := la) (ro := ro) (et := et) (P := P) (h := s.1 + 1) (x := x) (l := -1) (r := -1) qa (by omega)
        have es := fun (x : Int32) (hx : cb mu s.1 = x) d => w_skip (X := X) (d := d) (la := la) (ro := ro) (et := et) (P := P) (x := x) hR ha hl
        rcases nm_cases c1 with e | e | e | e | e | e
        · have cbe := (cb_k hR (k := 119) (by decide)).mpr e
          have es := es 119 cbe
          rw [e]
          simp only [r_MFl_readOne_0, r_MFl_readOne_0n, r_MFl_readOne_1, r_MFl_readOne_4, r_MFl_readOne_5, r_MFl_readOne_6_33, r_MFl_readOne_6_40, r_MFl_readOne_6_45, r_MFl_readOne_6_105, r_MFl_readOne_6_112, r_MFl_readOne_6_113, r_MFl_readOne_6_115, r_MFl_readOne_6_118, r_MFl_readOne_6_119, r_MFl_readOne_6_m1, r_MFl_readOne_88, r_MFl_readOne_88n, r_MFl_readOne_89, r_MFl_readOne_90, r_MFl_readOne_93, r_MFl_readOne_94, r_MFl_readOne_95, r_MFl_readOne_96, r_MFl_readOne_97, r_MFl_readOne_98, r_MFl_readOne_101, sL_0, sL_1, sL_2, mk_i, mk_r, mk_f, mk_n, mk_u, mk_l, List.set_cons_succ, List.set_cons_zero, Nat.reduceAdd, ckS_0, ckS_1, ckS_2, ckS_3, ckS_4, Option.bind_some, Option.isSome_some, psh, if_true, if_false, i10, not_true_eq_false, not_false_eq_true, Bool.false_eq_true, and_self, and_true, true_and, eq_self, qI_1_1, qI_1_2, qR_1_0, qRd_1_0, qO_1, eh, cbe, es, ea, f1]
        · have cbe := (cb_k hR (k := 118) (by decide)).mpr e
          have es := es 118 cbe
          rw [e]
          simp only [r_MFl_readOne_0, r_MFl_readOne_0n, r_MFl_readOne_1, r_MFl_readOne_4, r_MFl_readOne_5, r_MFl_readOne_6_33, r_MFl_readOne_6_40, r_MFl_readOne_6_45, r_MFl_readOne_6_105, r_MFl_readOne_6_112, r_MFl_readOne_6_113, r_MFl_readOne_6_115, r_MFl_readOne_6_118, r_MFl_readOne_6_119, r_MFl_readOne_6_m1, r_MFl_readOne_88, r_MFl_readOne_88n, r_MFl_readOne_89, r_MFl_readOne_90, r_MFl_readOne_93, r_MFl_readOne_94, r_MFl_readOne_95, r_MFl_readOne_96, r_MFl_readOne_97, r_MFl_readOne_98, r_MFl_readOne_101, sL_0, sL_1, sL_2, mk_i, mk_r, mk_f, mk_n, mk_u, mk_l, List.set_cons_succ, List.set_cons_zero, Nat.reduceAdd, ckS_0, ckS_1, ckS_2, ckS_3, ckS_4, Option.bind_some, Option.isSome_some, psh, if_true, if_false, i10, not_true_eq_false, not_false_eq_true, Bool.false_eq_true, and_self, and_true, true_and, eq_self, qI_1_1, qI_1_2, qR_1_0, qRd_1_0, qO_1, eh, cbe, es, ea, f1]
        · have cbe := (cb_k hR (k := 115) (by decide)).mpr e
          have es := es 115 cbe
          rw [e]
          simp only [r_MFl_readOne_0, r_MFl_readOne_0n, r_MFl_readOne_1, r_MFl_readOne_4, r_MFl_readOne_5, r_MFl_readOne_6_33, r_MFl_readOne_6_40, r_MFl_readOne_6_45, r_MFl_readOne_6_105, r_MFl_readOne_6_112, r_MFl_readOne_6_113, r_MFl_readOne_6_115, r_MFl_readOne_6_118, r_MFl_readOne_6_119, r_MFl_readOne_6_m1, r_MFl_readOne_88, r_MFl_readOne_88n, r_MFl_readOne_89, r_MFl_readOne_90, r_MFl_readOne_93, r_MFl_readOne_94, r_MFl_readOne_95, r_MFl_readOne_96, r_MFl_readOne_97, r_MFl_readOne_98, r_MFl_readOne_101, sL_0, sL_1, sL_2, mk_i, mk_r, mk_f, mk_n, mk_u, mk_l, List.set_cons_succ, List.set_cons_zero, Nat.reduceAdd, ckS_0, ckS_1, ckS_2, ckS_3, ckS_4, Option.bind_some, Option.isSome_some, psh, if_true, if_false, i10, not_true_eq_false, not_false_eq_true, Bool.false_eq_true, and_self, and_true, true_and, eq_self, qI_1_1, qI_1_2, qR_1_0, qRd_1_0, qO_1, eh, cbe, es, ea, f1]
        · have cbe := (cb_k hR (k := 112) (by decide)).mpr e
          have es := es 112 cbe
          rw [e]
          simp only [r_MFl_readOne_0, r_MFl_readOne_0n, r_MFl_readOne_1, r_MFl_readOne_4, r_MFl_readOne_5, r_MFl_readOne_6_33, r_MFl_readOne_6_40, r_MFl_readOne_6_45, r_MFl_readOne_6_105, r_MFl_readOne_6_112, r_MFl_readOne_6_113, r_MFl_readOne_6_115, r_MFl_readOne_6_118, r_MFl_readOne_6_119, r_MFl_readOne_6_m1, r_MFl_readOne_88, r_MFl_readOne_88n, r_MFl_readOne_89, r_MFl_readOne_90, r_MFl_readOne_93, r_MFl_readOne_94, r_MFl_readOne_95, r_MFl_readOne_96, r_MFl_readOne_97, r_MFl_readOne_98, r_MFl_readOne_101, sL_0, sL_1, sL_2, mk_i, mk_r, mk_f, mk_n, mk_u, mk_l, List.set_cons_succ, List.set_cons_zero, Nat.reduceAdd, ckS_0, ckS_1, ckS_2, ckS_3, ckS_4, Option.bind_some, Option.isSome_some, psh, if_true, if_false, i10, not_true_eq_false, not_false_eq_true, Bool.false_eq_true, and_self, and_true, true_and, eq_self, qI_1_1, qI_1_2, qR_1_0, qRd_1_0, qO_1, eh, cbe, es, ea, f1]
        · have cbe := (cb_k hR (k := 113) (by decide)).mpr e
          have es := es 113 cbe
          rw [e]
          simp only [r_MFl_readOne_0, r_MFl_readOne_0n, r_MFl_readOne_1, r_MFl_readOne_4, r_MFl_readOne_5, r_MFl_readOne_6_33, r_MFl_readOne_6_40, r_MFl_readOne_6_45, r_MFl_readOne_6_105, r_MFl_readOne_6_112, r_MFl_readOne_6_113, r_MFl_readOne_6_115, r_MFl_readOne_6_118, r_MFl_readOne_6_119, r_MFl_readOne_6_m1, r_MFl_readOne_88, r_MFl_readOne_88n, r_MFl_readOne_89, r_MFl_readOne_90, r_MFl_readOne_93, r_MFl_readOne_94, r_MFl_readOne_95, r_MFl_readOne_96, r_MFl_readOne_97, r_MFl_readOne_98, r_MFl_readOne_101, sL_0, sL_1, sL_2, mk_i, mk_r, mk_f, mk_n, mk_u, mk_l, List.set_cons_succ, List.set_cons_zero, Nat.reduceAdd, ckS_0, ckS_1, ckS_2, ckS_3, ckS_4, Option.bind_some, Option.isSome_some, psh, if_true, if_false, i10, not_true_eq_false, not_false_eq_true, Bool.false_eq_true, and_self, and_true, true_and, eq_self, qI_1_1, qI_1_2, qR_1_0, qRd_1_0, qO_1, eh, cbe, es, ea, f1]
        · have cbe := (cb_k hR (k := 105) (by decide)).mpr e
          have es := es 105 cbe
          rw [e]
          simp only [r_MFl_readOne_0, r_MFl_readOne_0n, r_MFl_readOne_1, r_MFl_readOne_4, r_MFl_readOne_5, r_MFl_readOne_6_33, r_MFl_readOne_6_40, r_MFl_readOne_6_45, r_MFl_readOne_6_105, r_MFl_readOne_6_112, r_MFl_readOne_6_113, r_MFl_readOne_6_115, r_MFl_readOne_6_118, r_MFl_readOne_6_119, r_MFl_readOne_6_m1, r_MFl_readOne_88, r_MFl_readOne_88n, r_MFl_readOne_89, r_MFl_readOne_90, r_MFl_readOne_93, r_MFl_readOne_94, r_MFl_readOne_95, r_MFl_readOne_96, r_MFl_readOne_97, r_MFl_readOne_98, r_MFl_readOne_101, sL_0, sL_1, sL_2, mk_i, mk_r, mk_f, mk_n, mk_u, mk_l, List.set_cons_succ, List.set_cons_zero, Nat.reduceAdd, ckS_0, ckS_1, ckS_2, ckS_3, ckS_4, Option.bind_some, Option.isSome_some, psh, if_true, if_false, i10, not_true_eq_false, not_false_eq_true, Bool.false_eq_true, and_self, and_true, true_and, eq_self, qI_1_1, qI_1_2, qR_1_0, qRd_1_0, qO_1, eh, cbe, es, ea, f1]
      · have h : noF s = false := h
        rw [q1] at h
        cases h
    rw [if_neg c1]
    have wr : ∀ res : Res, res = some (some (.int (-1)), (Wd (tp (fm mu a (P)) (s.1)) la ro et)) → Ocm mu a la ro et s (wrS s) P res := fun res hr => by
      refine ⟨[], -1, s.1, by rw [List.append_nil]; exact hr, ⟨by rw [List.length_nil]; omega, q2⟩, fun q => absurd q (by rw [wr_noF]; decide), fun _ => ⟨?_, .inl rfl⟩⟩
      unfold wrS
      rw [noF_n q1]
    have t6 : s.2.2.1 = 6 → (6 : Int32) ≤ nI s.2.2.1 := fun c6 => by rw [c6]; decide
    have t7 : ¬ s.2.2.1 = 6 → ¬ (6 : Int32) ≤ nI s.2.2.1 := fun c6 => nI_ge (a := s.2.2.1) (b := 6) (by omega) (by omega)
    by_cases c2 : bt mu s.1 = 33
    · rw [if_pos c2]
      have cbe := (cb_k hR (k := 33) (by decide)).mpr c2
      by_cases c6 : s.2.2.1 = 6
      · rw [if_pos c6]
        refine wr _ ?_
        have t := t6 c6
        simp only [r_MFl_readOne_0, r_MFl_readOne_0n, r_MFl_readOne_1, r_MFl_readOne_4, r_MFl_readOne_5, r_MFl_readOne_6_33, r_MFl_readOne_6_40, r_MFl_readOne_6_45, r_MFl_readOne_6_105, r_MFl_readOne_6_112, r_MFl_readOne_6_113, r_MFl_readOne_6_115, r_MFl_readOne_6_118, r_MFl_readOne_6_119, r_MFl_readOne_6_m1, r_MFl_readOne_88, r_MFl_readOne_88n, r_MFl_readOne_89, r_MFl_readOne_90, r_MFl_readOne_93, r_MFl_readOne_94, r_MFl_readOne_95, r_MFl_readOne_96, r_MFl_readOne_97, r_MFl_readOne_98, r_MFl_readOne_101, r_MFl_readOne_102, r_MFl_readOne_103, r_MFl_readOne_105, r_MFl_readOne_108, r_MFl_readOne_108n, r_MFl_readOne_109, r_MFl_readOne_110, r_MFl_readOne_113, r_MFl_readOne_116, r_MFl_readOne_117, r_MFl_readOne_117n, r_MFl_readOne_118, r_MFl_readOne_119, r_MFl_readOne_120, r_MFl_readOne_121, r_MFl_readOne_122, r_MFl_readOne_125, r_MFl_readOne_128, r_MFl_readOne_129, sL_0, sL_1, sL_2, mk_i, mk_r, mk_f, mk_n, mk_u, mk_l, List.set_cons_succ, List.set_cons_zero, Nat.reduceAdd, ckS_0, ckS_1, ckS_2, ckS_3, ckS_4, Option.bind_some, Option.isSome_some, psh, if_true, if_false, i10, not_true_eq_false, not_false_eq_true, Bool.false_eq_true, and_self, and_true, true_and, eq_self, qI_1_1, qI_1_2, qR_1_0, qRd_1_0, qO_1, eh, cbe, t]
      · rw [if_neg c6]
        have hp := hin c6 (by rw [c2]; decide)
        have es := ih (d + 6) _ P hp (by show P.length ≤ s.1 + 1; omega)
        rw [show d + 6 + (8 * k + 4 + 1) = d + 8 * k + 11 by omega] at es
        obtain ⟨N, p, h, e, b⟩ := ropU (x := 33) (y := 33) (a3 := 3) hR qa (.inl ⟨rfl, rfl, rfl⟩) hP es
        have t := t7 c6
        have sk := fun d => w_skip (X := X) (d := d) (la := la) (ro := ro) (et := et) (P := P) (x := 33) hR ha hl
        refine ⟨N, p, h, ?_, b⟩
        simp only [r_MFl_readOne_0, r_MFl_readOne_0n, r_MFl_readOne_1, r_MFl_readOne_4, r_MFl_readOne_5, r_MFl_readOne_6_33, r_MFl_readOne_6_40, r_MFl_readOne_6_45, r_MFl_readOne_6_105, r_MFl_readOne_6_112, r_MFl_readOne_6_113, r_MFl_readOne_6_115, r_MFl_readOne_6_118, r_MFl_readOne_6_119, r_MFl_readOne_6_m1, r_MFl_readOne_88, r_MFl_readOne_88n, r_MFl_readOne_89, r_MFl_readOne_90, r_MFl_readOne_93, r_MFl_readOne_94, r_MFl_readOne_95, r_MFl_readOne_96, r_MFl_readOne_97, r_MFl_readOne_98, r_MFl_readOne_101, r_MFl_readOne_102, r_MFl_readOne_103, r_MFl_readOne_105, r_MFl_readOne_108, r_MFl_readOne_108n, r_MFl_readOne_109, r_MFl_readOne_110, r_MFl_readOne_113, r_MFl_readOne_116, r_MFl_readOne_117, r_MFl_readOne_117n, r_MFl_readOne_118, r_MFl_readOne_119, r_MFl_readOne_120, r_MFl_readOne_121, r_MFl_readOne_122, r_MFl_readOne_125, r_MFl_readOne_128, r_MFl_readOne_129, sL_0, sL_1, sL_2, mk_i, mk_r, mk_f, mk_n, mk_u, mk_l, List.set_cons_succ, List.set_cons_zero, Nat.reduceAdd, ckS_0, ckS_1, ckS_2, ckS_3, ckS_4, Option.bind_some, Option.isSome_some, psh, if_true, if_false, i10, not_true_eq_false, not_false_eq_true, Bool.false_eq_true, and_self, and_true, true_and, eq_self, qI_1_1, qI_1_2, qR_1_0, qRd_1_0, qO_1, eh, cbe, t, sk, f1, nI_1, e]
    rw [if_neg c2]
    by_cases c3 : bt mu s.1 = 45
    · rw [if_pos c3]
      have cbe := (cb_k hR (k := 45) (by decide)).mpr c3
      by_cases c6 : s.2.2.1 = 6
      · rw [if_pos c6]
        refine wr _ ?_
        have t := t6 c6
        simp only [r_MFl_readOne_0, r_MFl_readOne_0n, r_MFl_readOne_1, r_MFl_readOne_4, r_MFl_readOne_5, r_MFl_readOne_6_33, r_MFl_readOne_6_40, r_MFl_readOne_6_45, r_MFl_readOne_6_105, r_MFl_readOne_6_112, r_MFl_readOne_6_113, r_MFl_readOne_6_115, r_MFl_readOne_6_118, r_MFl_readOne_6_119, r_MFl_readOne_6_m1, r_MFl_readOne_88, r_MFl_readOne_88n, r_MFl_readOne_89, r_MFl_readOne_90, r_MFl_readOne_93, r_MFl_readOne_94, r_MFl_readOne_95, r_MFl_readOne_96, r_MFl_readOne_97, r_MFl_readOne_98, r_MFl_readOne_101, r_MFl_readOne_102, r_MFl_readOne_103, r_MFl_readOne_105, r_MFl_readOne_108, r_MFl_readOne_108n, r_MFl_readOne_109, r_MFl_readOne_110, r_MFl_readOne_113, r_MFl_readOne_116, r_MFl_readOne_117, r_MFl_readOne_117n, r_MFl_readOne_118, r_MFl_readOne_119, r_MFl_readOne_120, r_MFl_readOne_121, r_MFl_readOne_122, r_MFl_readOne_125, r_MFl_readOne_128, r_MFl_readOne_129, sL_0, sL_1, sL_2, mk_i, mk_r, mk_f, mk_n, mk_u, mk_l, List.set_cons_succ, List.set_cons_zero, Nat.reduceAdd, ckS_0, ckS_1, ckS_2, ckS_3, ckS_4, Option.bind_some, Option.isSome_some, psh, if_true, if_false, i10, not_true_eq_false, not_false_eq_true, Bool.false_eq_true, and_self, and_true, true_and, eq_self, qI_1_1, qI_1_2, qR_1_0, qRd_1_0, qO_1, eh, cbe, t]
      · rw [if_neg c6]
        have hp := hin c6 (by rw [c3]; decide)
        have es := ih (d + 6) _ P hp (by show P.length ≤ s.1 + 1; omega)
        rw [show d + 6 + (8 * k + 4 + 1) = d + 8 * k + 11 by omega] at es
        obtain ⟨N, p, h, e, b⟩ := ropU (x := 45) (y := 2) (a3 := 4) hR qa (.inr ⟨rfl, rfl, rfl⟩) hP es
        have t := t7 c6
        have sk := fun d => w_skip (X := X) (d := d) (la := la) (ro := ro) (et := et) (P := P) (x := 45) hR ha hl
        refine ⟨N, p, h, ?_, b⟩
        simp only [r_MFl_readOne_0, r_MFl_readOne_0n, r_MFl_readOne_1, r_MFl_readOne_4, r_MFl_readOne_5, r_MFl_readOne_6_33, r_MFl_readOne_6_40, r_MFl_readOne_6_45, r_MFl_readOne_6_105, r_MFl_readOne_6_112, r_MFl_readOne_6_113, r_MFl_readOne_6_115, r_MFl_readOne_6_118, r_MFl_readOne_6_119, r_MFl_readOne_6_m1, r_MFl_readOne_88, r_MFl_readOne_88n, r_MFl_readOne_89, r_MFl_readOne_90, r_MFl_readOne_93, r_MFl_readOne_94, r_MFl_readOne_95, r_MFl_readOne_96, r_MFl_readOne_97, r_MFl_readOne_98, r_MFl_readOne_101, r_MFl_readOne_102, r_MFl_readOne_103, r_MFl_readOne_105, r_MFl_readOne_108, r_MFl_readOne_108n, r_MFl_readOne_109, r_MFl_readOne_110, r_MFl_readOne_113, r_MFl_readOne_116, r_MFl_readOne_117, r_MFl_readOne_117n, r_MFl_readOne_118, r_MFl_readOne_119, r_MFl_readOne_120, r_MFl_readOne_121, r_MFl_readOne_122, r_MFl_readOne_125, r_MFl_readOne_128, r_MFl_readOne_129, sL_0, sL_1, sL_2, mk_i, mk_r, mk_f, mk_n, mk_u, mk_l, List.set_cons_succ, List.set_cons_zero, Nat.reduceAdd, ckS_0, ckS_1, ckS_2, ckS_3, ckS_4, Option.bind_some, Option.isSome_some, psh, if_true, if_false, i10, not_true_eq_false, not_false_eq_true, Bool.false_eq_true, and_self, and_true, true_and, eq_self, qI_1_1, qI_1_2, qR_1_0, qRd_1_0, qO_1, eh, cbe, t, sk, f1, nI_1, e]
    rw [if_neg c3]
    by_cases c4 : bt mu s.1 = 40
    · rw [if_pos c4]
      have cbe := (cb_k hR (k := 40) (by decide)).mpr c4
      by_cases c6 : s.2.2.1 = 6
      · rw [if_pos c6]
        refine wr _ ?_
        have t := t6 c6
        simp only [r_MFl_readOne_0, r_MFl_readOne_0n, r_MFl_readOne_1, r_MFl_readOne_4, r_MFl_readOne_5, r_MFl_readOne_6_33, r_MFl_readOne_6_40, r_MFl_readOne_6_45, r_MFl_readOne_6_105, r_MFl_readOne_6_112, r_MFl_readOne_6_113, r_MFl_readOne_6_115, r_MFl_readOne_6_118, r_MFl_readOne_6_119, r_MFl_readOne_6_m1, r_MFl_readOne_88, r_MFl_readOne_88n, r_MFl_readOne_89, r_MFl_readOne_90, r_MFl_readOne_93, r_MFl_readOne_94, r_MFl_readOne_95, r_MFl_readOne_96, r_MFl_readOne_97, r_MFl_readOne_98, r_MFl_readOne_101, r_MFl_readOne_102, r_MFl_readOne_103, r_MFl_readOne_105, r_MFl_readOne_108, r_MFl_readOne_108n, r_MFl_readOne_109, r_MFl_readOne_110, r_MFl_readOne_113, r_MFl_readOne_116, r_MFl_readOne_117, r_MFl_readOne_117n, r_MFl_readOne_118, r_MFl_readOne_119, r_MFl_readOne_120, r_MFl_readOne_121, r_MFl_readOne_122, r_MFl_readOne_125, r_MFl_readOne_128, r_MFl_readOne_129, sL_0, sL_1, sL_2, mk_i, mk_r, mk_f, mk_n, mk_u, mk_l, List.set_cons_succ, List.set_cons_zero, Nat.reduceAdd, ckS_0, ckS_1, ckS_2, ckS_3, ckS_4, Option.bind_some, Option.isSome_some, psh, if_true, if_false, i10, not_true_eq_false, not_false_eq_true, Bool.false_eq_true, and_self, and_true, true_and, eq_self, qI_1_1, qI_1_2, qR_1_0, qRd_1_0, qO_1, eh, cbe, t]
      · rw [if_neg c6]
        have hp := hin c6 (by rw [c4]; decide)
        have es := ihE d _ P hp (by show P.length ≤ s.1 + 1; omega)
        rw [show d + (8 * k + 4) + 7 = d + 8 * k + 10 + 1 by omega] at es
        obtain ⟨N, p, h, e, b⟩ := ropB hR qa hP es
        have t := t7 c6
        have sk := fun d => w_skip (X := X) (d := d) (la := la) (ro := ro) (et := et) (P := P) (x := 40) hR ha hl
        refine ⟨N, p, h, ?_, b⟩
        simp only [r_MFl_readOne_0, r_MFl_readOne_0n, r_MFl_readOne_1, r_MFl_readOne_4, r_MFl_readOne_5, r_MFl_readOne_6_33, r_MFl_readOne_6_40, r_MFl_readOne_6_45, r_MFl_readOne_6_105, r_MFl_readOne_6_112, r_MFl_readOne_6_113, r_MFl_readOne_6_115, r_MFl_readOne_6_118, r_MFl_readOne_6_119, r_MFl_readOne_6_m1, r_MFl_readOne_88, r_MFl_readOne_88n, r_MFl_readOne_89, r_MFl_readOne_90, r_MFl_readOne_93, r_MFl_readOne_94, r_MFl_readOne_95, r_MFl_readOne_96, r_MFl_readOne_97, r_MFl_readOne_98, r_MFl_readOne_101, r_MFl_readOne_102, r_MFl_readOne_103, r_MFl_readOne_105, r_MFl_readOne_108, r_MFl_readOne_108n, r_MFl_readOne_109, r_MFl_readOne_110, r_MFl_readOne_113, r_MFl_readOne_116, r_MFl_readOne_117, r_MFl_readOne_117n, r_MFl_readOne_118, r_MFl_readOne_119, r_MFl_readOne_120, r_MFl_readOne_121, r_MFl_readOne_122, r_MFl_readOne_125, r_MFl_readOne_128, r_MFl_readOne_129, sL_0, sL_1, sL_2, mk_i, mk_r, mk_f, mk_n, mk_u, mk_l, List.set_cons_succ, List.set_cons_zero, Nat.reduceAdd, ckS_0, ckS_1, ckS_2, ckS_3, ckS_4, Option.bind_some, Option.isSome_some, psh, if_true, if_false, i10, not_true_eq_false, not_false_eq_true, Bool.false_eq_true, and_self, and_true, true_and, eq_self, qI_1_1, qI_1_2, qR_1_0, qRd_1_0, qO_1, eh, cbe, t, sk, f1, nI_1, e]
    rw [if_neg c4]
    obtain ⟨m1, m2, m3, m4, m5, m6⟩ := nm_not c1
    have nk : ∀ K : Int32, 0 ≤ K.toInt ∧ K.toInt ≤ 127 → ¬ bt mu s.1 = K → ¬ cb mu s.1 = K := fun K hK hn q => hn ((cb_k hR hK).mp q)
    have hsw : Op.lookupswitch.offset [(33, 96), (40, 96), (45, 96), (105, 82), (112, 82), (113, 82), (115, 82), (118, 82), (119, 82)] (124) (cb mu s.1).toInt = 124 := by
      rw [Op.lookupswitch.offset_cons, if_neg (ne_t (K := 33) (k := 33) rfl (nk 33 (by decide) c2)), Op.lookupswitch.offset_cons, if_neg (ne_t (K := 40) (k := 40) rfl (nk 40 (by decide) c4)), Op.lookupswitch.offset_cons, if_neg (ne_t (K := 45) (k := 45) rfl (nk 45 (by decide) c3)), Op.lookupswitch.offset_cons, if_neg (ne_t (K := 105) (k := 105) rfl (nk 105 (by decide) m6)), Op.lookupswitch.offset_cons, if_neg (ne_t (K := 112) (k := 112) rfl (nk 112 (by decide) m4)), Op.lookupswitch.offset_cons, if_neg (ne_t (K := 113) (k := 113) rfl (nk 113 (by decide) m5)), Op.lookupswitch.offset_cons, if_neg (ne_t (K := 115) (k := 115) rfl (nk 115 (by decide) m3)), Op.lookupswitch.offset_cons, if_neg (ne_t (K := 118) (k := 118) rfl (nk 118 (by decide) m2)), Op.lookupswitch.offset_cons, if_neg (ne_t (K := 119) (k := 119) rfl (nk 119 (by decide) m1)), Op.lookupswitch.offset_nil]
    obtain ⟨N, p, h, e, b⟩ := rnum (X := X) (D := d + 8 * k + 10) (la := la) (ro := ro) (et := et) (o := nI s.2.2.1) (l3 := .int (cb mu s.1)) (l4 := mkU) hR qa h0 hP
    refine ⟨N, p, h, ?_, b⟩
    simp only [r_MFl_readOne_0, r_MFl_readOne_0n, r_MFl_readOne_1, r_MFl_readOne_4, r_MFl_readOne_5, sL_0, sL_1, sL_2, mk_i, mk_r, mk_f, mk_n, mk_u, mk_l, List.set_cons_succ, List.set_cons_zero, Nat.reduceAdd, ckS_0, ckS_1, ckS_2, ckS_3, ckS_4, Option.bind_some, Option.isSome_some, psh, if_true, if_false, i10, not_true_eq_false, not_false_eq_true, Bool.false_eq_true, and_self, and_true, true_and, eq_self, qI_1_1, qI_1_2, qR_1_0, qRd_1_0, qO_1, eh, r_MFl_readOne_6D hsw]
    exact e
end
