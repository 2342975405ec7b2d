-- ===== set, undo, redo: one answer, and what both sides leave
abbrev wS1 : WS := [(19, 5), (19, 6), (19, 7), (19, 8), (19, 9), (19, 10), (19, 11), (20, 0), (21, 0), (22, 0), (23, 0), (24, 5), (24, 6), (24, 7), (24, 8), (24, 9), (24, 10), (24, 11), (25, 0), (26, 0), (27, 0), (28, 0), (29, 5), (29, 6), (29, 7), (29, 8), (29, 9), (29, 10), (29, 11), (30, 0), (31, 0), (32, 0), (33, 0), (34, 5), (34, 6), (34, 7), (34, 8), (34, 9), (34, 10), (34, 11), (35, 0), (36, 0), (37, 0), (38, 0), (39, 5), (39, 6), (39, 7), (39, 8), (39, 9), (39, 10), (39, 11), (40, 0), (41, 0), (42, 0), (43, 0), (44, 5), (44, 6), (44, 7), (44, 8), (44, 9), (44, 10), (44, 11), (45, 0), (46, 0), (47, 0), (48, 0)]
abbrev wNt : WS := [(14, 2), (14, 3), (15, 0)]
abbrev wSe : WS := wS1 ++ wNt ++ wCh
/-- which number of a stone: the class's name for it, the model's -/
def Kd (S : Nat) (w of at' : Int32) : Prop := (∃ k, k < 4 ∧ w = nI (6 + k) ∧ of = 0 ∧ at' = nI (4 * S + k)) ∨ (∃ j, j < 12 ∧ w = nI (10 + j) ∧ of = 1 ∧ at' = nI (12 * S + j))
section
variable {X : Tok} {d : Nat} {mu m m' m1 mu' M M0 : Mu} {la la' : La} {ro ro' : Ro} {et : Nat → Option va_E} {a S L n k j D U p : Nat} {s w v b x of at' old : Int32}
theorem fs_in1 : ∀ S, S < 6 → (∀ j, j < 7 → wIn wS1 (19 + 5 * S) (4 + j + 1) = true) ∧ (∀ r, r < 4 → wIn wS1 (19 + 5 * S + (r + 1)) 0 = true) := by decide +kernel
theorem frm_ChA1 (hS : S < 6) (C : ChA (19 + 5 * S) m m') : frm wS1 m la ro m' la ro := by
  obtain ⟨w1, w2⟩ := fs_in1 S hS
  refine ⟨fun c j h1 h2 => ?_, fun _ _ => rfl, fun _ _ _ => rfl, fun _ => rfl⟩
  refine C c j ?_
  by_cases c1 : c < 19 + 5 * S
  · exact .inl c1
  by_cases c2 : 19 + 5 * S + 4 < c
  · exact .inr (.inl c2)
  by_cases c3 : c = 19 + 5 * S
  · refine .inr (.inr ⟨c3, ?_⟩)
    by_cases c4 : j < 4 ∨ 10 < j
    · exact c4
    · have e := w1 (j - 4) (by omega)
      rw [show 4 + (j - 4) + 1 = j + 1 by omega, ← c3, h2] at e
      cases e
  · have e := w2 (c - (19 + 5 * S) - 1) (by omega)
    rw [show 19 + 5 * S + (c - (19 + 5 * S) - 1 + 1) = c by omega, h1] at e
    cases e
theorem ntC_fr : frm wNt m la ro (ntC m D s w b v) la ro := by
  have fB : frm wNt m la ro (ntB m D) la ro := by
    unfold ntB
    split
    · refine frm_t (mu' := upA m 15 (va_cpy (m 15) (m 15) 4 0 156)) (la' := la) (ro' := ro) ⟨fun c j h1 h2 => ?_, fun _ _ => rfl, fun _ _ _ => rfl, fun _ => rfl⟩ (frm_up (k := 1) (.inr (by decide)))
      unfold upA
      rw [if_neg (fun e => by rw [e] at h1; cases h1)]
    · exact frm_r _ _ _ _
  unfold ntC
  exact frm_t (frm_t (frm_t (frm_t (frm_t (frm_t fB (frm_up (.inl (by decide)))) (frm_up (.inl (by decide)))) (frm_up (.inl (by decide)))) (frm_up (.inl (by decide)))) (frm_up (k := 1) (.inr (by decide)))) (frm_up (k := 2) (.inr (by decide)))
theorem gOk_1415 (h : ∀ c j, ¬ c = 14 → ¬ c = 15 → m' c j = m c j) (hg : gOk ivG m) : gOk ivG m' := by
  intro c j
  by_cases c1 : c = 14
  · subst c1
    exact ⟨by rw [ivF_ok (by decide)]; exact top_ok _, by rw [ivR_ok (by decide)]; exact top_ok _⟩
  by_cases c2 : c = 15
  · subst c2
    exact ⟨by rw [ivF_ok (by decide)]; exact top_ok _, by rw [ivR_ok (by decide)]; exact top_ok _⟩
  rw [h c j c1 c2]
  exact hg c j
theorem Kd_v (hS : S < 6) (h : Kd S w of at') : vOk of at' := by
  rcases h with ⟨k, hk, _, rfl, rfl⟩ | ⟨j, hj, _, rfl, rfl⟩
  · exact .inl ⟨rfl, _, by omega, rfl⟩
  · exact .inr ⟨by decide, _, by omega, rfl⟩
theorem plc_same (h : vAt m of at' = v) : plc m of at' v = m := by
  unfold vAt at h
  unfold plc
  refine funext fun c => funext fun i => ?_
  split
  · rename_i q
    rw [if_pos q] at h
    rw [up2_e]
    split
    · rename_i z
      rw [z.1, z.2, h]
    · rfl
  · rename_i q
    rw [if_neg q] at h
    rw [up2_e]
    split
    · rename_i z
      rw [z.1, z.2, h]
    · rfl
theorem plc_cg {c i : Nat} (h : m c i = m' c i) : plc m of at' v c i = plc m' of at' v c i := by
  unfold plc
  split
  · exact up2_cg h
  · exact up2_cg h
theorem rtI_of (hk : k < 4) (h : 0 ≤ v ∧ v ≤ mrF k) : rtI (4 * S + k) v := by
  obtain ⟨h1, h2⟩ := h
  unfold mrF at h2
  unfold rtI
  rw [show (4 * S + k) % 4 = k by omega]
  by_cases z : k < 2
  · rw [if_pos z] at h2 ⊢
    rw [Int32.le_iff_toInt_le] at h1 h2
    exact ⟨h1, h2⟩
  · rw [if_neg z] at h2 ⊢
    rw [Int32.le_iff_toInt_le] at h1 h2
    exact ⟨h1, h2⟩
/-- the class changes a number of stone S -/
theorem kd_ch (hn : n ≤ 6) (hS : S < n) (hs : ∀ S, S < n → StOk m S) (h : Kd S w of at') (hv : KvB of at' b) (hl : m (19 + 5 * S) 4 = nI L) (hL : L ≤ 12) : ∃ (old : Int32) (m1 : Mu), Rr X (d + 1) MSt_change 0 [.ref (19 + 5 * S), .int w, .int b, mkU, mkU] [] (Wd m la ro et) = some (some (.int old), Wd m1 la ro et) ∧ ChA (19 + 5 * S) m m1 ∧ (∀ S', S' < n → StOk (plc m1 of at' b) S') ∧ ((∀ j, j < 12 → w = nI (10 + j) → j < L) → old = vAt m of at') ∧ KvB of at' old := by
  have qa := snA_of (show S < 6 by omega)
  obtain ⟨L', l1, l2, l3, l4, l5, l6⟩ := hs S hS
  have : L' = L := (nI_eq (by omega) (by omega)).mp (l2.symm.trans hl)
  subst this
  rcases h with ⟨k, hk, rfl, rfl, rfl⟩ | ⟨j, hj, rfl, rfl, rfl⟩
  · have ck : (nI (4 * S + k)).toNatClampNeg = 4 * S + k := nI_clamp (by omega)
    have hv := hv rfl
    rw [ck] at hv
    refine ⟨_, _, ch_r qa hk, Ch_up (by omega) (by omega), fun S' hS' => ?_, fun _ => ?_, fun _ => ?_⟩
    · unfold plc
      rw [if_pos rfl, ck]
      exact st_r hn hS hk hv hs S' hS'
    · unfold vAt
      rw [if_pos rfl, ck]
      exact (l5 k hk).1
    · rw [ck, (l5 k hk).1]
      exact (l5 k hk).2
  · have ck : (nI (12 * S + j)).toNatClampNeg = 12 * S + j := nI_clamp (by omega)
    have z10 : ¬ (1 : Int32) = 0 := by decide
    refine ⟨_, _, ch_w qa hj l1.2 l2, Ch_t (Ch_up (by omega) (by omega)) Ch_wg, fun S' hS' => ?_, fun q => ?_, fun q => absurd q z10⟩
    · unfold plc
      rw [if_neg z10, ck]
      exact st_w hn hS hj l2 l1.2 hs S' hS'
    · unfold vAt
      rw [if_neg z10, ck]
      exact (l4 j (q j hj rfl)).1
theorem vAt_c (h1 : ∀ j, m' 84 j = m 84 j) (h2 : ∀ j, m' 87 j = m 87 j) : vAt m' of at' = vAt m of at' := by
  unfold vAt
  rw [h1, h2]
set_option maxHeartbeats 2000000 in
/-- a number that has become another, noted on both sides -/
theorem set_core (hv' : KvB of at' v) (hob : KvB of at' old) (hg : gOk ivG mu) (hj : JB mu la ro) (hb : n ≤ 6 ∧ D + U ≤ 40) (h0 : mu 0 9 = nI n) (h3 : mu 81 3 = nI n) (h9 : mu 81 9 = 0) (hc : mu 14 1 = nI D ∧ mu 14 2 = nI (D + U) ∧ mu 81 12 = nI D ∧ mu 81 13 = nI U) (hch : ∀ i, i < D + U → ChOk mu n i) (hS : S < n) (hk : Kd S w of at') (C : ChA (19 + 5 * S) mu m1) (hst : ∀ S', S' < n → StOk (plc m1 of at' v) S') (ho : old = vAt mu of at') (hm : m = if old = v then m1 else ntC m1 D (nI S) w old v) : gOk ivG m ∧ JB m la ro ∧ vAt m of at' = old ∧ m 81 3 = nI n ∧ (∀ j, m 83 j = mu 83 j) ∧ gOk ivG (chgF m of at' v) ∧ JB (chgF m of at' v) la ro ∧ RSC (chgF m of at' v) ∧ frm wSe mu la ro (chgF m of at' v) la ro := by
  obtain ⟨hn, hDU⟩ := hb
  obtain ⟨c1, c2, c3, c4⟩ := hc
  have hv := Kd_v (by omega) hk
  have g1 := gOk_ChA (by omega) C hg
  have f1 : frm wS1 mu la ro m1 la ro := frm_ChA1 (by omega) C
  have j1 : JB m1 la ro := JS_B wS1 (by decide +kernel) _ _ _ _ _ _ f1 hj
  have v1 : vAt m1 of at' = old := (vAt_c (fun j => C _ _ (by omega)) (fun j => C _ _ (by omega))).trans ho.symm
  have o1 : ∀ c i, (c < 19 ∨ 48 < c) → m1 c i = mu c i := fun c i h => C c i (by omega)
  by_cases c : old = v
  · rw [if_pos c] at hm
    subst hm
    have ef : chgF m of at' v = m := by
      unfold chgF
      rw [if_pos (v1.trans c)]
    rw [ef]
    have e9 : plc m of at' v = m := plc_same (v1.trans c)
    rw [e9] at hst
    refine ⟨g1, j1, v1, (o1 _ _ (by omega)).trans h3, fun j => o1 _ _ (by omega), g1, j1, ⟨n, D, U, ⟨hn, hDU⟩, (o1 _ _ (by omega)).trans h0, (o1 _ _ (by omega)).trans h3, (o1 _ _ (by omega)).trans h9, hst, ⟨(o1 _ _ (by omega)).trans c1, (o1 _ _ (by omega)).trans c2, (o1 _ _ (by omega)).trans c3, (o1 _ _ (by omega)).trans c4⟩, fun i hi => ch_t (fun c j h => o1 _ _ (by omega)) (hch i hi)⟩, frm_s (by decide +kernel) f1⟩
  · rw [if_neg c] at hm
    have o2 : ∀ c i, ¬ c = 14 → ¬ c = 15 → m c i = m1 c i := fun c i h1 h2 => by rw [hm]; exact ntC_o h1 h2
    have g2 : gOk ivG m := gOk_1415 o2 g1
    have f2 : frm wNt m1 la ro m la ro := by rw [hm]; exact ntC_fr
    have j2 : JB m la ro := JS_B wNt (by decide) _ _ _ _ _ _ f2 j1
    have v2 : vAt m of at' = old := (vAt_c (fun j => o2 _ _ (by omega) (by omega)) (fun j => o2 _ _ (by omega) (by omega))).trans v1
    have m12 : m 81 12 = nI D := (o2 _ _ (by omega) (by omega)).trans ((o1 _ _ (by omega)).trans c3)
    have hne : ¬ vAt m of at' = v := by rw [v2]; exact c
    obtain ⟨e12, e13, e88, e89, e90, e91, elo, est⟩ := chg_v (mu := m) (v := v) (of := of) (at' := at') (show D ≤ 40 by omega) m12 hne
    have f3 := frm_chgF (mu := m) (la := la) (ro := ro) (of := of) (at' := at') (v := v)
    have m3 : m 81 3 = nI n := (o2 _ _ (by omega) (by omega)).trans ((o1 _ _ (by omega)).trans h3)
    have hD' : ntD D < 40 ∧ ntD D ≤ D := by
      unfold ntD
      split
      · omega
      · omega
    obtain ⟨w1, w2, w3⟩ := ntC_v (m := m1) (D := D) (s := nI S) (w := w) (b := old) (v := v)
    rw [← hm] at w1 w2 w3
    refine ⟨g2, j2, v2, m3, fun j => (o2 _ _ (by omega) (by omega)).trans (o1 _ _ (by omega)), gOk_chgF g2, JB_ch j2 f3 (JCh_chgF j2.2.1 hv), ?_, frm_t (frm_t (frm_s (by decide +kernel) f1) (frm_s (by decide +kernel) f2)) (frm_s (by decide +kernel) f3)⟩
    refine ⟨n, ntD D + 1, 0, ⟨hn, by omega⟩, ?_, ?_, ?_, fun S' hS' => ?_, ⟨?_, ?_, e12, e13⟩, fun i hi => ?_⟩
    · rw [elo _ _ (by omega), o2 _ _ (by omega) (by omega), o1 _ _ (by omega)]
      exact h0
    · rw [f3.1 81 3 (by decide) (by decide)]
      exact m3
    · rw [f3.1 81 9 (by decide) (by decide), o2 _ _ (by omega) (by omega), o1 _ _ (by omega)]
      exact h9
    · refine st_t (M0 := plc m1 of at' v) (fun c i h => ?_) (by omega) (hst S' hS')
      rcases h with h | h
      · rw [elo _ _ (by omega), o2 _ _ (by omega) (by omega), plc_o (by omega) (by omega)]
      · rw [est c i (by omega)]
        exact plc_cg (o2 _ _ (by omega) (by omega))
    · rw [elo _ _ (by omega)]
      exact w1
    · rw [elo _ _ (by omega)]
      exact w2
    · by_cases q : i = ntD D
      · subst q
        refine ⟨S, hS, ?_, ?_, ?_, ⟨?_, ?_⟩, ?_⟩
        · rw [elo _ _ (by omega), w3, if_neg (by omega), if_neg (by omega), if_neg (by omega), if_pos rfl]
        · rw [elo _ _ (by omega), w3, if_neg (by omega), if_pos rfl, e90, if_pos rfl, v2]
        · rw [elo _ _ (by omega), w3, if_pos rfl, e91, if_pos rfl]
        · rw [e88, if_pos rfl, e89, if_pos rfl, e90, if_pos rfl, v2]
          exact hob
        · rw [e88, if_pos rfl, e89, if_pos rfl, e91, if_pos rfl]
          exact hv'
        · rw [elo _ _ (by omega), w3, if_neg (by omega), if_neg (by omega), if_pos rfl, e88, if_pos rfl, e89, if_pos rfl]
          exact hk
      · have hi' : i < ntD D := by omega
        obtain ⟨i', hi2⟩ : ∃ i', i' = if D = 40 then i + 1 else i := ⟨_, rfl⟩
        have hlt : i' < D + U := by
          rw [hi2]
          unfold ntD at hi'
          by_cases z : D = 40
          · rw [if_pos z] at hi' ⊢; omega
          · rw [if_neg z] at hi' ⊢; omega
        have ei : (if D = 40 ∧ i < 39 then i + 1 else i) = i' := by
          rw [hi2]
          unfold ntD at hi'
          by_cases z : D = 40
          · rw [if_pos z] at hi'
            rw [if_pos ⟨z, hi'⟩, if_pos z]
          · rw [if_neg (fun q => z q.1), if_neg z]
        have p15 : ∀ q, q < 4 → chgF m of at' v 15 (4 * i + q) = mu 15 (4 * i' + q) := fun q hq => by
          rw [elo _ _ (by omega), w3, if_neg (by omega), if_neg (by omega), if_neg (by omega), if_neg (by omega), ntB_15 (by omega) hi' hq, ← hi2]
          exact o1 _ _ (by omega)
        have p15' : chgF m of at' v 15 (4 * i) = mu 15 (4 * i') := p15 0 (by omega)
        have p8 : ∀ c, 88 ≤ c → c ≤ 91 → m c i' = mu c i' := fun c h h' => (o2 _ _ (by omega) (by omega)).trans (o1 _ _ (by omega))
        unfold ChOk
        rw [p15', p15 1 (by omega), p15 2 (by omega), p15 3 (by omega), e88, if_neg q, e89, if_neg q, e90, if_neg q, e91, if_neg q, ei, p8 88 (by omega) (by omega), p8 89 (by omega) (by omega), p8 90 (by omega) (by omega), p8 91 (by omega) (by omega)]
        exact hch i' hlt
theorem setK_s (hn : n ≤ 6) (h3 : m 81 3 = nI n) (hS : S < n) : setK m (nI S) w v = if 6 ≤ w ∧ w ≤ 9 then (if 0 ≤ v ∧ v ≤ (if 8 ≤ w then (100 : Int32) else 999) then some (0, 4 * nI S + w - 6) else none) else if (10 ≤ w ∧ w ≤ 9 + m 83 S) ∧ (1 ≤ v ∧ v ≤ 9) then some (1, 12 * nI S + w - 10) else none := by
  unfold setK
  rw [h3, if_pos (st_in hn hS), nI_clamp (by omega)]
set_option maxHeartbeats 4000000 in
theorem set_all (hg : gOk ivG mu) (hr : rOk ro) (hj : JB mu la ro) (q : RSC mu) : ∃ (mu1 mu2 : Mu) (x : Int32), Rr X (d + 3) MTo_set 0 [.ref 0, .int s, .int w, .int v, mkU, mkU] [] (Wd mu la ro et) = some (some (.int x), Wd mu1 la ro et) ∧ Rr X (d + 3) MRm_set 0 [.ref 81, .int s, .int w, .int v] [] (Wd mu1 la ro et) = some (some (.int x), Wd mu2 la ro et) ∧ gOk ivG mu2 ∧ JB mu2 la ro ∧ RSC mu2 ∧ frm wSe mu la ro mu2 la ro := by
  obtain ⟨n, D, U, hb, h0, h3, h9, hs, hc, hch⟩ := id q
  have hn := hb.1
  by_cases c : 0 ≤ s ∧ s ≤ nI n - 1
  · obtain ⟨S, hS, rfl⟩ := st_ca hn c
    have hS6 : S < 6 := by omega
    have qa := snA_of hS6
    have o1 := qa.1.1
    obtain ⟨L, l1, l2, l3, l4, l5, l6⟩ := hs S hS
    have eA := e_stoneAt (X := X) (d := d + 1) (mu := mu) (la := la) (et := et) hr hn h0 hS
    -- what may not be
    have no : Rr X (d + 2) MSt_mayBecome 0 [.ref (19 + 5 * S), .int w, .int v] [] (Wd mu la ro et) = some (some (.int 0), Wd mu la ro et) → setK mu (nI S) w v = none → ∃ (mu1 mu2 : Mu) (x : Int32), Rr X (d + 3) MTo_set 0 [.ref 0, .int (nI S), .int w, .int v, mkU, mkU] [] (Wd mu la ro et) = some (some (.int x), Wd mu1 la ro et) ∧ Rr X (d + 3) MRm_set 0 [.ref 81, .int (nI S), .int w, .int v] [] (Wd mu1 la ro et) = some (some (.int x), Wd mu2 la ro et) ∧ gOk ivG mu2 ∧ JB mu2 la ro ∧ RSC mu2 ∧ frm wSe mu la ro mu2 la ro := fun hm hk => by
      have e2 := e_set (X := X) (d := d) (la := la) (ro := ro) (et := et) hg hj.2.1 (s := nI S) (w := w) (v := v)
      have e3 : setR mu (nI S) w v = -1 := by unfold setR; rw [hk]
      have e4 : setF mu (nI S) w v = mu := by unfold setF; rw [hk]
      rw [e3, e4] at e2
      refine ⟨mu, mu, -1, ?_, e2, hg, hj, q, frm_r _ _ _ _⟩
      simp only [r_MTo_set_0, r_MTo_set_1, r_MTo_set_2, r_MTo_set_5, r_MTo_set_5n, r_MTo_set_7, r_MTo_set_7n, r_MTo_set_9, r_MTo_set_9n, r_MTo_set_12, r_MTo_set_12n, r_MTo_set_14, r_MTo_set_15, r_MTo_set_16, r_MTo_set_19, r_MTo_set_22, r_MTo_set_23, sL_0, sL_1, sL_2, mk_i, mk_r, mk_f, mk_n, mk_u, mk_l, List.set_cons_succ, List.set_cons_zero, Nat.reduceAdd, ckS_0, ckS_1, ckS_2, ckS_3, ckS_4, Option.bind_some, Option.isSome_some, psh, if_true, if_false, i10, not_true_eq_false, not_false_eq_true, Bool.false_eq_true, and_self, and_true, true_and, eq_self, qI_0_9, qI_0_10, qR_0_0, qRd_0_0, qR_0_1, qRd_0_1, qR_0_2, qRd_0_2, qR_0_3, qRd_0_3, qR_0_4, qRd_0_4, qR_0_5, qRd_0_5, qR_0_6, qRd_0_6, qR_0_7, qRd_0_7, qR_0_8, qRd_0_8, qO_0, eA, o1, hm]
    -- what may be
    have yes : ∀ of at' : Int32, Kd S w of at' → KvB of at' v → (∀ j, j < 12 → w = nI (10 + j) → j < L) → Rr X (d + 2) MSt_mayBecome 0 [.ref (19 + 5 * S), .int w, .int v] [] (Wd mu la ro et) = some (some (.int 1), Wd mu la ro et) → (∀ m : Mu, m 81 3 = nI n → m 83 S = nI L → setK m (nI S) w v = some (of, at')) → ∃ (mu1 mu2 : Mu) (x : Int32), Rr X (d + 3) MTo_set 0 [.ref 0, .int (nI S), .int w, .int v, mkU, mkU] [] (Wd mu la ro et) = some (some (.int x), Wd mu1 la ro et) ∧ Rr X (d + 3) MRm_set 0 [.ref 81, .int (nI S), .int w, .int v] [] (Wd mu1 la ro et) = some (some (.int x), Wd mu2 la ro et) ∧ gOk ivG mu2 ∧ JB mu2 la ro ∧ RSC mu2 ∧ frm wSe mu la ro mu2 la ro := fun of at' hk hv hl hm hK => by
      obtain ⟨old, m1, e1, C, hst, ho, hob⟩ := kd_ch (X := X) (d := d + 1) (la := la) (ro := ro) (et := et) (b := v) hn hS hs hk hv l2 l1.2
      have e1 : Rr X (d + 2) MSt_change 0 [.ref (19 + 5 * S), .int w, .int v, mkU, mkU] [] (Wd mu la ro et) = some (some (.int old), Wd m1 la ro et) := e1
      obtain ⟨m, em⟩ : ∃ m, m = if old = v then m1 else ntC m1 D (nI S) w old v := ⟨_, rfl⟩
      obtain ⟨t1, t2, t3, t4, t5, t6, t7, t8, t9⟩ := set_core (la := la) (ro := ro) hv hob hg hj hb h0 h3 h9 hc hch hS hk C hst (ho hl) em
      have e2 := e_set (X := X) (d := d) (la := la) (ro := ro) (et := et) t1 t2.2.1 (s := nI S) (w := w) (v := v)
      have hk2 := hK m t4 ((t5 S).trans l3)
      have e3 : setR m (nI S) w v = old := by unfold setR; rw [hk2]; exact t3
      have e4 : setF m (nI S) w v = chgF m of at' v := by unfold setF; rw [hk2]
      rw [e3, e4] at e2
      refine ⟨m, chgF m of at' v, old, ?_, e2, t6, t7, t8, t9⟩
      by_cases z : old = v
      · rw [if_pos z] at em
        subst em
        simp only [r_MTo_set_0, r_MTo_set_1, r_MTo_set_2, r_MTo_set_5, r_MTo_set_5n, r_MTo_set_7, r_MTo_set_7n, r_MTo_set_9, r_MTo_set_9n, r_MTo_set_12, r_MTo_set_12n, r_MTo_set_14, r_MTo_set_15, r_MTo_set_16, r_MTo_set_19, r_MTo_set_22, r_MTo_set_23, r_MTo_set_24, r_MTo_set_24n, r_MTo_set_26, r_MTo_set_27, r_MTo_set_28, r_MTo_set_31, r_MTo_set_33, r_MTo_set_35, r_MTo_set_36, r_MTo_set_39, r_MTo_set_40, r_MTo_set_43, r_MTo_set_44, r_MTo_set_45, r_MTo_set_47, r_MTo_set_48, r_MTo_set_51, r_MTo_set_53, sL_0, sL_1, sL_2, mk_i, mk_r, mk_f, mk_n, mk_u, mk_l, List.set_cons_succ, List.set_cons_zero, Nat.reduceAdd, ckS_0, ckS_1, ckS_2, ckS_3, ckS_4, Option.bind_some, Option.isSome_some, psh, if_true, if_false, i10, not_true_eq_false, not_false_eq_true, Bool.false_eq_true, and_self, and_true, true_and, eq_self, qI_0_9, qI_0_10, qR_0_0, qRd_0_0, qR_0_1, qRd_0_1, qR_0_2, qRd_0_2, qR_0_3, qRd_0_3, qR_0_4, qRd_0_4, qR_0_5, qRd_0_5, qR_0_6, qRd_0_6, qR_0_7, qRd_0_7, qR_0_8, qRd_0_8, qO_0, eA, o1, hm, e1, z]
      · rw [if_neg z] at em
        have c14 : m1 14 1 = nI D := (C 14 1 (by omega)).trans hc.1
        have en := e_note (X := X) (d := d + 1) (m := m1) (la := la) (ro := ro) (et := et) (s := nI S) (w := w) (b := old) (v := v) (show D ≤ 40 by omega) c14
        have en : Rr X (d + 2) MCh_note 0 [.ref 14, .int (nI S), .int w, .int old, .int v] [] (Wd m1 la ro et) = some (none, Wd (ntC m1 D (nI S) w old v) la ro et) := en
        rw [← em] at en
        simp only [r_MTo_set_0, r_MTo_set_1, r_MTo_set_2, r_MTo_set_5, r_MTo_set_5n, r_MTo_set_7, r_MTo_set_7n, r_MTo_set_9, r_MTo_set_9n, r_MTo_set_12, r_MTo_set_12n, r_MTo_set_14, r_MTo_set_15, r_MTo_set_16, r_MTo_set_19, r_MTo_set_22, r_MTo_set_23, r_MTo_set_24, r_MTo_set_24n, r_MTo_set_26, r_MTo_set_27, r_MTo_set_28, r_MTo_set_31, r_MTo_set_33, r_MTo_set_35, r_MTo_set_36, r_MTo_set_39, r_MTo_set_40, r_MTo_set_43, r_MTo_set_44, r_MTo_set_45, r_MTo_set_47, r_MTo_set_48, r_MTo_set_51, r_MTo_set_53, sL_0, sL_1, sL_2, mk_i, mk_r, mk_f, mk_n, mk_u, mk_l, List.set_cons_succ, List.set_cons_zero, Nat.reduceAdd, ckS_0, ckS_1, ckS_2, ckS_3, ckS_4, Option.bind_some, Option.isSome_some, psh, if_true, if_false, i10, not_true_eq_false, not_false_eq_true, Bool.false_eq_true, and_self, and_true, true_and, eq_self, qI_0_9, qI_0_10, qI_14_1, qI_14_2, qR_0_0, qRd_0_0, qR_0_1, qRd_0_1, qR_0_2, qRd_0_2, qR_0_3, qRd_0_3, qR_0_4, qRd_0_4, qR_0_5, qRd_0_5, qR_0_6, qRd_0_6, qR_0_7, qRd_0_7, qR_0_8, qRd_0_8, qR_14_0, qRd_14_0, qO_0, qO_14, eA, o1, hm, e1, z, en]
    by_cases c6 : 6 ≤ w ∧ w ≤ 9
    · obtain ⟨W, w1, w2, rfl⟩ := i_between (a := 6) (b := 9) (by omega) (by omega) c6.1 c6.2
      obtain ⟨k, rfl⟩ : ∃ k, W = 6 + k := ⟨W - 6, by omega⟩
      have hk : k < 4 := by omega
      have eb := mb_r (X := X) (d := d + 1) (m := mu) (la := la) (ro := ro) (et := et) (v := v) qa hk
      have eb : Rr X (d + 2) MSt_mayBecome 0 [.ref (19 + 5 * S), .int (nI (6 + k)), .int v] [] (Wd mu la ro et) = _ := eb
      have em : (if (8 : Int32) ≤ nI (6 + k) then (100 : Int32) else 999) = mrF k := by
        unfold mrF
        by_cases z : k < 2
        · have z2 : ¬ (8 : Int32) ≤ nI (6 + k) := nI_ge (a := 6 + k) (b := 8) (by omega) (by omega)
          rw [if_pos z, if_neg z2]
        · have z2 : (8 : Int32) ≤ nI (6 + k) := nI_le (a := 8) (b := 6 + k) (by omega) (by omega)
          rw [if_neg z, if_pos z2]
      by_cases cv : 0 ≤ v ∧ v ≤ mrF k
      · rw [if_pos cv] at eb
        refine yes 0 (nI (4 * S + k)) (.inl ⟨k, hk, rfl, rfl, rfl⟩) (fun _ => by rw [nI_clamp (by omega)]; exact rtI_of hk cv) (fun j hj e => ?_) eb (fun m m3 m83 => ?_)
        · have := (nI_eq (a := 6 + k) (b := 10 + j) (by omega) (by omega)).mp e
          omega
        · rw [setK_s hn m3 hS, if_pos c6, em, if_pos cv]
          congr 2
          rw [show (4 : Int32) * nI S = nI (4 * S) from (Int32.ofNat_mul 4 S).symm, nI_add]
          have := pk_sub (a := 4 * S + (6 + k)) (b := 6) (by omega)
          rw [show 4 * S + (6 + k) - 6 = 4 * S + k by omega] at this
          exact this
      · rw [if_neg cv] at eb
        refine no eb ?_
        rw [setK_s hn h3 hS, if_pos c6, em, if_neg cv]
    · have eb := mb_w (X := X) (d := d + 1) (m := mu) (la := la) (ro := ro) (et := et) (v := v) (w := w) qa l2 l1.2 c6
      have eb : Rr X (d + 2) MSt_mayBecome 0 [.ref (19 + 5 * S), .int w, .int v] [] (Wd mu la ro et) = _ := eb
      by_cases cw : (10 ≤ w ∧ w ≤ 9 + nI L) ∧ (1 ≤ v ∧ v ≤ 9)
      · rw [if_pos cw] at eb
        have cw2 := cw.1.2
        rw [show (9 : Int32) + nI L = nI (9 + L) from nI_add 9 L] at cw2
        obtain ⟨W, w1, w2, rfl⟩ := i_between (a := 10) (b := 9 + L) (by omega) (by omega) cw.1.1 cw2
        obtain ⟨j, rfl⟩ : ∃ j, W = 10 + j := ⟨W - 10, by omega⟩
        refine yes 1 (nI (12 * S + j)) (.inr ⟨j, by omega, rfl, rfl, rfl⟩) (fun q => absurd q (by decide)) (fun j2 hj2 e => ?_) eb (fun m m3 m83 => ?_)
        · have := (nI_eq (a := 10 + j) (b := 10 + j2) (by omega) (by omega)).mp e
          omega
        · rw [setK_s hn m3 hS, if_neg c6, m83, if_pos cw]
          congr 2
          rw [show (12 : Int32) * nI S = nI (12 * S) from (Int32.ofNat_mul 12 S).symm, nI_add]
          have := pk_sub (a := 12 * S + (10 + j)) (b := 10) (by omega)
          rw [show 12 * S + (10 + j) - 10 = 12 * S + j by omega] at this
          exact this
      · rw [if_neg cw] at eb
        refine no eb ?_
        rw [setK_s hn h3 hS, if_neg c6, l3, if_neg cw]
  · have eA := e_stoneNo (X := X) (d := d + 1) (mu := mu) (la := la) (ro := ro) (et := et) h0 c
    have e2 := e_set (X := X) (d := d) (la := la) (ro := ro) (et := et) hg hj.2.1 (s := s) (w := w) (v := v)
    have hk : setK mu s w v = none := by
      unfold setK
      rw [h3, if_neg c]
    have e3 : setR mu s w v = -1 := by unfold setR; rw [hk]
    have e4 : setF mu s w v = mu := by unfold setF; rw [hk]
    rw [e3, e4] at e2
    refine ⟨mu, mu, -1, ?_, e2, hg, hj, q, frm_r _ _ _ _⟩
    simp only [r_MTo_set_0, r_MTo_set_1, r_MTo_set_2, r_MTo_set_5, r_MTo_set_5n, r_MTo_set_7, r_MTo_set_7n, r_MTo_set_9, r_MTo_set_9n, r_MTo_set_12, r_MTo_set_12n, r_MTo_set_14, r_MTo_set_15, r_MTo_set_16, r_MTo_set_19, r_MTo_set_22, r_MTo_set_23, sL_0, sL_1, sL_2, mk_i, mk_r, mk_f, mk_n, mk_u, mk_l, List.set_cons_succ, List.set_cons_zero, Nat.reduceAdd, ckS_0, ckS_1, ckS_2, ckS_3, ckS_4, Option.bind_some, Option.isSome_some, psh, if_true, if_false, i10, not_true_eq_false, not_false_eq_true, Bool.false_eq_true, and_self, and_true, true_and, eq_self, qI_0_9, qI_0_10, qR_0_0, qRd_0_0, qR_0_1, qRd_0_1, qR_0_2, qRd_0_2, qR_0_3, qRd_0_3, qR_0_4, qRd_0_4, qR_0_5, qRd_0_5, qR_0_6, qRd_0_6, qR_0_7, qRd_0_7, qR_0_8, qRd_0_8, qO_0, eA]
end
