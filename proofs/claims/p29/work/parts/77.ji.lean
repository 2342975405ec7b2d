-- ===== tapes, stones, changes: what is kept, call by call
def RTS (mu : Mu) (la : La) (ro : Ro) : Prop := RTN mu la ro ∧ RSC mu
abbrev dSC : WS := [(0, 10), (81, 4), (81, 10), (14, 2), (14, 3), (15, 0), (81, 13), (81, 14), (83, 0), (84, 0), (85, 0), (86, 0), (87, 0), (88, 0), (89, 0), (90, 0), (91, 0)] ++ wS1
abbrev dTS : WS := dTN ++ dSC
section
variable {X : Tok} {d : Nat} {mu m m' m1 mu' M M0 : Mu} {la la' : La} {ro ro' : Ro} {et : Nat → Option va_E} {a S L n k j D U p : Nat} {s w v b x : Int32}
theorem StOk_d (h1 : ∀ j, 4 ≤ j → j ≤ 10 → mu' (19 + 5 * S) j = mu (19 + 5 * S) j) (h2 : ∀ r j, r < 4 → mu' (19 + 5 * S + (r + 1)) j = mu (19 + 5 * S + (r + 1)) j) (h3 : mu' 83 S = mu 83 S) (h4 : ∀ j, 12 * S ≤ j → j < 12 * S + 12 → mu' 84 j = mu 84 j ∧ mu' 85 j = mu 85 j ∧ mu' 86 j = mu 86 j) (h5 : ∀ k, 4 * S ≤ k → k < 4 * S + 4 → mu' 87 k = mu 87 k) (q : StOk mu S) : StOk mu' S := by
  obtain ⟨L, l1, l2, l3, l4, l5, s5, s6, s7, s8, s9, s10⟩ := q
  have e1 : ∀ j, mu' (19 + 5 * S + 1) j = mu (19 + 5 * S + 1) j := fun j => h2 0 j (by omega)
  have e2 : ∀ j, mu' (19 + 5 * S + 2) j = mu (19 + 5 * S + 2) j := fun j => h2 1 j (by omega)
  have e3 : ∀ j, mu' (19 + 5 * S + 3) j = mu (19 + 5 * S + 3) j := fun j => h2 2 j (by omega)
  have e4 : ∀ j, mu' (19 + 5 * S + 4) j = mu (19 + 5 * S + 4) j := fun j => h2 3 j (by omega)
  refine ⟨L, l1, (h1 4 (by omega) (by omega)).trans l2, h3.trans l3, fun j hj => ?_, fun k hk => ?_, ?_⟩
  · obtain ⟨x1, x2, x3⟩ := h4 (12 * S + j) (by omega) (by omega)
    rw [e1, e2, e3, x1, x2, x3]
    exact l4 j hj
  · rw [e4, h5 (4 * S + k) (by omega) (by omega)]
    exact l5 k hk
  · unfold sumsOk
    rw [h1 5 (by omega) (by omega), h1 6 (by omega) (by omega), h1 7 (by omega) (by omega), h1 8 (by omega) (by omega), h1 9 (by omega) (by omega), h1 10 (by omega) (by omega)]
    simp only [e1, e2, e3]
    exact ⟨s5, s6, s7, s8, s9, s10⟩
theorem fs_d : ∀ S, S < 6 → ((shp (19 + 5 * S)).1 = 0 ∧ ∀ j, j < 7 → wIn dSC (19 + 5 * S) (4 + j + 1) = true) ∧ (∀ r, r < 4 → (shp (19 + 5 * S + (r + 1))).1 ≠ 0 ∧ wIn dSC (19 + 5 * S + (r + 1)) 0 = true) := by decide +kernel
theorem RSC_f {w : WS} (h : wDis w dSC = true) (f : frm w mu la ro mu' la' ro') (q : RSC mu) : RSC mu' := by
  obtain ⟨n, D, U, ⟨hn, hDU⟩, h0, h3, h9, hs, ⟨c1, c2, c3, c4⟩, hch⟩ := q
  have r : ∀ c i, (shp c).1 ≠ 0 → wIn dSC c 0 = true → mu' c i = mu c i := fun c i h1 h2 => dis_r h f h1 h2
  refine ⟨n, D, U, ⟨hn, hDU⟩, (dis_f h f (by decide) (by decide)).trans h0, (dis_f h f (by decide) (by decide)).trans h3, (dis_f h f (by decide) (by decide)).trans h9, fun S hS => ?_, ⟨(dis_f h f (by decide) (by decide)).trans c1, (dis_f h f (by decide) (by decide)).trans c2, (dis_f h f (by decide) (by decide)).trans c3, (dis_f h f (by decide) (by decide)).trans c4⟩, fun i hi => ?_⟩
  · obtain ⟨⟨w0, w1⟩, w2⟩ := fs_d S (by omega)
    refine StOk_d (fun j h1 h2 => ?_) (fun q j hq => ?_) (r _ _ (by decide) (by decide)) (fun j _ _ => ⟨r _ _ (by decide) (by decide), r _ _ (by decide) (by decide), r _ _ (by decide) (by decide)⟩) (fun k _ _ => r _ _ (by decide) (by decide)) (hs S hS)
    · have e := w1 (j - 4) (by omega)
      rw [show 4 + (j - 4) + 1 = j + 1 by omega] at e
      exact dis_f h f w0 e
    · exact r _ _ (w2 q hq).1 (w2 q hq).2
  · refine ch_t (fun c j h => ?_) (hch i hi)
    have : c = 15 ∨ c = 88 ∨ c = 89 ∨ c = 90 ∨ c = 91 := by omega
    rcases this with rfl | rfl | rfl | rfl | rfl
    · exact r _ _ (by decide) (by decide)
    · exact r _ _ (by decide) (by decide)
    · exact r _ _ (by decide) (by decide)
    · exact r _ _ (by decide) (by decide)
    · exact r _ _ (by decide) (by decide)
theorem wDis_l {w D1 D2 : WS} (h : wDis w (D1 ++ D2) = true) : wDis w D1 = true ∧ wDis w D2 = true :=
  ⟨wDis_s (List.all_eq_true.mpr fun q hq => wIn_mem.mpr (List.mem_append_left _ hq)) h, wDis_s (List.all_eq_true.mpr fun q hq => wIn_mem.mpr (List.mem_append_right _ hq)) h⟩
theorem RTS_f {w : WS} (h : wDis w dTS = true) (f : frm w mu la ro mu' la' ro') (q : RTS mu la ro) : RTS mu' la' ro' := ⟨RTN_f (wDis_l h).1 f q.1, RSC_f (wDis_l h).2 f q.2⟩
theorem feedS {n v : Int32} (hg : gOk ivG mu) (hj : JB mu la ro) (q : RTS mu la ro) : ∃ (mu1 mu2 : Mu) (x : Int32), Rr X (d + 1) MTo_feed 0 [.ref 0, .int n, .int v, mkU] [] (Wd mu la ro et) = some (some (.int x), Wd mu1 la ro et) ∧ Rr X (d + 1) MRm_feed 0 [.ref 81, .int n, .int v, mkU] [] (Wd mu1 la ro et) = some (some (.int x), Wd mu2 la ro et) ∧ gOk ivG mu2 ∧ JB mu2 la ro ∧ RTS mu2 la ro ∧ frm (wFdC ++ wFdM) mu la ro mu2 la ro := by
  obtain ⟨mu1, mu2, x, e1, e2, g, j, t, f⟩ := feedN (X := X) (d := d) (la := la) (ro := ro) (et := et) (n := n) (v := v) hg hj q.1
  exact ⟨mu1, mu2, x, e1, e2, g, j, ⟨t, RSC_f (by decide +kernel) f q.2⟩, f⟩
theorem floorS (hg : gOk ivG mu) (hr : rOk ro) (hj : JB mu la ro) (q : RTS mu la ro) : ∃ (mu1 mu2 : Mu) (x : Int32), Rr X (d + 71) MTo_floor 0 [.ref 0, mkU] [] (Wd mu la ro et) = some (some (.int x), Wd mu1 la ro et) ∧ Rr X (d + 71) MRm_floor 0 [.ref 81, mkU] [] (Wd mu1 la ro et) = some (some (.int x), Wd mu2 la ro et) ∧ gOk ivG mu2 ∧ JB mu2 la ro ∧ RTS mu2 la ro ∧ frm (wFlC ++ wFl) mu la ro mu2 la ro := by
  obtain ⟨mu1, mu2, x, e1, e2, g, j, t, f⟩ := floorN (X := X) (d := d) (la := la) (et := et) hg hr hj q.1
  exact ⟨mu1, mu2, x, e1, e2, g, j, ⟨t, RSC_f (by decide +kernel) f q.2⟩, f⟩
theorem snM_lo {c i : Nat} (h : c < 81 ∨ 87 < c) (hS : S < 6) : snM m S c i = m c i := by
  rw [snM_o (by omega) hS]
  unfold srM rtM4
  rw [up2_a (by omega), up2_a (by omega), up2_a (by omega), up2_a (by omega), lmsM_lo _ _ _ _ _ (by omega), up2_a (by omega)]
theorem wd5 : wDis wStC [(81, 10), (81, 13), (81, 14), (83, 0), (84, 0), (85, 0), (86, 0), (87, 0), (88, 0), (89, 0), (90, 0), (91, 0), (14, 2), (14, 3), (15, 0)] = true := by decide +kernel
set_option maxHeartbeats 2000000 in
theorem stoneS (hg : gOk ivG mu) (hr : rOk ro) (hj : JB mu la ro) (q : RTS mu la ro) : ∃ (mu1 mu2 : Mu) (x : Int32), Rr X (d + 5) MTo_stone 0 [.ref 0, mkU] [] (Wd mu la ro et) = some (some (.int x), Wd mu1 la ro et) ∧ Rr X (d + 5) MRm_stone 0 [.ref 81, mkU, mkU] [] (Wd mu1 la ro et) = some (some (.int x), Wd mu2 la ro et) ∧ gOk ivG mu2 ∧ JB mu2 la ro ∧ RTS mu2 la ro ∧ frm (wStC ++ wStM) mu la ro mu2 la ro := by
  obtain ⟨⟨hR, ⟨F, hF, f1, f2⟩, S', hS', h0', h3'⟩, n, D, U, ⟨hn, hDU⟩, h0, h3, h9, hs, ⟨c1, c2, c3, c4⟩, hch⟩ := id q
  obtain ⟨mu1, x, e1, e2, g2, j2, fr1, fr2, k1, k2⟩ := stone_bo (X := X) (d := d) (la := la) (et := et) hg hr hj hR hn h0 h3
  have fr : frm (wStC ++ wStM) mu la ro (snM mu1 n) la ro := frm_t (frm_s (by decide +kernel) fr1) (frm_s (by decide +kernel) fr2)
  refine ⟨mu1, _, x, e1, e2, g2, j2, ?_, fr⟩
  by_cases c6 : n = 6
  · rw [k1 c6]
    exact q
  · have n6 : n < 6 := by omega
    obtain ⟨b1, b2, b3, b4, b5, b6, b7, b8, b9, b10⟩ := k2 n6
    have r1 : ∀ c i, c = 15 ∨ (83 ≤ c ∧ c ≤ 91) → mu1 c i = mu c i := fun c i h => by
      have : c = 15 ∨ c = 83 ∨ c = 84 ∨ c = 85 ∨ c = 86 ∨ c = 87 ∨ c = 88 ∨ c = 89 ∨ c = 90 ∨ c = 91 := by omega
      rcases this with rfl | rfl | rfl | rfl | rfl | rfl | rfl | rfl | rfl | rfl <;> exact dis_r wd5 fr1 (by decide) (by decide)
    have d1 : mu1 81 9 = mu 81 9 := dis_f wd5 fr1 (by decide) (by decide)
    have d2 : mu1 81 12 = mu 81 12 := dis_f wd5 fr1 (by decide) (by decide)
    have d3 : mu1 81 13 = mu 81 13 := dis_f wd5 fr1 (by decide) (by decide)
    have d4 : mu1 14 1 = mu 14 1 := dis_f wd5 fr1 (by decide) (by decide)
    have d5 : mu1 14 2 = mu 14 2 := dis_f wd5 fr1 (by decide) (by decide)
    have old : ∀ S, S < n → StOk (snM mu1 n) S := fun S hS => by
      refine StOk_c (fun j => ?_) (fun r j hr => ?_) ?_ (fun j h1 h2 => ⟨?_, ?_, ?_⟩) (fun k h1 h2 => ?_) (hs S hS)
      · rw [snM_lo (by omega) n6]
        exact b5 _ _ (by omega)
      · rw [snM_lo (by omega) n6]
        exact b5 _ _ (by omega)
      · rw [snM_o (by omega) n6, srM_lo (by omega)]
        exact r1 _ _ (by omega)
      · rw [snM_o (by omega) n6, srM_lo (by omega)]
        exact r1 _ _ (by omega)
      · rw [snM_o (by omega) n6, srM_lo (by omega)]
        exact r1 _ _ (by omega)
      · rw [snM_o (by omega) n6, srM_lo (by omega)]
        exact r1 _ _ (by omega)
      · rw [snM_o (by omega) n6, srM_lo (by omega)]
        exact r1 _ _ (by omega)
    have t9 : snM mu1 n 81 9 = 0 := ((fr2.1 81 9 (by decide) (by decide)).trans d1).trans h9
    have t12 : snM mu1 n 81 12 = nI D := ((fr2.1 81 12 (by decide) (by decide)).trans d2).trans c3
    have t13 : snM mu1 n 81 13 = nI U := ((fr2.1 81 13 (by decide) (by decide)).trans d3).trans c4
    have t1 : snM mu1 n 14 1 = nI D := (snM_lo (by omega) n6).trans (d4.trans c1)
    have t2 : snM mu1 n 14 2 = nI (D + U) := (snM_lo (by omega) n6).trans (d5.trans c2)
    have ch : ∀ i, i < D + U → ChOk (snM mu1 n) n i := fun i hi => ch_t (fun c j h => by rw [snM_lo (by omega) n6]; exact r1 _ _ (by omega)) (hch i hi)
    have RF : ∃ F, F ≤ 4 ∧ snM mu1 n 0 10 = nI F ∧ snM mu1 n 81 29 = nI F := ⟨F, hF, ((dis_f wd2 fr2 (by decide) (by decide)).trans (dis_f wd1 fr1 (by decide) (by decide))).trans f1, ((dis_f wd2 fr2 (by decide) (by decide)).trans (dis_f wd1 fr1 (by decide) (by decide))).trans f2⟩
    by_cases z : noS (stEnd mu) = true
    · rw [if_pos z] at b3 b4
      refine ⟨⟨RT_0 b1 b2, RF, n + 1, by omega, b3, b4⟩, n + 1, D, U, ⟨by omega, hDU⟩, b3, b4, t9, fun S hS => ?_, ⟨t1, t2, t12, t13⟩, fun i hi => ch_n (by omega) (ch i hi)⟩
      by_cases q : S = n
      · subst q
        exact st_new z n6 b7 b8 b9 (b10 z) (fun c j h => snM_lo (.inl h) n6) (fun c j h1 h2 => snM_o (by omega) n6)
      · exact old S (by omega)
    · rw [if_neg z] at b3 b4
      exact ⟨⟨RT_0 b1 b2, RF, n, hn, b3, b4⟩, n, D, U, ⟨hn, hDU⟩, b3, b4, t9, old, ⟨t1, t2, t12, t13⟩, ch⟩
/-- stones are alike -/
theorem RSC_R (q : RSC mu) : RSt mu := by
  obtain ⟨n, D, U, ⟨hn, hDU⟩, h0, h3, h9, hs, _⟩ := q
  exact ⟨n, hn, h0, h3, h9, hs⟩
theorem wd6 : wDis wSe dTN = true := by decide +kernel
theorem wd7 : wDis wSc dTN = true := by decide +kernel
theorem setS (hg : gOk ivG mu) (hr : rOk ro) (hj : JB mu la ro) (q : RTS mu la ro) : ∃ (mu1 mu2 : Mu) (x : Int32), Rr X (d + 3) MTo_set 0 [.ref 0, .int s, .int w, .int v, mkU, mkU] [] (Wd mu la ro et) = some (some (.int x), Wd mu1 la ro et) ∧ Rr X (d + 3) MRm_set 0 [.ref 81, .int s, .int w, .int v] [] (Wd mu1 la ro et) = some (some (.int x), Wd mu2 la ro et) ∧ gOk ivG mu2 ∧ JB mu2 la ro ∧ RTS mu2 la ro ∧ frm wSe mu la ro mu2 la ro := by
  obtain ⟨mu1, mu2, x, e1, e2, g, j, t, f⟩ := set_all (X := X) (d := d) (la := la) (et := et) (s := s) (w := w) (v := v) hg hr hj q.2
  exact ⟨mu1, mu2, x, e1, e2, g, j, ⟨RTN_f wd6 f q.1, t⟩, f⟩
theorem undoS (hg : gOk ivG mu) (hr : rOk ro) (hj : JB mu la ro) (q : RTS mu la ro) : ∃ (mu1 mu2 : Mu) (x : Int32), Rr X (d + 3) MTo_undo 0 [.ref 0] [] (Wd mu la ro et) = some (some (.int x), Wd mu1 la ro et) ∧ Rr X (d + 3) MRm_undo 0 [.ref 81] [] (Wd mu1 la ro et) = some (some (.int x), Wd mu2 la ro et) ∧ gOk ivG mu2 ∧ JB mu2 la ro ∧ RTS mu2 la ro ∧ frm wSe mu la ro mu2 la ro := by
  obtain ⟨mu1, mu2, x, e1, e2, g, j, t, f⟩ := undo_all (X := X) (d := d) (la := la) (et := et) hg hr hj q.2
  exact ⟨mu1, mu2, x, e1, e2, g, j, ⟨RTN_f wd6 f q.1, t⟩, f⟩
theorem redoS (hg : gOk ivG mu) (hr : rOk ro) (hj : JB mu la ro) (q : RTS mu la ro) : ∃ (mu1 mu2 : Mu) (x : Int32), Rr X (d + 3) MTo_redo 0 [.ref 0] [] (Wd mu la ro et) = some (some (.int x), Wd mu1 la ro et) ∧ Rr X (d + 3) MRm_redo 0 [.ref 81] [] (Wd mu1 la ro et) = some (some (.int x), Wd mu2 la ro et) ∧ gOk ivG mu2 ∧ JB mu2 la ro ∧ RTS mu2 la ro ∧ frm wSe mu la ro mu2 la ro := by
  obtain ⟨mu1, mu2, x, e1, e2, g, j, t, f⟩ := redo_all (X := X) (d := d) (la := la) (et := et) hg hr hj q.2
  exact ⟨mu1, mu2, x, e1, e2, g, j, ⟨RTN_f wd6 f q.1, t⟩, f⟩
/-- what the two weights more leave -/
theorem RSC_sc (f : frm wSc mu la ro mu' la ro) (h9 : mu' 81 9 = 0) (q : RSC mu) : RSC mu' := by
  obtain ⟨n, D, U, ⟨hn, hDU⟩, h0, h3, _, hs, ⟨c1, c2, c3, c4⟩, hch⟩ := q
  have o : ∀ c i, ¬ c = 81 → mu' c i = mu c i := fun c i h => by
    refine f.1 c i ?_ ?_
    · cases e : wIn wSc c 0 with
      | false => rfl
      | true =>
        have := wIn_mem.mp e
        simp only [List.mem_cons, Prod.mk.injEq, List.not_mem_nil, or_false] at this
        omega
    · cases e : wIn wSc c (i + 1) with
      | false => rfl
      | true =>
        have := wIn_mem.mp e
        simp only [List.mem_cons, Prod.mk.injEq, List.not_mem_nil, or_false] at this
        omega
  refine ⟨n, D, U, ⟨hn, hDU⟩, (o _ _ (by omega)).trans h0, (f.1 81 3 (by decide) (by decide)).trans h3, h9, fun S hS => st_t (fun c i h => o c i (by omega)) (by omega) (hs S hS), ⟨(o _ _ (by omega)).trans c1, (o _ _ (by omega)).trans c2, (f.1 81 12 (by decide) (by decide)).trans c3, (f.1 81 13 (by decide) (by decide)).trans c4⟩, fun i hi => ch_t (fun c j h => o c j (by omega)) (hch i hi)⟩
theorem RSt_9 (q : RSt mu) : mu 81 9 = 0 := by
  obtain ⟨n, hn, h0, h3, h9, hs⟩ := q
  exact h9
theorem screwsS (hg : gOk ivG mu) (hr : rOk ro) (hj : JB mu la ro) (q : RTS mu la ro) : ∃ (x : Int32) (mu2 : Mu), Rr X (d + 4) MTo_screws 0 [.ref 0, .int s, .int w, .int v, mkU] [] (Wd mu la ro et) = some (some (.int x), Wd mu la ro et) ∧ Rr X (d + 4) MRm_screws 0 [.ref 81, .int s, .int w, .int v] [] (Wd mu la ro et) = some (some (.int x), Wd mu2 la ro et) ∧ gOk ivG mu2 ∧ JB mu2 la ro ∧ RTS mu2 la ro ∧ frm wSc mu la ro mu2 la ro := by
  obtain ⟨x, mu2, e1, e2, g, j, t, f⟩ := screws_all (X := X) (d := d) (la := la) (et := et) (s := s) (w := w) (v := v) hg hr hj (RSC_R q.2)
  exact ⟨x, mu2, e1, e2, g, j, ⟨RTN_f wd7 f q.1, RSC_sc f (RSt_9 t) q.2⟩, f⟩
theorem lightestS (hg : gOk ivG mu) (hr : rOk ro) (hj : JB mu la ro) (q : RTS mu la ro) : ∃ (x : Int32) (mu2 : Mu), Rr X (d + 4) MTo_lightest 0 [.ref 0, .int s, .int v, mkU, mkU] [] (Wd mu la ro et) = some (some (.int x), Wd mu la ro et) ∧ Rr X (d + 4) MRm_lightest 0 [.ref 81, .int s, .int v, mkU] [] (Wd mu la ro et) = some (some (.int x), Wd mu2 la ro et) ∧ gOk ivG mu2 ∧ JB mu2 la ro ∧ RTS mu2 la ro ∧ frm wSc mu la ro mu2 la ro := by
  obtain ⟨x, mu2, e1, e2, g, j, t, f⟩ := lightest_all (X := X) (d := d) (la := la) (et := et) (s := s) (v := v) hg hr hj (RSC_R q.2)
  exact ⟨x, mu2, e1, e2, g, j, ⟨RTN_f wd7 f q.1, RSC_sc f (RSt_9 t) q.2⟩, f⟩
end
