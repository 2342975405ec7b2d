-- ===== tapes, and how many stones and floors there are: the same on both sides
def RTN (mu : Mu) (_ : La) (_ : Ro) : Prop := RT mu ∧ (∃ F, F ≤ 4 ∧ mu 0 10 = nI F ∧ mu 81 29 = nI F) ∧ ∃ S, S ≤ 6 ∧ mu 0 9 = nI S ∧ mu 81 3 = nI S
abbrev dTN : WS := [(1, 2), (81, 3), (2, 0), (82, 0), (0, 11), (81, 30), (0, 10), (81, 4)]
section
variable {X : Tok} {d : Nat} {mu mu' : Mu} {la la' : La} {ro ro' : Ro} {et : Nat → Option va_E} {n v : Int32} {S F : Nat}
theorem RT_0 (h1 : mu 1 1 = 0) (h2 : mu 81 2 = 0) : RT mu := ⟨0, by omega, h1, h2, fun i hi => absurd hi (by omega)⟩
theorem RT_f {w : WS} (h : wDis w dTN = true) (f : frm w mu la ro mu' la' ro') (q : RT mu) : RT mu' := by
  obtain ⟨T, t1, t2, t3, t4⟩ := q
  have e2 : ∀ i, mu' 2 i = mu 2 i := fun i => dis_r h f (by decide) (by decide)
  have e82 : ∀ i, mu' 82 i = mu 82 i := fun i => dis_r h f (by decide) (by decide)
  refine ⟨T, t1, (dis_f h f (by decide) (by decide)).trans t2, (dis_f h f (by decide) (by decide)).trans t3, fun i hi => ?_⟩
  rw [e2, e82]
  exact t4 i hi
theorem RTN_f {w : WS} (h : wDis w dTN = true) (f : frm w mu la ro mu' la' ro') (q : RTN mu la ro) : RTN mu' la' ro' := by
  obtain ⟨hR, ⟨F, hF, f1, f2⟩, S, hS, h0, h3⟩ := q
  exact ⟨RT_f h f hR, ⟨F, hF, (dis_f h f (by decide) (by decide)).trans f1, (dis_f h f (by decide) (by decide)).trans f2⟩, S, hS, (dis_f h f (by decide) (by decide)).trans h0, (dis_f h f (by decide) (by decide)).trans h3⟩
theorem feedN (hg : gOk ivG mu) (hj : JB mu la ro) (q : RTN mu la ro) : ∃ (mu1 mu2 : Mu) (x : Int32), Rr X (d + 1) MTo_feed 0 [.ref 0, .int n, .int v, mkU] [] (Wd mu la ro et) = some (some (.int x), Wd mu1 la ro et) ∧ Rr X (d + 1) MRm_feed 0 [.ref 81, .int n, .int v, mkU] [] (Wd mu1 la ro et) = some (some (.int x), Wd mu2 la ro et) ∧ gOk ivG mu2 ∧ JB mu2 la ro ∧ RTN mu2 la ro ∧ frm (wFdC ++ wFdM) mu la ro mu2 la ro := by
  obtain ⟨hR, ⟨F, hF, f1, f2⟩, S, hS, h0, h3⟩ := q
  obtain ⟨mu1, mu2, x, e1, e2, g, j, q, f⟩ := feed_all (X := X) (d := d) (la := la) (ro := ro) (et := et) (n := n) (v := v) hg hj hR
  have h : wDis (wFdC ++ wFdM) [(0, 11), (81, 30), (0, 10), (81, 4)] = true := by decide
  exact ⟨mu1, mu2, x, e1, e2, g, j, ⟨q, ⟨F, hF, (dis_f h f (by decide) (by decide)).trans f1, (dis_f h f (by decide) (by decide)).trans f2⟩, S, hS, (dis_f h f (by decide) (by decide)).trans h0, (dis_f h f (by decide) (by decide)).trans h3⟩, f⟩
theorem wd1 : wDis wStC (DJ ++ [(81, 3), (82, 0), (81, 4), (0, 11), (81, 30)]) = true := by decide +kernel
theorem wd2 : wDis wStM (DJ ++ [(1, 2), (0, 10), (0, 11), (81, 30)]) = true := by decide +kernel
theorem wd3 : wDis wFlC (DJ ++ [(81, 3), (82, 0), (81, 30), (0, 10), (81, 4)]) = true := by decide +kernel
theorem wd4 : wDis wFl [(1, 2), (0, 10), (0, 11), (81, 4), (81, 13), (81, 14), (81, 48), (88, 0), (89, 0), (90, 0), (91, 0), (102, 0), (103, 0)] = true := by decide +kernel
theorem snM_2 (h : S < 6) : snM mu S 81 2 = 0 := by
  unfold snM
  rw [if_neg (by omega)]
  split
  · rw [up2_k (by decide), up2_s]
  · rw [up2_s]
theorem snM_3 (h : S < 6) (h3 : mu 81 3 = nI S) : snM mu S 81 3 = if noS (stEnd mu) = true then nI (S + 1) else nI S := by
  unfold snM
  rw [if_neg (by omega)]
  split
  · rw [up2_s]
  · have a1 : ∀ (W : List Lp) (L : Nat) (m : Mu), lmsM m S L W 81 3 = m 81 3 := by
      intro W
      induction W with
      | nil => intro L m; rfl
      | cons x W ih =>
        intro L m
        rw [lmsM, ih]
        unfold lmM
        rw [up2_a (by decide), up2_a (by decide), up2_a (by decide), up2_a (by decide)]
    rw [up2_k (by decide), qm_81 (by decide) (by decide)]
    unfold srM rtM4
    rw [up2_a (by decide), up2_a (by decide), up2_a (by decide), up2_a (by decide), a1, up2_a (by decide)]
    exact h3
set_option maxHeartbeats 2000000 in
/-- stone on both sides: one answer; what both leave -/
theorem stone_bo (hg : gOk ivG mu) (hr : rOk ro) (hj : JB mu la ro) (hR : RT mu) (hS : S ≤ 6) (h0 : mu 0 9 = nI S) (h3 : mu 81 3 = nI S) : ∃ (mu1 : Mu) (x : Int32), Rr X (d + 5) MTo_stone 0 [.ref 0, mkU] [] (Wd mu la ro et) = some (some (.int x), Wd mu1 la ro et) ∧ Rr X (d + 5) MRm_stone 0 [.ref 81, mkU, mkU] [] (Wd mu1 la ro et) = some (some (.int x), Wd (snM mu1 S) la ro et) ∧ gOk ivG (snM mu1 S) ∧ JB (snM mu1 S) la ro ∧ frm wStC mu la ro mu1 la ro ∧ frm wStM mu1 la ro (snM mu1 S) la ro ∧ (S = 6 → snM mu1 S = mu) ∧ (S < 6 → snM mu1 S 1 1 = 0 ∧ snM mu1 S 81 2 = 0 ∧ (snM mu1 S 0 9 = if noS (stEnd mu) = true then nI (S + 1) else nI S) ∧ (snM mu1 S 81 3 = if noS (stEnd mu) = true then nI (S + 1) else nI S) ∧ (∀ c j, (19 ≤ c ∧ c < 19 + 5 * S) → mu1 c j = mu c j) ∧ stEnd mu1 = stEnd mu ∧ stW mu1 = stW mu ∧ stZ mu1 = stZ mu ∧ bt mu1 = bt mu ∧ (noS (stEnd mu) = true → ∀ c j, 19 + 5 * S ≤ c → c ≤ 19 + 5 * S + 4 → mu1 c j = stC mu (19 + 5 * S) c j)) := by
  obtain ⟨mu1, e1, g1, fr1, k1, k2⟩ := e_stoneC (X := X) (d := d) (la := la) (et := et) hg hr hR hS h0
  have j1 : JB mu1 la ro := JS_B wStC (wDis_s (by decide) wd1) _ _ _ _ _ _ fr1 hj
  have m2 : mu1 81 2 = mu 81 2 := dis_f wd1 fr1 (by decide) (by decide)
  have m82 : ∀ j, mu1 82 j = mu 82 j := fun j => dis_r wd1 fr1 (by decide) (by decide)
  have m3 : mu1 81 3 = nI S := (dis_f wd1 fr1 (by decide) (by decide)).trans h3
  have eb := bt_f m2 m82
  have eT := Tt_f m2
  obtain ⟨mu2, e2, em⟩ := e_stoneM (X := X) (d := d + 1) (la := la) (ro := ro) (et := et) g1 hS m3
  have em2 : mu2 = snM mu1 S := em
  subst em2
  have eE := stEnd_c eb eT
  rw [eE] at e2
  have f2 := snM_fr (m := mu1) (la := la) (ro := ro) (S := S)
  refine ⟨mu1, _, e1, e2, snM_g g1 hS, JS_B wStM (wDis_s (by decide) wd2) _ _ _ _ _ _ f2 j1, fr1, f2, fun q => ?_, fun q => ?_⟩
  · unfold snM
    rw [if_pos q]
    exact k1 q
  · obtain ⟨b1, b2, b3, b4⟩ := k2 q
    have c3 := snM_3 q m3
    rw [eE] at c3
    exact ⟨(dis_f wd2 f2 (by decide) (by decide)).trans b1, snM_2 q, (dis_f wd2 f2 (by decide) (by decide)).trans b2, c3, b3, eE, stW_c eb, stZ_c eb, eb, b4⟩
theorem stoneN (hg : gOk ivG mu) (hr : rOk ro) (hj : JB mu la ro) (q : RTN mu la ro) : ∃ (mu1 mu2 : Mu) (x : Int32), Rr X (d + 5) MTo_stone 0 [.ref 0, mkU] [] (Wd mu la ro et) = some (some (.int x), Wd mu1 la ro et) ∧ Rr X (d + 5) MRm_stone 0 [.ref 81, mkU, mkU] [] (Wd mu1 la ro et) = some (some (.int x), Wd mu2 la ro et) ∧ gOk ivG mu2 ∧ JB mu2 la ro ∧ RTN mu2 la ro ∧ frm (wStC ++ wStM) mu la ro mu2 la ro := by
  obtain ⟨hR, ⟨F, hF, f1, f2⟩, S, hS, h0, h3⟩ := q
  obtain ⟨mu1, x, e1, e2, g2, j2, fr1, fr2, k1, k2⟩ := stone_bo (X := X) (d := d) (la := la) (et := et) hg hr hj hR hS h0 h3
  have fr : frm (wStC ++ wStM) mu la ro (snM mu1 S) la ro := frm_t (frm_s (by decide +kernel) fr1) (frm_s (by decide +kernel) fr2)
  refine ⟨mu1, _, x, e1, e2, g2, j2, ?_, fr⟩
  by_cases c : S = 6
  · rw [k1 c]
    exact ⟨hR, ⟨F, hF, f1, f2⟩, S, hS, h0, h3⟩
  · obtain ⟨b1, b2, b3, b4, _⟩ := k2 (by omega)
    refine ⟨RT_0 b1 b2, ⟨F, hF, ((dis_f wd2 fr2 (by decide) (by decide)).trans (dis_f wd1 fr1 (by decide) (by decide))).trans f1, ((dis_f wd2 fr2 (by decide) (by decide)).trans (dis_f wd1 fr1 (by decide) (by decide))).trans f2⟩, ?_⟩
    by_cases q : noS (stEnd mu) = true
    · rw [if_pos q] at b3 b4
      exact ⟨S + 1, by omega, b3, b4⟩
    · rw [if_neg q] at b3 b4
      exact ⟨S, hS, b3, b4⟩
set_option maxHeartbeats 2000000 in
theorem floorN (hg : gOk ivG mu) (hr : rOk ro) (hj : JB mu la ro) (q : RTN mu la ro) : ∃ (mu1 mu2 : Mu) (x : Int32), Rr X (d + 71) MTo_floor 0 [.ref 0, mkU] [] (Wd mu la ro et) = some (some (.int x), Wd mu1 la ro et) ∧ Rr X (d + 71) MRm_floor 0 [.ref 81, mkU] [] (Wd mu1 la ro et) = some (some (.int x), Wd mu2 la ro et) ∧ gOk ivG mu2 ∧ JB mu2 la ro ∧ RTN mu2 la ro ∧ frm (wFlC ++ wFl) mu la ro mu2 la ro := by
  obtain ⟨hR, ⟨F, hF, h0, h29⟩, S, hS, s0, s3⟩ := q
  obtain ⟨mu1, e1, g1, f1, k1, k2⟩ := e_floorC (X := X) (d := d) (la := la) (et := et) hg hr hR hF h0
  have j1 : JB mu1 la ro := JS_B wFlC (wDis_s (by decide) wd3) _ _ _ _ _ _ f1 hj
  have m2 : mu1 81 2 = mu 81 2 := dis_f wd3 f1 (by decide) (by decide)
  have m82 : ∀ j, mu1 82 j = mu 82 j := fun j => dis_r wd3 f1 (by decide) (by decide)
  have m29 : mu1 81 29 = nI F := (dis_f wd3 f1 (by decide) (by decide)).trans h29
  have er : rtS mu1 = rtS mu := rtS_c (bt_f m2 m82) (Tt_f m2)
  obtain ⟨a1, a2, a3⟩ := fl_key (la := la) (ro := ro) g1 j1.2.2
  have e2 := e_floor (X := X) (d := d + 17) (la := la) (ro := ro) (et := et) g1
  have n4 : (nI F = 4) = (F = 4) := propext (nI_eq (b := 4) (by omega) (by omega))
  have ex : flR mu1 = (if F = 4 then -3 else if noF (rtS mu) = true then nI F else -100 - fI' (rtS mu).2.1) := by
    unfold flR
    rw [m29, er]
    simp only [n4]
  rw [ex] at e2
  refine ⟨mu1, flM mu1, _, e1, e2, a2, ⟨JFm_f (by decide) a1 j1.1, JCh_f (by decide) a1 j1.2.1, a3⟩, ?_, frm_t (frm_s (by decide) f1) (frm_s (by decide) a1)⟩
  have vS : flM mu1 0 9 = nI S ∧ flM mu1 81 3 = nI S := ⟨((dis_f wd4 a1 (by decide) (by decide)).trans (dis_f wd3 f1 (by decide) (by decide))).trans s0, ((dis_f wd4 a1 (by decide) (by decide)).trans (dis_f wd3 f1 (by decide) (by decide))).trans s3⟩
  by_cases c4 : F = 4
  · have ek := k1 c4
    subst ek
    have ef : flM mu1 = mu1 := by
      unfold flM
      rw [if_pos (by rw [m29, c4]; rfl)]
    rw [ef]
    exact ⟨hR, ⟨F, hF, h0, h29⟩, S, hS, s0, s3⟩
  · have hF4 : F < 4 := by omega
    obtain ⟨b1, b2, b3, b4⟩ := k2 hF4
    have cF : (nI F).toNatClampNeg = F := nI_clamp (by omega)
    have ef : flM mu1 = if noF (rtS mu) = true then up2 (rtM mu1 F) 81 29 (nI (F + 1)) else rtM mu1 F := by
      unfold flM
      rw [m29, if_neg (by rw [n4]; exact c4), er, cF, nI_1]
    have t4 : flM mu1 81 2 = 0 := by
      rw [ef]
      split
      · rw [up2_k (by decide)]; exact rtM_2
      · exact rtM_2
    have u11 : flM mu1 1 1 = 0 := (dis_f wd4 a1 (by decide) (by decide)).trans b1
    have u10 := (dis_f (a := 0) (k := 10) wd4 a1 (by decide) (by decide)).trans b2
    refine ⟨RT_0 u11 t4, ?_, S, hS, vS.1, vS.2⟩
    by_cases c : noF (rtS mu) = true
    · rw [if_pos c] at u10 ef
      exact ⟨F + 1, by omega, u10, by rw [ef]; exact up2_s _ _ _ _⟩
    · rw [if_neg c] at u10 ef
      have r29 : rtM mu1 F 81 29 = nI F := rtM_29.trans m29
      exact ⟨F, hF, u10, by rw [ef]; exact r29⟩
end
