-- ===== goings: what is kept, call by call
def RKp (mu : Mu) : Prop := ∃ o, KcO mu o ∧ KmO mu o
def RGo (mu : Mu) (la : La) (ro : Ro) : Prop := RMo mu la ro ∧ RKp mu
abbrev dKc : WS := [(7, 4), (7, 5), (7, 6), (7, 7), (7, 8), (7, 9), (8, 0), (9, 0), (10, 0)]
abbrev dKm : WS := [(81, 40), (81, 41), (81, 42), (81, 43), (99, 0), (100, 0), (101, 0)]
abbrev dKp : WS := dKc ++ dKm
abbrev dGo : WS := dMo ++ dKp
section
variable {X : Tok} {d : Nat} {mu mu1 mu2 mu' : Mu} {la la1 la2 la' : La} {ro ro1 ro2 ro' : Ro} {et : Nat → Option va_E} {g s w c z t x1 x2 k : Int32} {o : Option (Nat × (Nat → Nat → Int32))} {hp : Hp}
theorem KcO_f {v : WS} (h : wDis v dKc = true) (f : frm v mu la ro mu' la' ro') (q : KcO mu o) : KcO mu' o := by
  refine KcO_k (fun j h1 h2 => ?_) (fun c t h1 h2 => ?_) q
  · have : j = 3 ∨ j = 4 ∨ j = 5 ∨ j = 6 ∨ j = 7 ∨ j = 8 := by omega
    rcases this with rfl | rfl | rfl | rfl | rfl | rfl <;> exact dis_f h f (by decide) (by decide)
  · have : c = 8 ∨ c = 9 ∨ c = 10 := by omega
    rcases this with rfl | rfl | rfl <;> exact dis_r h f (by decide) (by decide)
theorem KmO_f {v : WS} (h : wDis v dKm = true) (f : frm v mu la ro mu' la' ro') (q : KmO mu o) : KmO mu' o := by
  refine KmO_k (fun j h1 h2 => ?_) (fun c t h1 h2 => ?_) q
  · have : j = 39 ∨ j = 40 ∨ j = 41 ∨ j = 42 := by omega
    rcases this with rfl | rfl | rfl | rfl <;> exact dis_f h f (by decide) (by decide)
  · have : c = 99 ∨ c = 100 ∨ c = 101 := by omega
    rcases this with rfl | rfl | rfl <;> exact dis_r h f (by decide) (by decide)
theorem RKp_f {v : WS} (h : wDis v dKp = true) (f : frm v mu la ro mu' la' ro') (q : RKp mu) : RKp mu' := by
  obtain ⟨o, q1, q2⟩ := q
  exact ⟨o, KcO_f (wDis_l h).1 f q1, KmO_f (wDis_l h).2 f q2⟩
theorem RGo_f {v : WS} (h : wDis v dGo = true) (f : frm v mu la ro mu' la' ro') (q : RGo mu la ro) : RGo mu' la' ro' := ⟨RMo_f (wDis_l h).1 f q.1, RKp_f (wDis_l h).2 f q.2⟩
theorem det_x {r : Res} {v v' : Option Value} {w w' : Hp} (h1 : r = some (v, w)) (h2 : r = some (v', w')) : v = v' ∧ w = w' := by
  rw [h1] at h2
  cases h2
  exact ⟨rfl, rfl⟩
theorem floorM (hg : gOk ivG mu) (hr : rOk ro) (hj : JB mu la ro) (q : RMo mu la ro) : ∃ (mu1 mu2 : Mu) (x : Int32), Rr X (d + 71) MTo_floor 0 [.ref 0, mkU] [] (Wd mu la ro et) = some (some (.int x), Wd mu1 la ro et) ∧ Rr X (d + 71) MRm_floor 0 [.ref 81, mkU] [] (Wd mu1 la ro et) = some (some (.int x), Wd mu2 la ro et) ∧ gOk ivG mu2 ∧ JB mu2 la ro ∧ RMo mu2 la ro ∧ frm (wFlC ++ wFl) mu la ro mu2 la ro := by
  obtain ⟨⟨⟨hR, _, S, hS, s0, s3⟩, hsc⟩, F, hF, f0, f29, hfs⟩ := q
  obtain ⟨mu1, mu2, x, e1, e2, g, j, ⟨t1, F', hF', a0, a29, t2⟩, f⟩ := floor_all (X := X) (d := d) (la := la) (et := et) hg hr hj ⟨hR, F, hF, f0, f29, hfs⟩
  have h : wDis (wFlC ++ wFl) [(0, 10), (81, 4)] = true := by decide +kernel
  exact ⟨mu1, mu2, x, e1, e2, g, j, ⟨⟨⟨t1, ⟨F', hF', a0, a29⟩, S, hS, (dis_f h f (by decide) (by decide)).trans s0, (dis_f h f (by decide) (by decide)).trans s3⟩, RSC_f (by decide +kernel) f hsc⟩, F', hF', a0, a29, t2⟩, f⟩
theorem even_A (hr : rOk ro) (q : RMo mu la ro) (w1 : Rr X (d + 7) MTo_even 0 [.ref 0, .int g, .int s, .int w, .int c, mkU] [] (Wd mu la ro et) = some (some (.int x1), Wd mu1 la1 ro1 et)) : ∀ n LS, n ≤ 4 → mu 0 10 = nI n → AllC mu LS n → AllC mu1 LS n := fun n LS hn h0 hA => by
  obtain ⟨N, hN, h9, _⟩ := RMo_N q
  obtain ⟨x', m', ro', E, A', _⟩ := even_b (X := X) (d := d) (la := la) (et := et) hr hN hn h9 h0 hA
  exact AllC_W (det_x E w1).2 hn A'
theorem even_q (hr : rOk ro) (hj : JB mu la ro) (q : RMo mu la ro) {v : WS} (hv : wDis v dMc = true) (f : frm v mu la ro mu1 la1 ro1) (w1 : Rr X (d + 7) MTo_even 0 [.ref 0, .int g, .int s, .int w, .int c, mkU] [] (Wd mu la ro et) = some (some (.int x1), Wd mu1 la1 ro1 et)) (w2 : Rr X (d + 7) MRm_even 0 [.ref 81, .int g, .int s, .int w, .int c] [] (Wd mu1 la1 ro1 et) = some (some (.int x2), hp)) : x1 = x2 := by
  obtain ⟨N, n, LS, hN, hn, h9, h0, hA, hM⟩ := Md_of q hj hv f
  obtain ⟨x', m', ro', E, A', M⟩ := even_b (X := X) (d := d) (la := la) (et := et) hr hN hn h9 h0 hA
  obtain ⟨mM', E2⟩ := M mu1 la1 ro1 hM
  have a := (det_x E w1).1
  have b := (det_x E2 w2).1
  cases a
  cases b
  rfl
theorem pressed_A (hr : rOk ro) (q : RMo mu la ro) (w1 : Rr X (d + 7) MTo_pressed 0 [.ref 0, .int g, .int w] [] (Wd mu la ro et) = some (some (.int x1), Wd mu1 la1 ro1 et)) : ∀ n LS, n ≤ 4 → mu 0 10 = nI n → AllC mu LS n → AllC mu1 LS n := fun n LS hn h0 hA => by
  obtain ⟨N, hN, h9, _⟩ := RMo_N q
  obtain ⟨x', m', ro', E, A', _⟩ := pressed_b (X := X) (d := d) (la := la) (et := et) hr hN hn h9 h0 hA
  exact AllC_W (det_x E w1).2 hn A'
theorem pressed_q (hr : rOk ro) (hj : JB mu la ro) (q : RMo mu la ro) {v : WS} (hv : wDis v dMc = true) (f : frm v mu la ro mu1 la1 ro1) (w1 : Rr X (d + 7) MTo_pressed 0 [.ref 0, .int g, .int w] [] (Wd mu la ro et) = some (some (.int x1), Wd mu1 la1 ro1 et)) (w2 : Rr X (d + 7) MRm_pressed 0 [.ref 81, .int g, .int w, mkU, mkU, mkU] [] (Wd mu1 la1 ro1 et) = some (some (.int x2), hp)) : x1 = x2 := by
  obtain ⟨N, n, LS, hN, hn, h9, h0, hA, hM⟩ := Md_of q hj hv f
  obtain ⟨x', m', ro', E, A', M⟩ := pressed_b (X := X) (d := d) (la := la) (et := et) hr hN hn h9 h0 hA
  obtain ⟨mM', E2⟩ := M mu1 la1 ro1 hM
  have a := (det_x E w1).1
  have b := (det_x E2 w2).1
  cases a
  cases b
  rfl
theorem seen_A (hr : rOk ro) (q : RMo mu la ro) (w1 : Rr X (d + 7) MTo_seen 0 [.ref 0, .int g, .int s, .int w, mkU] [] (Wd mu la ro et) = some (some (.int x1), Wd mu1 la1 ro1 et)) : ∀ n LS, n ≤ 4 → mu 0 10 = nI n → AllC mu LS n → AllC mu1 LS n := fun n LS hn h0 hA => by
  obtain ⟨N, hN, h9, _⟩ := RMo_N q
  obtain ⟨x', m', ro', E, A', _⟩ := seen_b (X := X) (d := d) (la := la) (et := et) hr hN hn h9 h0 hA
  exact AllC_W (det_x E w1).2 hn A'
theorem seen_q (hr : rOk ro) (hj : JB mu la ro) (q : RMo mu la ro) {v : WS} (hv : wDis v dMc = true) (f : frm v mu la ro mu1 la1 ro1) (w1 : Rr X (d + 7) MTo_seen 0 [.ref 0, .int g, .int s, .int w, mkU] [] (Wd mu la ro et) = some (some (.int x1), Wd mu1 la1 ro1 et)) (w2 : Rr X (d + 7) MRm_seen 0 [.ref 81, .int g, .int s, .int w, mkU] [] (Wd mu1 la1 ro1 et) = some (some (.int x2), hp)) : x1 = x2 := by
  obtain ⟨N, n, LS, hN, hn, h9, h0, hA, hM⟩ := Md_of q hj hv f
  obtain ⟨x', m', ro', E, A', M⟩ := seen_b (X := X) (d := d) (la := la) (et := et) hr hN hn h9 h0 hA
  obtain ⟨mM', E2⟩ := M mu1 la1 ro1 hM
  have a := (det_x E w1).1
  have b := (det_x E2 w2).1
  cases a
  cases b
  rfl
theorem soonest_A (hr : rOk ro) (q : RMo mu la ro) (w1 : Rr X (d + 7) MTo_soonest 0 [.ref 0, .int g, .int s, .int w, .int c, mkU, mkU, mkU, mkU] [] (Wd mu la ro et) = some (some (.int x1), Wd mu1 la1 ro1 et)) : ∀ n LS, n ≤ 4 → mu 0 10 = nI n → AllC mu LS n → AllC mu1 LS n := fun n LS hn h0 hA => by
  obtain ⟨N, hN, h9, _⟩ := RMo_N q
  obtain ⟨x', m', ro', E, A', _⟩ := soonest_b (X := X) (d := d) (la := la) (et := et) hr hN hn h9 h0 hA
  exact AllC_W (det_x E w1).2 hn A'
theorem soonest_q (hr : rOk ro) (hj : JB mu la ro) (q : RMo mu la ro) {v : WS} (hv : wDis v dMc = true) (f : frm v mu la ro mu1 la1 ro1) (w1 : Rr X (d + 7) MTo_soonest 0 [.ref 0, .int g, .int s, .int w, .int c, mkU, mkU, mkU, mkU] [] (Wd mu la ro et) = some (some (.int x1), Wd mu1 la1 ro1 et)) (w2 : Rr X (d + 7) MRm_soonest 0 [.ref 81, .int g, .int s, .int w, .int c, mkU, mkU, mkU] [] (Wd mu1 la1 ro1 et) = some (some (.int x2), hp)) : x1 = x2 := by
  obtain ⟨N, n, LS, hN, hn, h9, h0, hA, hM⟩ := Md_of q hj hv f
  obtain ⟨x', m', ro', E, A', M⟩ := soonest_b (X := X) (d := d) (la := la) (et := et) hr hN hn h9 h0 hA
  obtain ⟨mM', E2⟩ := M mu1 la1 ro1 hM
  have a := (det_x E w1).1
  have b := (det_x E2 w2).1
  cases a
  cases b
  rfl
theorem hands_A (hr : rOk ro) (q : RMo mu la ro) (w1 : Rr X (d + 7) MTo_hands 0 [.ref 0, .int g, .int z, .int c, mkU, mkU, mkU, mkU, mkU, mkU] [] (Wd mu la ro et) = some (some (.int x1), Wd mu1 la1 ro1 et)) : ∀ n LS, n ≤ 4 → mu 0 10 = nI n → AllC mu LS n → AllC mu1 LS n := fun n LS hn h0 hA => by
  obtain ⟨N, hN, h9, _⟩ := RMo_N q
  obtain ⟨x', m', ro', E, A', _⟩ := hands_b (X := X) (d := d) (la := la) (et := et) hr hN hn h9 h0 hA
  exact AllC_W (det_x E w1).2 hn A'
theorem hands_q (hr : rOk ro) (hj : JB mu la ro) (q : RMo mu la ro) {v : WS} (hv : wDis v dMc = true) (f : frm v mu la ro mu1 la1 ro1) (w1 : Rr X (d + 7) MTo_hands 0 [.ref 0, .int g, .int z, .int c, mkU, mkU, mkU, mkU, mkU, mkU] [] (Wd mu la ro et) = some (some (.int x1), Wd mu1 la1 ro1 et)) (w2 : Rr X (d + 7) MRm_hands 0 [.ref 81, .int g, .int z, .int c, mkU, mkU, mkU, mkU, mkU] [] (Wd mu1 la1 ro1 et) = some (some (.int x2), hp)) : x1 = x2 := by
  obtain ⟨N, n, LS, hN, hn, h9, h0, hA, hM⟩ := Md_of q hj hv f
  obtain ⟨x', m', ro', E, A', M⟩ := hands_b (X := X) (d := d) (la := la) (et := et) hr hN hn h9 h0 hA
  obtain ⟨mM', E2⟩ := M mu1 la1 ro1 hM
  have a := (det_x E w1).1
  have b := (det_x E2 w2).1
  cases a
  cases b
  rfl
theorem roll_A (hr : rOk ro) (q : RMo mu la ro) (w1 : Rr X (d + 6) MTo_roll 0 [.ref 0, .int g, .int s, .int w, .int t] [] (Wd mu la ro et) = some (some (.int x1), Wd mu1 la1 ro1 et)) : ∀ n LS, n ≤ 4 → mu 0 10 = nI n → AllC mu LS n → AllC mu1 LS n := fun n LS hn h0 hA => by
  obtain ⟨N, hN, h9, _⟩ := RMo_N q
  obtain ⟨x', m', ro', u, E, A', _, _⟩ := roll_b (X := X) (d := d) (la := la) (et := et) hr hN hn h9 h0 hA
  exact AllC_W (det_x E w1).2 hn A'
theorem roll_q (hr : rOk ro) (hj : JB mu la ro) (q : RMo mu la ro) {v : WS} (hv : wDis v dMc = true) (f : frm v mu la ro mu1 la1 ro1) (w1 : Rr X (d + 6) MTo_roll 0 [.ref 0, .int g, .int s, .int w, .int t] [] (Wd mu la ro et) = some (some (.int x1), Wd mu1 la1 ro1 et)) (w2 : Rr X (d + 6) MRm_roll 0 [.ref 81, .int g, .int s, .int w, .int t, mkU, mkU] [] (Wd mu1 la1 ro1 et) = some (some (.int x2), hp)) : x1 = x2 := by
  obtain ⟨N, n, LS, hN, hn, h9, h0, hA, hM⟩ := Md_of q hj hv f
  obtain ⟨x', m', ro', u, E, A', _, M⟩ := roll_b (X := X) (d := d) (la := la) (et := et) hr hN hn h9 h0 hA
  obtain ⟨mM', E2, _⟩ := M mu1 la1 ro1 hM
  have a := (det_x E w1).1
  have b := (det_x E2 w2).1
  cases a
  cases b
  rfl
theorem roll_K (hr : rOk ro) (hj : JB mu la ro) (q : RMo mu la ro) {v v2 : WS} (hv : wDis v dMc = true) (hv1 : wDis v dKm = true) (f : frm v mu la ro mu1 la1 ro1) (hv2 : wDis v2 dKc = true) (f2 : frm v2 mu1 la1 ro1 mu2 la2 ro2) (w1 : Rr X (d + 6) MTo_roll 0 [.ref 0, .int g, .int s, .int w, .int t] [] (Wd mu la ro et) = some (some (.int x1), Wd mu1 la1 ro1 et)) (w2 : Rr X (d + 6) MRm_roll 0 [.ref 81, .int g, .int s, .int w, .int t, mkU, mkU] [] (Wd mu1 la1 ro1 et) = some (some (.int x2), Wd mu2 la2 ro2 et)) (p : RKp mu) : RKp mu2 := by
  obtain ⟨N, n, LS, hN, hn, h9, h0, hA, hM⟩ := Md_of q hj hv f
  obtain ⟨x', m', ro', u, E, A', K, M⟩ := roll_b (X := X) (d := d) (la := la) (et := et) (g := g) (s := s) (w := w) (t := t) hr hN hn h9 h0 hA
  obtain ⟨mM', E2, K2⟩ := M mu1 la1 ro1 hM
  obtain ⟨o, p1, p2⟩ := p
  exact ⟨u.or o, KcO_f hv2 f2 (KcO_W (det_x E w1).2 (K o p1)), KmO_W (det_x E2 w2).2 (K2 o (KmO_f hv1 f p2))⟩
theorem off_A (hr : rOk ro) (q : RMo mu la ro) (w1 : Rr X (d + 7) MTo_off 0 [.ref 0, .int g, .int w, .int k] [] (Wd mu la ro et) = some (some (.int x1), Wd mu1 la1 ro1 et)) : ∀ n LS, n ≤ 4 → mu 0 10 = nI n → AllC mu LS n → AllC mu1 LS n := fun n LS hn h0 hA => by
  obtain ⟨N, hN, h9, _⟩ := RMo_N q
  obtain ⟨x', m', ro', E, A'⟩ := off_c (X := X) (d := d) (la := la) (et := et) hr hN hn h9 h0 hA
  exact AllC_W (det_x E w1).2 hn A'
theorem shape_A (hr : rOk ro) (q : RMo mu la ro) (w1 : Rr X (d + 7) MTo_shape 0 [.ref 0, .int g, .int w, .int c, mkU, mkU, mkU, mkU] [] (Wd mu la ro et) = some (some (.int x1), Wd mu1 la1 ro1 et)) : ∀ n LS, n ≤ 4 → mu 0 10 = nI n → AllC mu LS n → AllC mu1 LS n := fun n LS hn h0 hA => by
  obtain ⟨N, hN, h9, _⟩ := RMo_N q
  obtain ⟨x', m', ro', E, A'⟩ := shape_c (X := X) (d := d) (la := la) (et := et) hr hN hn h9 h0 hA
  exact AllC_W (det_x E w1).2 hn A'
theorem span_A (hr : rOk ro) (q : RMo mu la ro) (w1 : Rr X (d + 7) MTo_span 0 [.ref 0, .int g, .int w, .int c, mkU, mkU] [] (Wd mu la ro et) = some (some (.int x1), Wd mu1 la1 ro1 et)) : ∀ n LS, n ≤ 4 → mu 0 10 = nI n → AllC mu LS n → AllC mu1 LS n := fun n LS hn h0 hA => by
  obtain ⟨N, hN, h9, _⟩ := RMo_N q
  obtain ⟨x', m', ro', E, A'⟩ := span_c (X := X) (d := d) (la := la) (et := et) hr hN hn h9 h0 hA
  exact AllC_W (det_x E w1).2 hn A'
theorem which_A (hr : rOk ro) (q : RMo mu la ro) (w1 : Rr X (d + 7) MTo_which 0 [.ref 0, .int g, .int w, mkU, mkU, mkU, mkU, mkU, mkU] [] (Wd mu la ro et) = some (some (.int x1), Wd mu1 la1 ro1 et)) : ∀ n LS, n ≤ 4 → mu 0 10 = nI n → AllC mu LS n → AllC mu1 LS n := fun n LS hn h0 hA => by
  obtain ⟨N, hN, h9, _⟩ := RMo_N q
  obtain ⟨x', m', ro', E, A'⟩ := which_c (X := X) (d := d) (la := la) (et := et) hr hN hn h9 h0 hA
  exact AllC_W (det_x E w1).2 hn A'
end
