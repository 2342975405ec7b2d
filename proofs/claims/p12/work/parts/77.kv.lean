-- ===== roll, both sides; the going that is kept: going, back, told
/-- the going that the class keeps; the model's -/
def KcO (m : Mu) (o : Option (Nat × (Nat → Nat → Int32))) : Prop := match o with
  | none => m 7 3 = -1
  | some (nt, P) => nt ≤ 400 ∧ m 7 3 = nI nt ∧ m 7 4 = nI (bkN (fun t => P t 7) nt) ∧ m 7 5 = suF (fun t => P t 7) nt ∧ m 7 6 = P nt 14 ∧ m 7 7 = P nt 15 ∧ m 7 8 = P nt 16 ∧ ∀ t, t ≤ nt → m 8 t = P t 7 ∧ m 9 t = P t 8 ∧ m 10 t = P t 9
def KmO (m : Mu) (o : Option (Nat × (Nat → Nat → Int32))) : Prop := match o with
  | none => m 81 39 = -1
  | some (nt, P) => m 81 39 = nI nt ∧ m 81 40 = P nt 14 ∧ m 81 41 = P nt 15 ∧ m 81 42 = P nt 16 ∧ ∀ t, t ≤ nt → m 99 t = P t 7 ∧ m 100 t = P t 8 ∧ m 101 t = P t 9
section
variable {X : Tok} {d : Nat} {mu mu1 m m' m0 mu' mM : Mu} {la la1 la' : La} {ro ro1 ro' : Ro} {et : Nat → Option va_E} {N n S r i j a b nt L : Nat} {g k x y z s pc ca cb cc cd w t fl c : Int32} {T T2 G : Nat → Int32} {f : Option Nat} {LS : Nat → List Ln} {P : Nat → Nat → Int32} {l2 l3 : Value} {o : Option (Nat × (Nat → Nat → Int32))}
theorem KcO_k (h1 : ∀ j, 3 ≤ j → j ≤ 8 → m' 7 j = m 7 j) (h2 : ∀ c t, 8 ≤ c → c ≤ 10 → m' c t = m c t) (q : KcO m o) : KcO m' o := by
  cases o with
  | none => exact (h1 3 (by omega) (by omega)).trans q
  | some p =>
    obtain ⟨nt, P⟩ := p
    obtain ⟨q0, q3, q4, q5, q6, q7, q8, qr⟩ := q
    refine ⟨q0, (h1 3 (by omega) (by omega)).trans q3, (h1 4 (by omega) (by omega)).trans q4, (h1 5 (by omega) (by omega)).trans q5, (h1 6 (by omega) (by omega)).trans q6, (h1 7 (by omega) (by omega)).trans q7, (h1 8 (by omega) (by omega)).trans q8, fun t ht => ?_⟩
    rw [h2 8 t (by omega) (by omega), h2 9 t (by omega) (by omega), h2 10 t (by omega) (by omega)]
    exact qr t ht
theorem KmO_k (h1 : ∀ j, 39 ≤ j → j ≤ 42 → m' 81 j = m 81 j) (h2 : ∀ c t, 99 ≤ c → c ≤ 101 → m' c t = m c t) (q : KmO m o) : KmO m' o := by
  cases o with
  | none => exact (h1 39 (by omega) (by omega)).trans q
  | some p =>
    obtain ⟨nt, P⟩ := p
    obtain ⟨q3, q6, q7, q8, qr⟩ := q
    refine ⟨(h1 39 (by omega) (by omega)).trans q3, (h1 40 (by omega) (by omega)).trans q6, (h1 41 (by omega) (by omega)).trans q7, (h1 42 (by omega) (by omega)).trans q8, fun t ht => ?_⟩
    rw [h2 99 t (by omega) (by omega), h2 100 t (by omega) (by omega), h2 101 t (by omega) (by omega)]
    exact qr t ht
theorem KcO_W (h : Wd mu la ro et = Wd mu' la' ro' et) (q : KcO mu o) : KcO mu' o := by
  refine KcO_k (fun j h1 h2 => ?_) (fun c t h1 h2 => ?_) q
  · have : j = 3 ∨ j = 4 ∨ j = 5 ∨ j = 6 ∨ j = 7 ∨ j = 8 := by omega
    rcases this with rfl | rfl | rfl | rfl | rfl | rfl <;> exact Wd_fld h (by decide) rfl rfl
  · have : c = 8 ∨ c = 9 ∨ c = 10 := by omega
    rcases this with rfl | rfl | rfl <;> exact congrFun (Wd_row h (by decide) rfl) t
theorem KmO_W (h : Wd mu la ro et = Wd mu' la' ro' et) (q : KmO mu o) : KmO mu' o := by
  refine KmO_k (fun j h1 h2 => ?_) (fun c t h1 h2 => ?_) q
  · have : j = 39 ∨ j = 40 ∨ j = 41 ∨ j = 42 := by omega
    rcases this with rfl | rfl | rfl | rfl <;> exact Wd_fld h (by decide) rfl rfl
  · have : c = 99 ∨ c = 100 ∨ c = 101 := by omega
    rcases this with rfl | rfl | rfl <;> exact congrFun (Wd_row h (by decide) rfl) t
set_option maxHeartbeats 1000000 in
theorem roll_b (hr : rOk ro) (hN : N ≤ 6) (hn : n ≤ 4) (h9 : m 0 9 = nI N) (h0 : m 0 10 = nI n) (hA : AllC m LS n) : ∃ (x : Int32) (m' : Mu) (ro' : Ro) (u : Option (Nat × (Nat → Nat → Int32))), Rr X (d + 6) MTo_roll 0 [.ref 0, .int g, .int s, .int w, .int t] [] (Wd m la ro et) = some (some (.int x), Wd m' la ro' et) ∧ AllC m' LS n ∧ (∀ o, KcO m o → KcO m' (u.or o)) ∧ ∀ (mM : Mu) (laM : La) (roM : Ro), MdOk m mM N n LS → ∃ mM' : Mu, Rr X (d + 6) MRm_roll 0 [.ref 81, .int g, .int s, .int w, .int t, mkU, mkU] [] (Wd mM laM roM et) = some (some (.int x), Wd mM' laM roM et) ∧ ∀ o, KmO mM o → KmO mM' (u.or o) := by
  by_cases h : roOk N n g s w t
  · obtain ⟨⟨S, r, hG⟩, hB, ht⟩ := h
    obtain ⟨nt, hnt, rfl⟩ := nn_le ht
    obtain ⟨m', eC, o', A', kr, k3, k4, k5, k6, k7, k8⟩ := e_rollC (X := X) (d := d) (la := la) (et := et) (LS := LS) hr hN hn h9 h0 hG hB hnt hA
    obtain ⟨P, hP⟩ : ∃ P, P = roP m S r LS (knC m (19 + 5 * S)) s w := ⟨_, rfl⟩
    rw [← hP] at eC kr k4 k5 k6 k7 k8
    have hPc := P_c (P := P) (s := s) (x := w / 1000) (y := w - w / 1000 * 1000) (z := 0) (k := knC m (19 + 5 * S)) (ca := m (19 + 5 * S + 4) 0) (cb := m (19 + 5 * S + 4) 1) (cc := m (19 + 5 * S + 4) 2) (cd := m (19 + 5 * S + 4) 3) (f := fR r) (LS := LS) (pc := 0) (by rw [hP]; rfl) (fun i => by rw [hP]; rfl) nt
    refine ⟨_, _, _, some (nt, P), eC, AllC_k (fun c j h1 h2 => mo_o (by omega)) hn A', fun o _ => ?_, fun mM laM roM hM => ?_⟩
    · show KcO _ (some (nt, P))
      refine KcO_k (m := m') (fun j h1 h2 => mo_o (by omega)) (fun c t h1 h2 => mo_o (by omega)) ?_
      exact ⟨hnt, k3, k4.trans hPc.2.1, k5.trans hPc.2.2, k6, k7, k8, kr⟩
    · obtain ⟨q3, q29, qA, qS⟩ := hM
      obtain ⟨⟨L, hL, hK⟩, hR, hRB⟩ := qS S hG.1
      obtain ⟨mM', eM, oM, kr, k39, k40, k41, k42⟩ := e_rollM (X := X) (d := d) (la := laM) (ro := roM) (et := et) (m := mM) (P := P) (LS := LS) hN hn q3 q29 hG hB hnt qA hR hRB hL hK (fun i => by rw [hP]; rfl)
      exact ⟨mM', eM, fun o _ => ⟨k39, k40, k41, k42, kr⟩⟩
  · have h' := ro_no h
    refine ⟨_, m, ro, none, e_rollC0 hr hN hn h9 h0 h', hA, fun o q => q, fun mM laM roM hM => ⟨mM, e_rollM0 hN hn hM.1 hM.2.1 h', fun o q => q⟩⟩
end
