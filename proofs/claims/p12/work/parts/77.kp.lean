-- ===== turns back, counted; what equal worlds share
/-- the latest sign; how often it turned back; the sum; the first tick at which it turned back (0: none) -/
noncomputable def sdF (f : Nat → Int32) : Nat → Int32
  | 0 => sgF (f 0)
  | t + 1 => if sgF (f (t + 1)) = 0 then sdF f t else sgF (f (t + 1))
noncomputable def bkN (f : Nat → Int32) : Nat → Nat
  | 0 => 0
  | t + 1 => if ¬ sgF (f (t + 1)) = 0 ∧ sgF (f (t + 1)) = -sdF f t then bkN f t + 1 else bkN f t
noncomputable def suF (f : Nat → Int32) : Nat → Int32
  | 0 => 0
  | t + 1 => suF f t + f (t + 1)
noncomputable def fbN (f : Nat → Int32) : Nat → Nat
  | 0 => 0
  | t + 1 => if fbN f t = 0 then (if bkN f (t + 1) = 0 then 0 else t + 1) else fbN f t
section
variable {X : Tok} {d : Nat} {mu m m' mu' : Mu} {la la' : La} {ro ro' : Ro} {et : Nat → Option va_E} {n i j t a c : Nat} {k x y z s pc ca cb cc cd w : Int32} {T T2 : Nat → Int32} {f : Option Nat} {g : Nat → Int32} {LS : Nat → List Ln} {P : Nat → Nat → Int32} {refs : List (Option (Option Nat))}
theorem bk_s (g : Nat → Int32) (t : Nat) : bkN g (t + 1) = bkN g t + 1 ∨ bkN g (t + 1) = bkN g t := by
  rw [bkN]
  split
  · exact .inl rfl
  · exact .inr rfl
theorem bk_le (g : Nat → Int32) : ∀ t, bkN g t ≤ t
  | 0 => Nat.le_refl _
  | t + 1 => by
    have := bk_le g t
    rcases bk_s g t with h | h <;> omega
theorem fb_bk (g : Nat → Int32) : ∀ t, (fbN g t = 0 ↔ bkN g t = 0) ∧ fbN g t ≤ t
  | 0 => ⟨⟨fun _ => rfl, fun _ => rfl⟩, Nat.le_refl _⟩
  | t + 1 => by
    obtain ⟨h1, h2⟩ := fb_bk g t
    have h3 := bk_s g t
    rw [fbN]
    by_cases c1 : fbN g t = 0
    · rw [if_pos c1]
      by_cases c2 : bkN g (t + 1) = 0
      · rw [if_pos c2]
        exact ⟨⟨fun _ => c2, fun _ => rfl⟩, by omega⟩
      · rw [if_neg c2]
        exact ⟨⟨fun q => absurd q (by omega), fun q => absurd q c2⟩, by omega⟩
    · rw [if_neg c1]
      have c3 : ¬ bkN g t = 0 := fun q => c1 (h1.mpr q)
      exact ⟨⟨fun q => absurd q c1, fun q => absurd q (by omega)⟩, by omega⟩
theorem fb_st (g : Nat → Int32) (h : ¬ fbN g i = 0) : ∀ q, fbN g (i + q) = fbN g i
  | 0 => rfl
  | q + 1 => by
    have e := fb_st g h q
    rw [← Nat.add_assoc, fbN, e, if_neg h]
theorem fb_n (h : bkN g i = 0) : fbN g (i + 1) = if bkN g (i + 1) = 0 then 0 else i + 1 := by rw [fbN, if_pos ((fb_bk g i).1.mpr h)]
theorem gp_j (h : 10 ≤ j) : phT k cc cd (grT k ca cb T) j = T j := by
  have e : grT k ca cb T j = T j := by
    unfold grT
    split
    · rw [upd_n (by omega), upd_n (by omega)]
    · split
      · rw [upd_n (by omega), upd_n (by omega)]
      · rfl
  unfold phT
  split
  · exact e
  · rw [upd_n (by omega), upd_n (by omega), upd_n (by omega), upd_n (by omega)]
    exact e
theorem bk_x : bkT (tuT T2) 11 = (if sgF (T2 7) = 0 then T2 11 else sgF (T2 7)) ∧ bkT (tuT T2) 12 = (if ¬ sgF (T2 7) = 0 ∧ sgF (T2 7) = -T2 11 then T2 12 + 1 else T2 12) := by
  have t7 : tuT T2 7 = T2 7 := rfl
  have t11 : tuT T2 11 = T2 11 := rfl
  have t12 : tuT T2 12 = T2 12 := rfl
  unfold bkT
  rw [t7, t11, t12]
  by_cases c1 : sgF (T2 7) = 0
  · have c3 : ¬ (¬ sgF (T2 7) = 0 ∧ sgF (T2 7) = -T2 11) := fun q => q.1 c1
    rw [if_pos c1, if_pos c1, if_neg c3]
    exact ⟨t11, t12⟩
  · by_cases c2 : sgF (T2 7) = -T2 11
    · have c3 : ¬ sgF (T2 7) = 0 ∧ sgF (T2 7) = -T2 11 := ⟨c1, c2⟩
      rw [if_neg c1, if_pos c2, if_neg c1, if_pos c3]
      exact ⟨rfl, rfl⟩
    · have c3 : ¬ (¬ sgF (T2 7) = 0 ∧ sgF (T2 7) = -T2 11) := fun q => c2 q.2
      rw [if_neg c1, if_neg c2, if_neg c1, if_neg c3]
      exact ⟨rfl, rfl⟩
theorem P_c (h0 : P 0 = beT s x y z) (hP : ∀ i, P (i + 1) = spT k ca cb cc cd (flO LS f) pc (P i)) : ∀ i, P i 11 = sdF (fun t => P t 7) i ∧ P i 12 = nI (bkN (fun t => P t 7) i) ∧ P i 13 = suF (fun t => P t 7) i
  | 0 => by
    have e7 : P 0 7 = s := by rw [h0]; rfl
    refine ⟨?_, ?_, ?_⟩
    · show P 0 11 = sgF (P 0 7)
      rw [e7, h0]
      rfl
    · show P 0 12 = nI 0
      rw [h0]
      rfl
    · show P 0 13 = 0
      rw [h0]
      rfl
  | i + 1 => by
    obtain ⟨a1, a2, a3⟩ := P_c h0 hP i
    obtain ⟨T2, hT2⟩ : ∃ T2, T2 = lsT (flO LS f) pc (phT k cc cd (grT k ca cb (upd (P i) 10 (P i 10 + 1)))) := ⟨_, rfl⟩
    have e : P (i + 1) = bkT (tuT T2) := by rw [hP i, hT2]; rfl
    obtain ⟨b1, b2⟩ := bk_x (T2 := T2)
    obtain ⟨q7, _, _, _, q13, _⟩ := bk_789 (T := T2)
    have e7 : P (i + 1) 7 = T2 7 := by rw [e]; exact q7
    have g : ∀ j, 11 ≤ j → j ≤ 13 → T2 j = P i j := fun j h1 h2 => by
      rw [hT2]
      unfold lsT loT
      rw [upd_n (by omega), upd_n (by omega), upd_n (by omega), upd_n (by omega), upd_n (by omega), upd_n (by omega), gp_j (by omega), upd_n (by omega)]
    rw [g 11 (by omega) (by omega), a1] at b1
    rw [g 11 (by omega) (by omega), g 12 (by omega) (by omega), a1, a2] at b2
    rw [g 13 (by omega) (by omega), a3] at q13
    refine ⟨?_, ?_, ?_⟩
    · show P (i + 1) 11 = if sgF (P (i + 1) 7) = 0 then sdF (fun t => P t 7) i else sgF (P (i + 1) 7)
      rw [e7, e, b1]
    · show P (i + 1) 12 = nI (if ¬ sgF (P (i + 1) 7) = 0 ∧ sgF (P (i + 1) 7) = -sdF (fun t => P t 7) i then bkN (fun t => P t 7) i + 1 else bkN (fun t => P t 7) i)
      rw [e7, e, b2]
      by_cases c : ¬ sgF (T2 7) = 0 ∧ sgF (T2 7) = -sdF (fun t => P t 7) i
      · rw [if_pos c, if_pos c, nI_1]
      · rw [if_neg c, if_neg c]
    · show P (i + 1) 13 = suF (fun t => P t 7) i + P (i + 1) 7
      rw [e7, e, q13]
theorem sq_7 (h0 : P 0 = beT s x y z) : (fun t => P t 7) 0 = s := by
  show P 0 7 = s
  rw [h0]
  rfl
-- equal worlds
theorem Wd_row {tp nn : Nat} {rf : List (Option (Option Nat))} (h : Wd mu la ro et = Wd mu' la' ro' et) (ha : a < 111) (hs : shp a = (1, tp, nn, rf)) : mu' a = mu a := by
  have e : fI ((Wd mu la ro et).2 a) = fI ((Wd mu' la' ro' et).2 a) := congrArg (fun w : Hp => fI (w.2 a)) h
  rw [Wd_get ha, Wd_get ha, hs] at e
  exact e.symm
theorem Wd_fld {ci nn : Nat} (h : Wd mu la ro et = Wd mu' la' ro' et) (ha : a < 111) (hs : shp a = (0, ci, nn, refs)) (hk : refs[i]? = some none) : mu' a i = mu a i := by
  have e : fI ((Wd mu la ro et).2 a) i = fI ((Wd mu' la' ro' et).2 a) i := congrArg (fun w : Hp => fI (w.2 a) i) h
  rw [Wd_get ha, Wd_get ha, hs] at e
  have q : ∀ (M : Nat → Int32) (G : Nat → Int64) (r : Nat → Option Nat), fI (cellOf (0, ci, nn, refs) M G r) i = M i := fun M G r => by
    show (match (flds refs M r 0)[i]? with
      | some (.int x) => x
      | _ => 0) = M i
    rw [flds_at, hk]
    show M (0 + i) = M i
    rw [Nat.zero_add]
  rw [q, q] at e
  exact e.symm
theorem AllC_W (h : Wd mu la ro et = Wd mu' la' ro' et) (hn : n ≤ 4) (q : AllC mu LS n) : AllC mu' LS n := fun F hF => by
  obtain ⟨⟨q1, q2⟩, q3⟩ := q F hF
  have e : mu' (49 + 5 * F) 4 = mu (49 + 5 * F) 4 ∧ mu' (49 + 5 * F + 1) = mu (49 + 5 * F + 1) ∧ mu' (49 + 5 * F + 2) = mu (49 + 5 * F + 2) ∧ mu' (49 + 5 * F + 3) = mu (49 + 5 * F + 3) ∧ mu' (49 + 5 * F + 4) = mu (49 + 5 * F + 4) := by
    have : F = 0 ∨ F = 1 ∨ F = 2 ∨ F = 3 := by omega
    rcases this with rfl | rfl | rfl | rfl <;> exact ⟨Wd_fld h (by decide) rfl rfl, Wd_row h (by decide) rfl, Wd_row h (by decide) rfl, Wd_row h (by decide) rfl, Wd_row h (by decide) rfl⟩
  obtain ⟨e0, e1, e2, e3, e4⟩ := e
  refine ⟨⟨e0.trans q1, fun i p hp => ?_⟩, q3⟩
  rw [e1, e2, e3, e4]
  exact q2 i p hp
end
