-- ===== rules over the world
def up2 (mu : Nat → Nat → Int32) (a k : Nat) (v : Int32) : Nat → Nat → Int32 := fun c => if c = a then upd (mu a) k v else mu c
def upJ (la : Nat → Nat → Int64) (a k : Nat) (v : Int64) : Nat → Nat → Int64 := fun c => if c = a then vp_updL (la a) k v else la c
theorem up2_s (mu : Nat → Nat → Int32) (a k : Nat) (v : Int32) : up2 mu a k v a k = v := by
  show (if a = a then upd (mu a) k v else mu a) k = v
  rw [if_pos rfl]
  exact if_pos rfl
theorem up2_a {mu : Nat → Nat → Int32} {a k c j : Nat} {v : Int32} (h : c ≠ a) : up2 mu a k v c j = mu c j := by
  show (if c = a then upd (mu a) k v else mu c) j = mu c j
  rw [if_neg h]
theorem up2_k {mu : Nat → Nat → Int32} {a k c j : Nat} {v : Int32} (h : j ≠ k) : up2 mu a k v c j = mu c j := by
  show (if c = a then upd (mu a) k v else mu c) j = mu c j
  split
  · rename_i hc
    subst hc
    exact if_neg h
  · rfl
theorem up2_e {mu : Nat → Nat → Int32} {a k c j : Nat} {v : Int32} : up2 mu a k v c j = if c = a ∧ j = k then v else mu c j := by
  by_cases h1 : c = a
  · subst h1
    by_cases h2 : j = k
    · subst h2
      rw [up2_s, if_pos ⟨rfl, rfl⟩]
    · rw [up2_k h2, if_neg (fun q => h2 q.2)]
  · rw [up2_a h1, if_neg (fun q => h1 q.1)]
def qI (a ci k : Nat) : Bool := Nat.blt a 111 && match shp a with
  | (0, c, _, refs) => c == ci && refs[k]? == some none
  | _ => false
def qR (a ci k : Nat) : Option Nat := if Nat.blt a 111 then match shp a with
  | (0, c, _, refs) => if c = ci then match refs[k]? with
    | some (some (some b)) => some b
    | _ => none else none
  | _ => none else none
def qRd (a ci k : Nat) : Nat := (qR a ci k).getD 0
def qM (a ci k : Nat) : Bool := Nat.blt a 111 && match shp a with
  | (0, c, _, refs) => c == ci && refs[k]? == some (some none)
  | _ => false
def qA (a t : Nat) : Option Nat := if Nat.blt a 111 then match shp a with
  | (1, t', n, _) => if t' = t then some n else none
  | _ => none else none
def qAd (a t : Nat) : Nat := (qA a t).getD 0
def qJ (a : Nat) : Option Nat := if Nat.blt a 111 then match shp a with
  | (2, _, n, _) => some n
  | _ => none else none
def qJd (a : Nat) : Nat := (qJ a).getD 0
def qQ (a : Nat) : Option Nat := if Nat.blt a 111 then match shp a with
  | (3, t, n, _) => if 4 ≤ t ∧ t ≤ 6 then some n else none
  | _ => none else none
def qQd (a : Nat) : Nat := (qQ a).getD 0
def qO (a ci : Nat) : Bool := Nat.blt a 111 && match shp a with
  | (0, c, _, _) => c == ci
  | _ => false
def qL (a : Nat) : Option Nat := if Nat.blt a 111 then match shp a with
  | (1, t, n, _) => if t < 7 then some n else none
  | (2, _, n, _) => some n
  | (3, t, n, _) => if t < 7 then some n else none
  | _ => none else none
def qLd (a : Nat) : Nat := (qL a).getD 0
def cs (r : List Value) : Nat := (r.map fun v => v.category).sum
def ckS (r : List Value) : Bool := Nat.ble (cs r) 8
theorem ckS_le {r : List Value} (h : ckS r = true) : cs r ≤ 8 := Nat.le_of_ble_eq_true h
theorem cat_le (v : Value) : v.category ≤ 2 := by cases v <;> exact Nat.le_of_ble_eq_true rfl
theorem ckS_of {r : List Value} (h : r.length ≤ 4) : ckS r = true := by
  have key : ∀ r : List Value, cs r ≤ 2 * r.length := by
    intro r
    induction r with
    | nil => exact Nat.le_refl _
    | cons a r ih =>
      have h1 : cs (a :: r) = a.category + cs r := by unfold cs; rw [List.map_cons, List.sum_cons]
      rw [h1, List.length_cons]
      have := cat_le a
      omega
  have := key r
  exact Nat.ble_eq.mpr (by omega)
theorem ckS_0 : ckS [] = true := ckS_of (by decide : 0 ≤ 4)
theorem ckS_1 (a : Value) : ckS [a] = true := ckS_of (by decide : 1 ≤ 4)
theorem ckS_2 (a b : Value) : ckS [a, b] = true := ckS_of (by decide : 2 ≤ 4)
theorem ckS_3 (a b c : Value) : ckS [a, b, c] = true := ckS_of (by decide : 3 ≤ 4)
theorem ckS_4 (a b c e : Value) : ckS [a, b, c, e] = true := ckS_of (by decide : 4 ≤ 4)
theorem cs_n : cs [] = 0 := rfl
theorem cs_i (x : Int32) (r : List Value) : cs (.int x :: r) = cs r + 1 := by unfold cs; rw [List.map_cons, List.sum_cons, Nat.add_comm]; rfl
theorem cs_r (x : Nat) (r : List Value) : cs (.ref x :: r) = cs r + 1 := by unfold cs; rw [List.map_cons, List.sum_cons, Nat.add_comm]; rfl
theorem cs_f (x : UInt32) (r : List Value) : cs (.float x :: r) = cs r + 1 := by unfold cs; rw [List.map_cons, List.sum_cons, Nat.add_comm]; rfl
theorem cs_0 (r : List Value) : cs (.null :: r) = cs r + 1 := by unfold cs; rw [List.map_cons, List.sum_cons, Nat.add_comm]; rfl
theorem cs_l (x : Int64) (r : List Value) : cs (.long x :: r) = cs r + 2 := by unfold cs; rw [List.map_cons, List.sum_cons, Nat.add_comm]; rfl
theorem flds_at (refs : List (Option (Option Nat))) (f : Nat → Int32) (r : Nat → Option Nat) : ∀ (k0 k : Nat), (flds refs f r k0)[k]? = match refs[k]? with
    | some (some (some b)) => some (.ref b)
    | some (some none) => some (va_rf (r (k0 + k)))
    | some none => some (.int (f (k0 + k)))
    | none => none := by
  induction refs with
  | nil => intro k0 k; rfl
  | cons x l ih =>
    intro k0 k
    match x, k with
    | some (some b), 0 => rfl
    | some none, 0 => rfl
    | none, 0 => rfl
    | some (some b), k + 1 => rw [flds]; have := ih (k0 + 1) k; rw [show k0 + 1 + k = k0 + (k + 1) by omega] at this; exact this
    | some none, k + 1 => rw [flds]; have := ih (k0 + 1) k; rw [show k0 + 1 + k = k0 + (k + 1) by omega] at this; exact this
    | none, k + 1 => rw [flds]; have := ih (k0 + 1) k; rw [show k0 + 1 + k = k0 + (k + 1) by omega] at this; exact this
theorem flds_len (refs : List (Option (Option Nat))) (f : Nat → Int32) (r : Nat → Option Nat) : ∀ k0, (flds refs f r k0).length = refs.length := by
  induction refs with
  | nil => intro k0; rfl
  | cons x l ih =>
    intro k0
    match x with
    | some (some b) => exact congrArg (· + 1) (ih (k0 + 1))
    | some none => exact congrArg (· + 1) (ih (k0 + 1))
    | none => exact congrArg (· + 1) (ih (k0 + 1))
theorem flds_set (refs : List (Option (Option Nat))) (f : Nat → Int32) (r : Nat → Option Nat) (k : Nat) (v : Int32) (h : refs[k]? = some none) : (flds refs f r 0).set k (.int v) = flds refs (upd f k v) r 0 := by
  apply List.ext_getElem?
  intro j
  rw [flds_at]
  by_cases hj : j = k
  · subst hj
    rw [List.getElem?_set_self (by rw [flds_len]; exact (List.getElem?_eq_some_iff.mp h).1), h]
    show _ = some (Value.int (upd f j v (0 + j)))
    rw [Nat.zero_add]
    unfold upd
    rw [if_pos rfl]
  · rw [List.getElem?_set_ne (Ne.symm hj), flds_at]
    unfold upd
    rw [Nat.zero_add, if_neg hj]
section WRU
variable {X : Tok} {d : Nat} {M : MI} {pc pc' len i ci k fin a n t : Nat} {L st r : List Value} {h : Hp}
variable {mu : Nat → Nat → Int32} {la : Nat → Nat → Int64} {ro : Nat → Nat → Option Nat} {et : Nat → Option va_E}
theorem Wd_get (ha : a < 111) : (Wd mu la ro et).2 a = cellOf (shp a) (mu a) (la a) (ro a) := if_pos ha
theorem Wd_up {e : va_E} {v : Int32} (ha : a < 111) (he : cellOf (shp a) (upd (mu a) k v) (la a) (ro a) = some e) : sE (Wd mu la ro et) a e = Wd (up2 mu a k v) la ro et := by
  refine Prod.ext rfl (funext fun c => ?_)
  show va_up (Wd mu la ro et).2 a (some e) c = if c < 111 then cellOf (shp c) (up2 mu a k v c) (la c) (ro c) else et c
  by_cases hc : c = a
  · subst hc
    rw [va_up_self, if_pos ha, ← he]
    congr 1
    exact (if_pos rfl).symm
  · rw [va_up_ne _ _ hc]
    show (if c < 111 then _ else _) = _
    rw [show up2 mu a k v c = mu c from if_neg hc]
theorem Wd_upJ {e : va_E} {v : Int64} (ha : a < 111) (he : cellOf (shp a) (mu a) (vp_updL (la a) k v) (ro a) = some e) : sE (Wd mu la ro et) a e = Wd mu (upJ la a k v) ro et := by
  refine Prod.ext rfl (funext fun c => ?_)
  show va_up (Wd mu la ro et).2 a (some e) c = if c < 111 then cellOf (shp c) (mu c) (upJ la a k v c) (ro c) else et c
  by_cases hc : c = a
  · subst hc
    rw [va_up_self, if_pos ha, ← he]
    congr 1
    exact (if_pos rfl).symm
  · rw [va_up_ne _ _ hc]
    show (if c < 111 then _ else _) = _
    rw [show upJ la a k v c = la c from if_neg hc]
theorem qI_ok (h : qI a ci k = true) : a < 111 ∧ ∃ z refs, shp a = (0, ci, z, refs) ∧ refs[k]? = some none := by
  unfold qI at h
  rw [Bool.and_eq_true] at h
  obtain ⟨h1, h2⟩ := h
  refine ⟨Nat.blt_eq.mp h1, ?_⟩
  split at h2
  · rename_i c z refs he
    simp only [Bool.and_eq_true, beq_iff_eq] at h2
    obtain ⟨rfl, h3⟩ := h2
    exact ⟨z, refs, he, h3⟩
  · cases h2
theorem qM_ok (h : qM a ci k = true) : a < 111 ∧ ∃ z refs, shp a = (0, ci, z, refs) ∧ refs[k]? = some (some none) := by
  unfold qM at h
  rw [Bool.and_eq_true] at h
  obtain ⟨h1, h2⟩ := h
  refine ⟨Nat.blt_eq.mp h1, ?_⟩
  split at h2
  · rename_i c z refs he
    simp only [Bool.and_eq_true, beq_iff_eq] at h2
    obtain ⟨rfl, h3⟩ := h2
    exact ⟨z, refs, he, h3⟩
  · cases h2
theorem qO_ok (h : qO a ci = true) : a < 111 ∧ ∃ z refs, shp a = (0, ci, z, refs) := by
  unfold qO at h
  rw [Bool.and_eq_true] at h
  obtain ⟨h1, h2⟩ := h
  refine ⟨Nat.blt_eq.mp h1, ?_⟩
  split at h2
  · rename_i c z refs he
    simp only [beq_iff_eq] at h2
    exact ⟨z, refs, by rw [he, h2]⟩
  · cases h2
theorem qR_ok (h : (qR a ci k).isSome = true) : a < 111 ∧ ∃ z refs, shp a = (0, ci, z, refs) ∧ refs[k]? = some (some (some (qRd a ci k))) := by
  obtain ⟨b, hb⟩ := Option.isSome_iff_exists.mp h
  unfold qRd
  rw [hb]
  unfold qR at hb
  split at hb
  · rename_i h1
    refine ⟨Nat.blt_eq.mp h1, ?_⟩
    split at hb
    · rename_i c z refs he
      split at hb
      · rename_i hc
        subst hc
        split at hb
        · rename_i b' hk
          cases hb
          exact ⟨z, refs, he, hk⟩
        · cases hb
      · cases hb
    · cases hb
  · cases hb
theorem qA_ok (h : (qA a t).isSome = true) : a < 111 ∧ ∃ z, shp a = (1, t, qAd a t, z) := by
  obtain ⟨b, hb⟩ := Option.isSome_iff_exists.mp h
  unfold qAd
  rw [hb]
  unfold qA at hb
  split at hb
  · rename_i h1
    refine ⟨Nat.blt_eq.mp h1, ?_⟩
    split at hb
    · rename_i t' n z he
      split at hb
      · rename_i hc
        subst hc
        cases hb
        exact ⟨z, he⟩
      · cases hb
    · cases hb
  · cases hb
theorem qJ_ok (h : (qJ a).isSome = true) : a < 111 ∧ ∃ t z, shp a = (2, t, qJd a, z) := by
  obtain ⟨b, hb⟩ := Option.isSome_iff_exists.mp h
  unfold qJd
  rw [hb]
  unfold qJ at hb
  split at hb
  · rename_i h1
    refine ⟨Nat.blt_eq.mp h1, ?_⟩
    split at hb
    · rename_i t' n z he
      cases hb
      exact ⟨t', z, he⟩
    · cases hb
  · cases hb
theorem qQ_ok (h : (qQ a).isSome = true) : a < 111 ∧ ∃ t z, shp a = (3, t, qQd a, z) ∧ 4 ≤ t ∧ t ≤ 6 := by
  obtain ⟨b, hb⟩ := Option.isSome_iff_exists.mp h
  unfold qQd
  rw [hb]
  unfold qQ at hb
  split at hb
  · rename_i h1
    refine ⟨Nat.blt_eq.mp h1, ?_⟩
    split at hb
    · rename_i t' n z he
      split at hb
      · rename_i hc
        cases hb
        exact ⟨t', z, he, hc⟩
      · cases hb
    · cases hb
  · cases hb
theorem qL_ok (h : (qL a).isSome = true) : ∃ t x, t < 7 ∧ (Wd mu la ro et).2 a = some (.inl (t, qLd a, x)) := by
  obtain ⟨b, hb⟩ := Option.isSome_iff_exists.mp h
  unfold qLd
  rw [hb]
  unfold qL at hb
  split at hb
  · rename_i h1
    rw [Wd_get (Nat.blt_eq.mp h1)]
    split at hb
    · rename_i t' n z he
      split at hb
      · rename_i hc
        cases hb
        exact ⟨t', _, hc, by rw [he]; rfl⟩
      · cases hb
    · rename_i t' n z he
      cases hb
      exact ⟨1, _, by decide, by rw [he]; rfl⟩
    · rename_i t' n z he
      split at hb
      · rename_i hc
        cases hb
        exact ⟨t', _, hc, by rw [he]; rfl⟩
      · cases hb
    · cases hb
  · cases hb
theorem R_gfI (hd : decode M.2.2.1 pc = .ok (.getfield i, 3)) (hF : fF M.1 i = some (ci, k, t, fin)) (hq : qI a ci k = true) : Rr X d M pc L (.ref a :: r) (Wd mu la ro et) = Rr X d M (pc + 3) L (.int (mu a k) :: r) (Wd mu la ro et) := by
  obtain ⟨h1, z, refs, h2, h3⟩ := qI_ok hq
  refine Rr_nx hd ?_
  show g1 3 3 (o_gf M.1 i L _ _ _) = _
  simp only [g1, if_true, o_gf, hF, Wd_get h1, h2, cellOf, flds_at, h3, Nat.zero_add]
  rfl
theorem R_gfR (hd : decode M.2.2.1 pc = .ok (.getfield i, 3)) (hF : fF M.1 i = some (ci, k, t, fin)) (hq : (qR a ci k).isSome = true) : Rr X d M pc L (.ref a :: r) (Wd mu la ro et) = Rr X d M (pc + 3) L (.ref (qRd a ci k) :: r) (Wd mu la ro et) := by
  obtain ⟨h1, z, refs, h2, h3⟩ := qR_ok hq
  refine Rr_nx hd ?_
  show g1 3 3 (o_gf M.1 i L _ _ _) = _
  simp only [g1, if_true, o_gf, hF, Wd_get h1, h2, cellOf, flds_at, h3, Nat.zero_add]
  rfl
theorem R_gfM (hd : decode M.2.2.1 pc = .ok (.getfield i, 3)) (hF : fF M.1 i = some (ci, k, t, fin)) (hq : qM a ci k = true) : Rr X d M pc L (.ref a :: r) (Wd mu la ro et) = Rr X d M (pc + 3) L (va_rf (ro a k) :: r) (Wd mu la ro et) := by
  obtain ⟨h1, z, refs, h2, h3⟩ := qM_ok hq
  refine Rr_nx hd ?_
  show g1 3 3 (o_gf M.1 i L _ _ _) = _
  simp only [g1, if_true, o_gf, hF, Wd_get h1, h2, cellOf, flds_at, h3, Nat.zero_add]
  rfl
theorem R_pfI {x : Int32} (hd : decode M.2.2.1 pc = .ok (.putfield i, 3)) (hF : fF M.1 i = some (ci, k, 0, 0)) (hq : qI a ci k = true) : Rr X d M pc L (.int x :: .ref a :: r) (Wd mu la ro et) = Rr X d M (pc + 3) L r (Wd (up2 mu a k x) la ro et) := by
  obtain ⟨h1, z, refs, h2, h3⟩ := qI_ok hq
  refine Rr_nx hd ?_
  show g1 3 3 (o_pf _ M.1 i L _ _ _) = _
  have hk : k < refs.length := (List.getElem?_eq_some_iff.mp h3).1
  simp only [g1, if_true, o_pf, hF, Wd_get h1, h2, cellOf, flds_len, hk, okV, true_or, and_self]
  rw [flds_set _ _ _ _ _ h3, Wd_up h1 (k := k) (v := x) (by rw [h2]; rfl)]
  rfl
theorem R_ialW {j : Int32} (hd : decode M.2.2.1 pc = .ok (.iaload, 1)) (hq : (qA a 0).isSome = true) : Rr X d M pc L (.int j :: .ref a :: r) (Wd mu la ro et) = if j < 0 ∨ qAd a 0 ≤ j.toNatClampNeg then none else Rr X d M (pc + 1) L (.int (mu a j.toNatClampNeg) :: r) (Wd mu la ro et) := by
  obtain ⟨h1, z, h2⟩ := qA_ok hq
  split
  · rename_i hc
    refine Rr_no hd ?_
    show g1 1 1 (o_ial X 0 L _ _ _) = _
    simp only [g1, if_true, o_ial, Wd_get h1, h2, cellOf, hc, not_true, and_false, if_false]
  · rename_i hc
    refine Rr_nx hd ?_
    show g1 1 1 (o_ial X 0 L _ _ _) = _
    simp only [g1, if_true, o_ial, Wd_get h1, h2, cellOf, hc, not_false_eq_true, and_true, if_true]
    rfl
theorem R_balW {j : Int32} (hd : decode M.2.2.1 pc = .ok (.baload, 1)) (hq : (qA a 2).isSome = true) : Rr X d M pc L (.int j :: .ref a :: r) (Wd mu la ro et) = if j < 0 ∨ qAd a 2 ≤ j.toNatClampNeg then none else Rr X d M (pc + 1) L (.int (mu a j.toNatClampNeg) :: r) (Wd mu la ro et) := by
  obtain ⟨h1, z, h2⟩ := qA_ok hq
  split
  · rename_i hc
    refine Rr_no hd ?_
    show g1 1 1 (o_ial X 2 L _ _ _) = _
    simp only [g1, if_true, o_ial, Wd_get h1, h2, cellOf, hc, not_true, and_false, if_false]
  · rename_i hc
    refine Rr_nx hd ?_
    show g1 1 1 (o_ial X 2 L _ _ _) = _
    simp only [g1, if_true, o_ial, Wd_get h1, h2, cellOf, hc, not_false_eq_true, and_true, if_true]
    rfl
theorem R_salW {j : Int32} (hd : decode M.2.2.1 pc = .ok (.saload, 1)) (hq : (qA a 3).isSome = true) : Rr X d M pc L (.int j :: .ref a :: r) (Wd mu la ro et) = if j < 0 ∨ qAd a 3 ≤ j.toNatClampNeg then none else Rr X d M (pc + 1) L (.int (mu a j.toNatClampNeg) :: r) (Wd mu la ro et) := by
  obtain ⟨h1, z, h2⟩ := qA_ok hq
  split
  · rename_i hc
    refine Rr_no hd ?_
    show g1 1 1 (o_ial X 3 L _ _ _) = _
    simp only [g1, if_true, o_ial, Wd_get h1, h2, cellOf, hc, not_true, and_false, if_false]
  · rename_i hc
    refine Rr_nx hd ?_
    show g1 1 1 (o_ial X 3 L _ _ _) = _
    simp only [g1, if_true, o_ial, Wd_get h1, h2, cellOf, hc, not_false_eq_true, and_true, if_true]
    rfl
theorem R_lalW {j : Int32} (hd : decode M.2.2.1 pc = .ok (.laload, 1)) (hq : (qJ a).isSome = true) : Rr X d M pc L (.int j :: .ref a :: r) (Wd mu la ro et) = if j < 0 ∨ qJd a ≤ j.toNatClampNeg then none else Rr X d M (pc + 1) L (.long (la a j.toNatClampNeg) :: r) (Wd mu la ro et) := by
  obtain ⟨h1, t, z, h2⟩ := qJ_ok hq
  split
  · rename_i hc
    refine Rr_no hd ?_
    show g1 1 1 (o_lal L _ _ _) = _
    simp only [g1, if_true, o_lal, Wd_get h1, h2, cellOf, hc, not_true, and_false, if_false]
  · rename_i hc
    refine Rr_nx hd ?_
    show g1 1 1 (o_lal L _ _ _) = _
    simp only [g1, if_true, o_lal, Wd_get h1, h2, cellOf, hc, not_false_eq_true, and_true, if_true]
    rfl
theorem R_aalW {j : Int32} (hd : decode M.2.2.1 pc = .ok (.aaload, 1)) (hq : (qQ a).isSome = true) : Rr X d M pc L (.int j :: .ref a :: r) (Wd mu la ro et) = if j < 0 ∨ qQd a ≤ j.toNatClampNeg then none else Rr X d M (pc + 1) L (va_rf (ro a j.toNatClampNeg) :: r) (Wd mu la ro et) := by
  obtain ⟨h1, t, z, h2, h3⟩ := qQ_ok hq
  split
  · rename_i hc
    refine Rr_no hd ?_
    show g1 1 1 (o_aal L _ _ _) = _
    simp only [g1, if_true, o_aal, Wd_get h1, h2, cellOf, hc, not_true, and_false, if_false]
  · rename_i hc
    refine Rr_nx hd ?_
    show g1 1 1 (o_aal L _ _ _) = _
    simp only [g1, if_true, o_aal, Wd_get h1, h2, cellOf, hc, h3, not_false_eq_true, and_self, if_true]
    rfl
theorem R_lenW (hd : decode M.2.2.1 pc = .ok (.arraylength, 1)) (hq : (qL a).isSome = true) : Rr X d M pc L (.ref a :: r) (Wd mu la ro et) = Rr X d M (pc + 1) L (.int (Int32.ofNat (qLd a)) :: r) (Wd mu la ro et) := by
  obtain ⟨t, x, h1, h2⟩ := qL_ok (mu := mu) (la := la) (ro := ro) (et := et) hq
  refine Rr_nx hd ?_
  show g1 1 1 (o_len X L _ _ _) = _
  simp only [g1, if_true, o_len, h2, h1]
  rfl
theorem R_iasW {j x : Int32} (hd : decode M.2.2.1 pc = .ok (.iastore, 1)) (hq : (qA a 0).isSome = true) : Rr X d M pc L (.int x :: .int j :: .ref a :: r) (Wd mu la ro et) = if j < 0 ∨ qAd a 0 ≤ j.toNatClampNeg then none else Rr X d M (pc + 1) L r (Wd (up2 mu a j.toNatClampNeg x) la ro et) := by
  obtain ⟨h1, z, h2⟩ := qA_ok hq
  split
  · rename_i hc
    refine Rr_no hd ?_
    show g1 1 1 (o_ias 0 _ L _ _ _) = _
    simp only [g1, if_true, o_ias, Wd_get h1, h2, cellOf, hc, not_true, and_false, if_false]
  · rename_i hc
    refine Rr_nx hd ?_
    show g1 1 1 (o_ias 0 _ L _ _ _) = _
    simp only [g1, if_true, o_ias, Wd_get h1, h2, cellOf, hc, not_false_eq_true, and_true, if_true]
    rw [Wd_up h1 (k := j.toNatClampNeg) (v := x) (by rw [h2]; rfl)]
    rfl
theorem R_basW {j x : Int32} (hd : decode M.2.2.1 pc = .ok (.bastore, 1)) (hq : (qA a 2).isSome = true) : Rr X d M pc L (.int x :: .int j :: .ref a :: r) (Wd mu la ro et) = if j < 0 ∨ qAd a 2 ≤ j.toNatClampNeg then none else Rr X d M (pc + 1) L r (Wd (up2 mu a j.toNatClampNeg x.toInt8.toInt32) la ro et) := by
  obtain ⟨h1, z, h2⟩ := qA_ok hq
  split
  · rename_i hc
    refine Rr_no hd ?_
    show g1 1 1 (o_ias 2 _ L _ _ _) = _
    simp only [g1, if_true, o_ias, Wd_get h1, h2, cellOf, hc, not_true, and_false, if_false]
  · rename_i hc
    refine Rr_nx hd ?_
    show g1 1 1 (o_ias 2 _ L _ _ _) = _
    simp only [g1, if_true, o_ias, Wd_get h1, h2, cellOf, hc, not_false_eq_true, and_true, if_true]
    rw [Wd_up h1 (k := j.toNatClampNeg) (v := x.toInt8.toInt32) (by rw [h2]; rfl)]
    rfl
theorem R_sasW {j x : Int32} (hd : decode M.2.2.1 pc = .ok (.sastore, 1)) (hq : (qA a 3).isSome = true) : Rr X d M pc L (.int x :: .int j :: .ref a :: r) (Wd mu la ro et) = if j < 0 ∨ qAd a 3 ≤ j.toNatClampNeg then none else Rr X d M (pc + 1) L r (Wd (up2 mu a j.toNatClampNeg x.toInt16.toInt32) la ro et) := by
  obtain ⟨h1, z, h2⟩ := qA_ok hq
  split
  · rename_i hc
    refine Rr_no hd ?_
    show g1 1 1 (o_ias 3 _ L _ _ _) = _
    simp only [g1, if_true, o_ias, Wd_get h1, h2, cellOf, hc, not_true, and_false, if_false]
  · rename_i hc
    refine Rr_nx hd ?_
    show g1 1 1 (o_ias 3 _ L _ _ _) = _
    simp only [g1, if_true, o_ias, Wd_get h1, h2, cellOf, hc, not_false_eq_true, and_true, if_true]
    rw [Wd_up h1 (k := j.toNatClampNeg) (v := x.toInt16.toInt32) (by rw [h2]; rfl)]
    rfl
theorem R_lasW {j : Int32} {x : Int64} (hd : decode M.2.2.1 pc = .ok (.lastore, 1)) (hq : (qJ a).isSome = true) : Rr X d M pc L (.long x :: .int j :: .ref a :: r) (Wd mu la ro et) = if j < 0 ∨ qJd a ≤ j.toNatClampNeg then none else Rr X d M (pc + 1) L r (Wd mu (upJ la a j.toNatClampNeg x) ro et) := by
  obtain ⟨h1, t, z, h2⟩ := qJ_ok hq
  split
  · rename_i hc
    refine Rr_no hd ?_
    show g1 1 1 (o_las L _ _ _) = _
    simp only [g1, if_true, o_las, Wd_get h1, h2, cellOf, hc, not_true, and_false, if_false]
  · rename_i hc
    refine Rr_nx hd ?_
    show g1 1 1 (o_las L _ _ _) = _
    simp only [g1, if_true, o_las, Wd_get h1, h2, cellOf, hc, not_false_eq_true, and_true, if_true]
    rw [Wd_upJ h1 (k := j.toNatClampNeg) (v := x) (by rw [h2]; rfl)]
    rfl
end WRU
section BRU
variable {X : Tok} {d : Nat} {M : MI} {pc len i ci n a tgt : Nat} {L st r : List Value} {h : Hp} {M' : MI} {off : Int}
variable {mu : Nat → Nat → Int32} {la : Nat → Nat → Int64} {ro : Nat → Nat → Option Nat} {et : Nat → Option va_E}
theorem R_ic_eq {x y : Int32} (hd : decode M.2.2.1 pc = .ok (.if_icmp .eq off, 3)) (ht : (pc : Int) + off = (tgt : Int)) : Rr X d M pc L (.int y :: .int x :: r) h = if x = y then Rr X d M tgt L r h else Rr X d M (pc + 3) L r h := by
  split
  · rename_i hc
    refine Rr_nx hd ?_
    show g1 3 3 (o_if2 .eq off L _ _ _) = _
    simp only [g1, if_true, o_if2, bB, o_jp, ht, hc, decide_true, not_false_eq_true]
    rw [if_neg (by omega), if_neg (by omega)]
    simp [nx]
  · rename_i hc
    refine Rr_nx hd ?_
    show g1 3 3 (o_if2 .eq off L _ _ _) = _
    simp only [g1, if_true, o_if2, bB, o_jp, ht, hc, decide_false]
    rw [if_neg (by omega)]
    simp [nx]
theorem R_if_eq {x : Int32} (hd : decode M.2.2.1 pc = .ok (.ifCond .eq off, 3)) (ht : (pc : Int) + off = (tgt : Int)) : Rr X d M pc L (.int x :: r) h = if x = 0 then Rr X d M tgt L r h else Rr X d M (pc + 3) L r h := by
  split
  · rename_i hc
    refine Rr_nx hd ?_
    show g1 3 3 (o_if1 .eq off L _ _ _) = _
    simp only [g1, if_true, o_if1, bB, o_jp, ht, hc, decide_true, not_false_eq_true]
    rw [if_neg (by omega), if_neg (by omega)]
    simp [nx]
  · rename_i hc
    refine Rr_nx hd ?_
    show g1 3 3 (o_if1 .eq off L _ _ _) = _
    simp only [g1, if_true, o_if1, bB, o_jp, ht, hc, decide_false]
    rw [if_neg (by omega)]
    simp [nx]
theorem R_ic_ne {x y : Int32} (hd : decode M.2.2.1 pc = .ok (.if_icmp .ne off, 3)) (ht : (pc : Int) + off = (tgt : Int)) : Rr X d M pc L (.int y :: .int x :: r) h = if ¬ x = y then Rr X d M tgt L r h else Rr X d M (pc + 3) L r h := by
  split
  · rename_i hc
    refine Rr_nx hd ?_
    show g1 3 3 (o_if2 .ne off L _ _ _) = _
    simp only [g1, if_true, o_if2, bB, o_jp, ht, hc, decide_true, not_false_eq_true]
    rw [if_neg (by omega), if_neg (by omega)]
    simp [nx]
  · rename_i hc
    refine Rr_nx hd ?_
    show g1 3 3 (o_if2 .ne off L _ _ _) = _
    simp only [g1, if_true, o_if2, bB, o_jp, ht, hc, decide_false]
    rw [if_neg (by omega)]
    simp [nx]
theorem R_if_ne {x : Int32} (hd : decode M.2.2.1 pc = .ok (.ifCond .ne off, 3)) (ht : (pc : Int) + off = (tgt : Int)) : Rr X d M pc L (.int x :: r) h = if ¬ x = 0 then Rr X d M tgt L r h else Rr X d M (pc + 3) L r h := by
  split
  · rename_i hc
    refine Rr_nx hd ?_
    show g1 3 3 (o_if1 .ne off L _ _ _) = _
    simp only [g1, if_true, o_if1, bB, o_jp, ht, hc, decide_true, not_false_eq_true]
    rw [if_neg (by omega), if_neg (by omega)]
    simp [nx]
  · rename_i hc
    refine Rr_nx hd ?_
    show g1 3 3 (o_if1 .ne off L _ _ _) = _
    simp only [g1, if_true, o_if1, bB, o_jp, ht, hc, decide_false]
    rw [if_neg (by omega)]
    simp [nx]
theorem R_ic_lt {x y : Int32} (hd : decode M.2.2.1 pc = .ok (.if_icmp .lt off, 3)) (ht : (pc : Int) + off = (tgt : Int)) : Rr X d M pc L (.int y :: .int x :: r) h = if x < y then Rr X d M tgt L r h else Rr X d M (pc + 3) L r h := by
  split
  · rename_i hc
    refine Rr_nx hd ?_
    show g1 3 3 (o_if2 .lt off L _ _ _) = _
    simp only [g1, if_true, o_if2, bB, o_jp, ht, hc, decide_true, not_false_eq_true]
    rw [if_neg (by omega), if_neg (by omega)]
    simp [nx]
  · rename_i hc
    refine Rr_nx hd ?_
    show g1 3 3 (o_if2 .lt off L _ _ _) = _
    simp only [g1, if_true, o_if2, bB, o_jp, ht, hc, decide_false]
    rw [if_neg (by omega)]
    simp [nx]
theorem R_if_lt {x : Int32} (hd : decode M.2.2.1 pc = .ok (.ifCond .lt off, 3)) (ht : (pc : Int) + off = (tgt : Int)) : Rr X d M pc L (.int x :: r) h = if x < 0 then Rr X d M tgt L r h else Rr X d M (pc + 3) L r h := by
  split
  · rename_i hc
    refine Rr_nx hd ?_
    show g1 3 3 (o_if1 .lt off L _ _ _) = _
    simp only [g1, if_true, o_if1, bB, o_jp, ht, hc, decide_true, not_false_eq_true]
    rw [if_neg (by omega), if_neg (by omega)]
    simp [nx]
  · rename_i hc
    refine Rr_nx hd ?_
    show g1 3 3 (o_if1 .lt off L _ _ _) = _
    simp only [g1, if_true, o_if1, bB, o_jp, ht, hc, decide_false]
    rw [if_neg (by omega)]
    simp [nx]
theorem R_ic_ge {x y : Int32} (hd : decode M.2.2.1 pc = .ok (.if_icmp .ge off, 3)) (ht : (pc : Int) + off = (tgt : Int)) : Rr X d M pc L (.int y :: .int x :: r) h = if y ≤ x then Rr X d M tgt L r h else Rr X d M (pc + 3) L r h := by
  split
  · rename_i hc
    refine Rr_nx hd ?_
    show g1 3 3 (o_if2 .ge off L _ _ _) = _
    simp only [g1, if_true, o_if2, bB, o_jp, ht, hc, decide_true, not_false_eq_true]
    rw [if_neg (by omega), if_neg (by omega)]
    simp [nx]
  · rename_i hc
    refine Rr_nx hd ?_
    show g1 3 3 (o_if2 .ge off L _ _ _) = _
    simp only [g1, if_true, o_if2, bB, o_jp, ht, hc, decide_false]
    rw [if_neg (by omega)]
    simp [nx]
theorem R_if_ge {x : Int32} (hd : decode M.2.2.1 pc = .ok (.ifCond .ge off, 3)) (ht : (pc : Int) + off = (tgt : Int)) : Rr X d M pc L (.int x :: r) h = if 0 ≤ x then Rr X d M tgt L r h else Rr X d M (pc + 3) L r h := by
  split
  · rename_i hc
    refine Rr_nx hd ?_
    show g1 3 3 (o_if1 .ge off L _ _ _) = _
    simp only [g1, if_true, o_if1, bB, o_jp, ht, hc, decide_true, not_false_eq_true]
    rw [if_neg (by omega), if_neg (by omega)]
    simp [nx]
  · rename_i hc
    refine Rr_nx hd ?_
    show g1 3 3 (o_if1 .ge off L _ _ _) = _
    simp only [g1, if_true, o_if1, bB, o_jp, ht, hc, decide_false]
    rw [if_neg (by omega)]
    simp [nx]
theorem R_ic_gt {x y : Int32} (hd : decode M.2.2.1 pc = .ok (.if_icmp .gt off, 3)) (ht : (pc : Int) + off = (tgt : Int)) : Rr X d M pc L (.int y :: .int x :: r) h = if y < x then Rr X d M tgt L r h else Rr X d M (pc + 3) L r h := by
  split
  · rename_i hc
    refine Rr_nx hd ?_
    show g1 3 3 (o_if2 .gt off L _ _ _) = _
    simp only [g1, if_true, o_if2, bB, o_jp, ht, hc, decide_true, not_false_eq_true]
    rw [if_neg (by omega), if_neg (by omega)]
    simp [nx]
  · rename_i hc
    refine Rr_nx hd ?_
    show g1 3 3 (o_if2 .gt off L _ _ _) = _
    simp only [g1, if_true, o_if2, bB, o_jp, ht, hc, decide_false]
    rw [if_neg (by omega)]
    simp [nx]
theorem R_if_gt {x : Int32} (hd : decode M.2.2.1 pc = .ok (.ifCond .gt off, 3)) (ht : (pc : Int) + off = (tgt : Int)) : Rr X d M pc L (.int x :: r) h = if 0 < x then Rr X d M tgt L r h else Rr X d M (pc + 3) L r h := by
  split
  · rename_i hc
    refine Rr_nx hd ?_
    show g1 3 3 (o_if1 .gt off L _ _ _) = _
    simp only [g1, if_true, o_if1, bB, o_jp, ht, hc, decide_true, not_false_eq_true]
    rw [if_neg (by omega), if_neg (by omega)]
    simp [nx]
  · rename_i hc
    refine Rr_nx hd ?_
    show g1 3 3 (o_if1 .gt off L _ _ _) = _
    simp only [g1, if_true, o_if1, bB, o_jp, ht, hc, decide_false]
    rw [if_neg (by omega)]
    simp [nx]
theorem R_ic_le {x y : Int32} (hd : decode M.2.2.1 pc = .ok (.if_icmp .le off, 3)) (ht : (pc : Int) + off = (tgt : Int)) : Rr X d M pc L (.int y :: .int x :: r) h = if x ≤ y then Rr X d M tgt L r h else Rr X d M (pc + 3) L r h := by
  split
  · rename_i hc
    refine Rr_nx hd ?_
    show g1 3 3 (o_if2 .le off L _ _ _) = _
    simp only [g1, if_true, o_if2, bB, o_jp, ht, hc, decide_true, not_false_eq_true]
    rw [if_neg (by omega), if_neg (by omega)]
    simp [nx]
  · rename_i hc
    refine Rr_nx hd ?_
    show g1 3 3 (o_if2 .le off L _ _ _) = _
    simp only [g1, if_true, o_if2, bB, o_jp, ht, hc, decide_false]
    rw [if_neg (by omega)]
    simp [nx]
theorem R_if_le {x : Int32} (hd : decode M.2.2.1 pc = .ok (.ifCond .le off, 3)) (ht : (pc : Int) + off = (tgt : Int)) : Rr X d M pc L (.int x :: r) h = if x ≤ 0 then Rr X d M tgt L r h else Rr X d M (pc + 3) L r h := by
  split
  · rename_i hc
    refine Rr_nx hd ?_
    show g1 3 3 (o_if1 .le off L _ _ _) = _
    simp only [g1, if_true, o_if1, bB, o_jp, ht, hc, decide_true, not_false_eq_true]
    rw [if_neg (by omega), if_neg (by omega)]
    simp [nx]
  · rename_i hc
    refine Rr_nx hd ?_
    show g1 3 3 (o_if1 .le off L _ _ _) = _
    simp only [g1, if_true, o_if1, bB, o_jp, ht, hc, decide_false]
    rw [if_neg (by omega)]
    simp [nx]
theorem R_goto (hd : decode M.2.2.1 pc = .ok (.goto off, 3)) (ht : (pc : Int) + off = (tgt : Int)) : Rr X d M pc L r h = Rr X d M tgt L r h := by
  refine Rr_nx hd ?_
  show g1 3 3 (o_jp pc off L r h) = _
  simp only [g1, if_true, o_jp, ht]
  rw [if_neg (by omega)]
  simp [nx]
theorem R_nul0 (hd : decode M.2.2.1 pc = .ok (.ifnull off, 3)) (ht : (pc : Int) + off = (tgt : Int)) : Rr X d M pc L (.null :: r) h = Rr X d M tgt L r h := by
  refine Rr_nx hd ?_
  show g1 3 3 (o_nul true off L _ _ _) = _
  simp only [g1, if_true, o_nul, o_jp, ht]
  rw [if_neg (by omega)]
  simp [nx]
theorem R_nul1 (hd : decode M.2.2.1 pc = .ok (.ifnull off, 3)) : Rr X d M pc L (.ref a :: r) h = Rr X d M (pc + 3) L r h := Rr_nx hd rfl
theorem R_nnl1 (hd : decode M.2.2.1 pc = .ok (.ifnonnull off, 3)) (ht : (pc : Int) + off = (tgt : Int)) : Rr X d M pc L (.ref a :: r) h = Rr X d M tgt L r h := by
  refine Rr_nx hd ?_
  show g1 3 3 (o_nul false off L _ _ _) = _
  simp only [g1, if_true, o_nul, o_jp, ht, if_neg Bool.false_ne_true]
  rw [if_neg (by omega)]
  simp [nx]
theorem R_nnl0 (hd : decode M.2.2.1 pc = .ok (.ifnonnull off, 3)) : Rr X d M pc L (.null :: r) h = Rr X d M (pc + 3) L r h := Rr_nx hd rfl
theorem R_tab {dflt lo hi : Int} {offs : Array Int} {x : Int32} (hd : decode M.2.2.1 pc = .ok (.tableswitch dflt lo hi offs, len)) (h1 : ¬ (x.toInt < lo ∨ hi < x.toInt)) (h2 : offs[(x.toInt - lo).toNat]? = some off) (ht : (pc : Int) + off = (tgt : Int)) : Rr X d M pc L (.int x :: r) h = Rr X d M tgt L r h := by
  refine Rr_nx hd ?_
  show o_tab dflt lo hi offs L (.int x :: r) h pc = _
  simp only [o_tab, if_neg h1, h2, o_jp, ht]
  rw [if_neg (by omega)]
  simp [nx]
theorem R_tabD {dflt lo hi : Int} {offs : Array Int} {x : Int32} (hd : decode M.2.2.1 pc = .ok (.tableswitch dflt lo hi offs, len)) (h1 : x.toInt < lo ∨ hi < x.toInt) (ht : (pc : Int) + dflt = (tgt : Int)) : Rr X d M pc L (.int x :: r) h = Rr X d M tgt L r h := by
  refine Rr_nx hd ?_
  show o_tab dflt lo hi offs L (.int x :: r) h pc = _
  simp only [o_tab, if_pos h1, o_jp, ht]
  rw [if_neg (by omega)]
  simp [nx]
theorem R_lkp {dflt : Int} {ps : Array (Int × Int)} {x : Int32} (hd : decode M.2.2.1 pc = .ok (.lookupswitch dflt ps, len)) (h1 : (ps.toList.zip (ps.toList.drop 1)).all (fun (a, next) => a.1 < next.1) = true) (h2 : Op.lookupswitch.offset ps.toList dflt x.toInt = off) (ht : (pc : Int) + off = (tgt : Int)) : Rr X d M pc L (.int x :: r) h = Rr X d M tgt L r h := by
  refine Rr_nx hd ?_
  show o_lkp dflt ps L (.int x :: r) h pc = _
  simp only [o_lkp, if_pos h1, h2, o_jp, ht]
  rw [if_neg (by omega)]
  simp [nx]
theorem R_iv {av : List Value} (hd : decode M.2.2.1 pc = .ok (.invokevirtual i, 3)) (hF : fC M.1 i = some (0, ci, n, M')) (hO : qO a ci = true) (hc : cs r ≤ 8) (hn : av.length = n) (hv : (exL (.ref a :: av.reverse)).length ≤ M'.2.2.2.1) (hm : M'.2.2.2.1 ≤ 45) : Rr X (d + 1) M pc L (av ++ .ref a :: r) (Wd mu la ro et) = (Rr X d M' 0 (ent M' (.ref a :: av.reverse)) [] (Wd mu la ro et)).bind fun q => Rr X (d + 1) M (pc + 3) L (psh q.1 r) q.2 := by
  obtain ⟨h1, z, refs, h2⟩ := qO_ok hO
  subst hn
  refine Rr_cl (rest := r) hd ?_
  show g1 3 3 (o_iv M.1 i L _ _ _) = _
  simp only [g1, if_true, o_iv, hF, List.drop_left, Wd_get h1, h2, cellOf, List.take_left, true_and, and_true, if_true]
  unfold o_call
  exact if_pos ⟨hv, hm, hc⟩
theorem R_is {av : List Value} (hd : decode M.2.2.1 pc = .ok (.invokestatic i, 3)) (hF : fC M.1 i = some (1, ci, n, M') ∨ fC M.1 i = some (4, ci, n, M')) (hc : cs r ≤ 8) (hn : av.length = n) (hv : (exL av.reverse).length ≤ M'.2.2.2.1) (hm : M'.2.2.2.1 ≤ 45) : Rr X (d + 1) M pc L (av ++ r) h = (Rr X d M' 0 (ent M' av.reverse) [] h).bind fun q => Rr X (d + 1) M (pc + 3) L (psh q.1 r) q.2 := by
  subst hn
  refine Rr_cl (rest := r) hd ?_
  show g1 3 3 (o_is1 _ M.1 i L _ _ _) = _
  rcases hF with hF | hF
  · simp only [g1, if_true, o_is1, hF, List.drop_left, List.take_left]
    unfold o_call
    exact if_pos ⟨hv, hm, hc⟩
  · simp only [g1, if_true, o_is1, hF, List.drop_left, List.take_left]
    unfold o_call
    exact if_pos ⟨hv, hm, hc⟩
theorem R_max {x y : Int32} (hd : decode M.2.2.1 pc = .ok (.invokestatic i, 3)) (hF : fC M.1 i = some (6, ci, n, M')) (hc : cs r ≤ 8) : Rr X (d + 1) M pc L (.int y :: .int x :: r) h = Rr X (d + 1) M (pc + 3) L (.int (if x < y then y else x) :: r) h := by
  refine Rr_nx hd ?_
  show g1 3 3 (o_is1 _ M.1 i L _ _ _) = _
  simp only [g1, if_true, o_is1, hF]
  unfold o_math
  exact if_pos ⟨Nat.succ_pos _, hc⟩
theorem R_min {x y : Int32} (hd : decode M.2.2.1 pc = .ok (.invokestatic i, 3)) (hF : fC M.1 i = some (7, ci, n, M')) (hc : cs r ≤ 8) : Rr X (d + 1) M pc L (.int y :: .int x :: r) h = Rr X (d + 1) M (pc + 3) L (.int (if y < x then y else x) :: r) h := by
  refine Rr_nx hd ?_
  show g1 3 3 (o_is1 _ M.1 i L _ _ _) = _
  simp only [g1, if_true, o_is1, hF]
  unfold o_math
  exact if_pos ⟨Nat.succ_pos _, hc⟩
theorem R_abs {x : Int32} (hd : decode M.2.2.1 pc = .ok (.invokestatic i, 3)) (hF : fC M.1 i = some (8, ci, n, M')) (hc : cs r ≤ 8) : Rr X (d + 1) M pc L (.int x :: r) h = Rr X (d + 1) M (pc + 3) L (.int (if 0 ≤ x then x else 0 - x) :: r) h := by
  refine Rr_nx hd ?_
  show g1 3 3 (o_is1 _ M.1 i L _ _ _) = _
  simp only [g1, if_true, o_is1, hF]
  unfold o_math
  exact if_pos ⟨Nat.succ_pos _, hc⟩
theorem R_minL {x y : Int64} (hd : decode M.2.2.1 pc = .ok (.invokestatic i, 3)) (hF : fC M.1 i = some (9, ci, n, M')) (hc : cs r ≤ 8) : Rr X (d + 1) M pc L (.long y :: .long x :: r) h = Rr X (d + 1) M (pc + 3) L (.long (if y < x then y else x) :: r) h := by
  refine Rr_nx hd ?_
  show g1 3 3 (o_is1 _ M.1 i L _ _ _) = _
  simp only [g1, if_true, o_is1, hF]
  unfold o_math
  exact if_pos ⟨Nat.succ_pos _, hc⟩
theorem R_ir {x : Int32} (hd : decode M.2.2.1 pc = .ok (.ireturn, 1)) (hr : M.2.2.2.2 = some .int) : Rr X d M pc L [.int x] h = some (some (.int x), h) := by
  refine Rr_rt hd ?_
  show g1 1 1 (o_ir M.2.2.2.2 _) = _
  rw [hr]
  rfl
theorem R_zr {x : Int32} (hd : decode M.2.2.1 pc = .ok (.ireturn, 1)) (hr : M.2.2.2.2 = some .boolean) : Rr X d M pc L [.int x] h = if x = 0 ∨ x = 1 then some (some (.int x), h) else none := by
  split
  · rename_i hc
    refine Rr_rt hd ?_
    show g1 1 1 (o_ir M.2.2.2.2 _) = _
    rw [hr]
    exact if_pos hc
  · rename_i hc
    refine Rr_no hd ?_
    show g1 1 1 (o_ir M.2.2.2.2 _) = _
    rw [hr]
    exact if_neg hc
theorem R_dv {x y : Int32} (hd : decode M.2.2.1 pc = .ok (.idiv, 1)) : Rr X d M pc L (.int y :: .int x :: r) h = if y = 0 then none else Rr X d M (pc + 1) L (.int (x / y) :: r) h := by
  split
  · rename_i hc
    refine Rr_no hd ?_
    show g1 1 1 (o_i0 _ L _ _ _) = _
    simp only [g1, if_true, o_i0, hc]
  · rename_i hc
    refine Rr_nx hd ?_
    show g1 1 1 (o_i0 _ L _ _ _) = _
    simp only [g1, if_true, o_i0, hc, if_false]
    rfl
theorem R_rm {x y : Int32} (hd : decode M.2.2.1 pc = .ok (.irem, 1)) : Rr X d M pc L (.int y :: .int x :: r) h = if y = 0 then none else Rr X d M (pc + 1) L (.int (x - x / y * y) :: r) h := by
  split
  · rename_i hc
    refine Rr_no hd ?_
    show g1 1 1 (o_i0 _ L _ _ _) = _
    simp only [g1, if_true, o_i0, hc]
  · rename_i hc
    refine Rr_nx hd ?_
    show g1 1 1 (o_i0 _ L _ _ _) = _
    simp only [g1, if_true, o_i0, hc, if_false]
    rfl
theorem R_ldv {x y : Int64} (hd : decode M.2.2.1 pc = .ok (.ldiv, 1)) : Rr X d M pc L (.long y :: .long x :: r) h = if y = 0 then none else Rr X d M (pc + 1) L (.long (x / y) :: r) h := by
  split
  · rename_i hc
    refine Rr_no hd ?_
    show g1 1 1 (o_l0 _ L _ _ _) = _
    simp only [g1, if_true, o_l0, hc]
  · rename_i hc
    refine Rr_nx hd ?_
    show g1 1 1 (o_l0 _ L _ _ _) = _
    simp only [g1, if_true, o_l0, hc, if_false]
    rfl
end BRU
theorem R_ialT {d : Nat} {M : MI} {pc n : Nat} {L r : List Value} {h : Hp} {f : Nat → Int32} {j : Int32} (hd : decode M.2.2.1 pc = .ok (.iaload, 1)) : Rr (XL n f) d M pc L (.int j :: .float 0 :: r) h = if j < 0 ∨ n ≤ j.toNatClampNeg then none else Rr (XL n f) d M (pc + 1) L (.int (f j.toNatClampNeg) :: r) h := by
  have hX : XL n f 0 = some (n, f) := rfl
  split
  · rename_i hc
    refine Rr_no hd ?_
    show g1 1 1 (o_ial (XL n f) 0 L _ _ _) = _
    simp only [g1, if_true, o_ial, hX, hc, not_true, and_false, if_false]
  · rename_i hc
    refine Rr_nx hd ?_
    show g1 1 1 (o_ial (XL n f) 0 L _ _ _) = _
    simp only [g1, if_true, o_ial, hX, hc, not_false_eq_true, and_true, if_true]
    rfl
theorem R_lenT {d : Nat} {M : MI} {pc n : Nat} {L r : List Value} {h : Hp} {f : Nat → Int32} (hd : decode M.2.2.1 pc = .ok (.arraylength, 1)) : Rr (XL n f) d M pc L (.float 0 :: r) h = Rr (XL n f) d M (pc + 1) L (.int (Int32.ofNat n) :: r) h := by
  have hX : XL n f 0 = some (n, f) := rfl
  refine Rr_nx hd ?_
  show g1 1 1 (o_len (XL n f) L _ _ _) = _
  simp only [g1, if_true, o_len, hX]
  rfl
