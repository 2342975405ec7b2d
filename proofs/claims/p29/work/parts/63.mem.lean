-- ===== memory, frames
noncomputable def gOk (iv : IVs) (mu : Mu) : Prop := ∀ a k, ((ivL iv a 0).1 ≤ (mu a k).toInt ∧ (mu a k).toInt ≤ (ivL iv a 0).2) ∧ ((ivL iv a (k + 1)).1 ≤ (mu a k).toInt ∧ (mu a k).toInt ≤ (ivL iv a (k + 1)).2)
noncomputable def flOk (q : Option Nat) : Prop := q = none ∨ q = some 49 ∨ q = some 54 ∨ q = some 59 ∨ q = some 64
abbrev rOk (ro : Ro) : Prop := (∀ k, k < 6 → ro 3 k = some (19 + 5 * k)) ∧ (∀ k, k < 4 → ro 4 k = some (49 + 5 * k)) ∧ (∀ k, k < 6 → ro 5 k = some (69 + 2 * k)) ∧ flOk (ro 6 5)
abbrev frm (w : WS) (mu : Mu) (la : La) (ro : Ro) (mu' : Mu) (la' : La) (ro' : Ro) : Prop :=
  (∀ a k, wIn w a 0 = false → wIn w a (k + 1) = false → mu' a k = mu a k) ∧ (∀ a, wIn w a 0 = false → la' a = la a) ∧ (∀ a k, ¬ (a = 6 ∧ k = 5) → ro' a k = ro a k) ∧ (wIn w 6 6 = false → ro' 6 5 = ro 6 5)
theorem frm_r (w : WS) (mu : Mu) (la : La) (ro : Ro) : frm w mu la ro mu la ro := ⟨fun _ _ _ _ => rfl, fun _ _ => rfl, fun _ _ _ => rfl, fun _ => rfl⟩
theorem frm_t {w : WS} {mu mu' mu'' : Mu} {la la' la'' : La} {ro ro' ro'' : Ro} (h : frm w mu la ro mu' la' ro') (g : frm w mu' la' ro' mu'' la'' ro'') : frm w mu la ro mu'' la'' ro'' :=
  ⟨fun a k h1 h2 => (g.1 a k h1 h2).trans (h.1 a k h1 h2), fun a h1 => (g.2.1 a h1).trans (h.2.1 a h1), fun a k h1 => (g.2.2.1 a k h1).trans (h.2.2.1 a k h1), fun h1 => (g.2.2.2 h1).trans (h.2.2.2 h1)⟩
theorem wIn_mem {w : WS} {a k : Nat} : wIn w a k = true ↔ (a, k) ∈ w := by
  induction w with
  | nil => simp [wIn_n]
  | cons q w ih =>
    obtain ⟨b, j⟩ := q
    rw [wIn_c, Bool.or_eq_true, ih, Bool.and_eq_true, Nat.beq_eq, Nat.beq_eq, List.mem_cons, Prod.mk.injEq]
    constructor
    · rintro (⟨rfl, rfl⟩ | h)
      · exact .inl ⟨rfl, rfl⟩
      · exact .inr h
    · rintro (⟨rfl, rfl⟩ | h)
      · exact .inl ⟨rfl, rfl⟩
      · exact .inr h
theorem wSub_f {w v : WS} (h : wSub w v = true) {a k : Nat} (hv : wIn v a k = false) : wIn w a k = false := by
  cases hw : wIn w a k
  · rfl
  · have := List.all_eq_true.mp h (a, k) (wIn_mem.mp hw)
    rw [hv] at this
    cases this
theorem frm_s {w v : WS} {mu mu' : Mu} {la la' : La} {ro ro' : Ro} (hs : wSub w v = true) (h : frm w mu la ro mu' la' ro') : frm v mu la ro mu' la' ro' :=
  ⟨fun a k h1 h2 => h.1 a k (wSub_f hs h1) (wSub_f hs h2), fun a h1 => h.2.1 a (wSub_f hs h1), h.2.2.1, fun h1 => h.2.2.2 (wSub_f hs h1)⟩
theorem mlk_mem {a k s : Nat} {o : Int} : ∀ {m : Mem}, mlk m a k = some (s, o) → (a, k, s, o) ∈ m
  | [], h => by cases h
  | (b, j, s', o') :: m, h => by
    rw [mlk_c] at h
    dsimp only at h
    split at h
    · rename_i q
      rw [Bool.and_eq_true, Nat.beq_eq, Nat.beq_eq] at q
      cases h
      obtain ⟨rfl, rfl⟩ := q
      exact List.mem_cons_self
    · exact List.mem_cons_of_mem _ (mlk_mem h)
theorem mdel_mem {a k b j s : Nat} {o : Int} : ∀ {m : Mem}, (b, j, s, o) ∈ mdel m a k → (b, j, s, o) ∈ m ∧ ¬ (b = a ∧ j = k)
  | [], h => by cases h
  | (b', j', s', o') :: m, h => by
    rw [mdel_c] at h
    dsimp only at h
    split at h
    · obtain ⟨h1, h2⟩ := mdel_mem h
      exact ⟨List.mem_cons_of_mem _ h1, h2⟩
    · rename_i q
      rw [Bool.and_eq_true, Nat.beq_eq, Nat.beq_eq] at q
      rcases List.mem_cons.mp h with e | e
      · cases e
        exact ⟨List.mem_cons_self, q⟩
      · obtain ⟨h1, h2⟩ := mdel_mem e
        exact ⟨List.mem_cons_of_mem _ h1, h2⟩
theorem mdelA_mem {a b j s : Nat} {o : Int} : ∀ {m : Mem}, (b, j, s, o) ∈ mdelA m a → (b, j, s, o) ∈ m ∧ ¬ b = a
  | [], h => by cases h
  | (b', j', s', o') :: m, h => by
    rw [mdelA_c] at h
    dsimp only at h
    split at h
    · obtain ⟨h1, h2⟩ := mdelA_mem h
      exact ⟨List.mem_cons_of_mem _ h1, h2⟩
    · rename_i q
      rw [Nat.beq_eq] at q
      rcases List.mem_cons.mp h with e | e
      · cases e
        exact ⟨List.mem_cons_self, q⟩
      · obtain ⟨h1, h2⟩ := mdelA_mem e
        exact ⟨List.mem_cons_of_mem _ h1, h2⟩
theorem mdelW_mem {w : WS} {b j s : Nat} {o : Int} : ∀ {m : Mem}, (b, j, s, o) ∈ mdelW m w → (b, j, s, o) ∈ m ∧ wIn w b 0 = false ∧ wIn w b (j + 1) = false
  | [], h => by cases h
  | (b', j', s', o') :: m, h => by
    rw [mdelW_c] at h
    dsimp only at h
    split at h
    · obtain ⟨h1, h2⟩ := mdelW_mem h
      exact ⟨List.mem_cons_of_mem _ h1, h2⟩
    · rename_i q
      rw [Bool.not_eq_true, Bool.or_eq_false_iff] at q
      rcases List.mem_cons.mp h with e | e
      · cases e
        exact ⟨List.mem_cons_self, q⟩
      · obtain ⟨h1, h2⟩ := mdelW_mem e
        exact ⟨List.mem_cons_of_mem _ h1, h2⟩
theorem mdelP_mem {w : WS} {b j s : Nat} {o : Int} : ∀ {m : Mem}, (b, j, s, o) ∈ mdelP m w → (b, j, s, o) ∈ m ∧ wIn w b j = false
  | [], h => by cases h
  | (b', j', s', o') :: m, h => by
    rw [mdelP_c] at h
    dsimp only at h
    split at h
    · obtain ⟨h1, h2⟩ := mdelP_mem h
      exact ⟨List.mem_cons_of_mem _ h1, h2⟩
    · rename_i q
      rw [Bool.not_eq_true] at q
      rcases List.mem_cons.mp h with e | e
      · cases e
        exact ⟨List.mem_cons_self, q⟩
      · obtain ⟨h1, h2⟩ := mdelP_mem e
        exact ⟨List.mem_cons_of_mem _ h1, h2⟩
theorem sOk_mem {ν : Nat → Int} {σ : St} {mu mu' : Mu} {m : Mem} (h : sOk ν σ mu) (hm : mOk ν σ.1 m mu') : sOk ν (wMem σ m) mu' := ⟨h.1, h.2.1, h.2.2.1, hm, h.2.2.2.2⟩
section MEM
variable {iv : IVs} {ν : Nat → Int} {σ : St} {mu : Mu} {la : La} {ro : Ro} {a k s : Nat} {o : Int}
theorem ldM_ok {j : Nat} (h : sOk ν σ mu) (hj : (ivL iv a j).1 ≤ (mu a k).toInt ∧ (mu a k).toInt ≤ (ivL iv a j).2) : got ν σ mu (ldM iv σ a k j) (.int (mu a k)) := by
  unfold ldM
  split
  · rename_i s o e
    obtain ⟨h1, h2⟩ := h.2.2.2.1 _ _ _ _ (mlk_mem e)
    exact got_s h ⟨h1, h2⟩
  · have f := fre_ok h hj.1 hj.2
    refine ⟨_, up1_a ν σ.1 (mu a k).toInt, Nat.le_succ _, sOk_mem f ?_, Nat.lt_succ_self _, by rw [up1_s, Int.add_zero]⟩
    intro b j s o hm
    rcases List.mem_cons.mp hm with q | q
    · cases q
      exact ⟨Nat.lt_succ_self _, by rw [up1_s, Int.add_zero]⟩
    · exact f.2.2.2.1 _ _ _ _ q
theorem ldU_ok (h : sOk ν σ mu) (hg : gOk iv mu) : got ν σ mu (ldU iv σ a) (.int (mu a k)) := got_fi h (hg a k).1.1 (hg a k).1.2
theorem up2_v (mu : Mu) (a k b j : Nat) (v : Int32) : up2 mu a k v b j = mu b j ∨ (b = a ∧ j = k ∧ up2 mu a k v b j = v) := by
  by_cases h1 : b = a
  · by_cases h2 : j = k
    · subst h1; subst h2
      exact .inr ⟨rfl, rfl, up2_s mu b j v⟩
    · exact .inl (up2_k h2)
  · exact .inl (up2_a h1)
theorem stM_ok {x : Int32} (h : sOk ν σ mu) (hs : s < σ.1) (hx : x.toInt = ν s + o) : sOk ν (stM σ a k s o) (up2 mu a k x) := by
  refine sOk_mem h ?_
  intro b j s' o' hm
  rcases List.mem_cons.mp hm with q | q
  · cases q
    rw [up2_s]
    exact ⟨hs, hx⟩
  · obtain ⟨h1, h2⟩ := mdel_mem q
    obtain ⟨h3, h4⟩ := h.2.2.2.1 _ _ _ _ h1
    rcases up2_v mu a k b j x with e | ⟨e1, e2, _⟩
    · rw [e]; exact ⟨h3, h4⟩
    · exact absurd ⟨e1, e2⟩ h2
theorem stU_ok {mu' : Mu} (h : sOk ν σ mu) (hu : ∀ b j, ¬ b = a → mu' b j = mu b j) : sOk ν (stU σ a) mu' := by
  refine sOk_mem h ?_
  intro b j s' o' hm
  obtain ⟨h1, h2⟩ := mdelA_mem hm
  rw [hu b j h2]
  exact h.2.2.2.1 _ _ _ _ h1
theorem hav_ok {w : WS} {mu' : Mu} {la' : La} {ro' : Ro} (h : sOk ν σ mu) (f : frm w mu la ro mu' la' ro') : sOk ν (wMem σ (mdelW σ.2.2.1 w)) mu' := by
  refine sOk_mem h ?_
  intro b j s' o' hm
  obtain ⟨h1, h2, h3⟩ := mdelW_mem hm
  rw [f.1 b j h2 h3]
  exact h.2.2.2.1 _ _ _ _ h1
theorem frm_up {w : WS} {x : Int32} (hw : wIn w a 0 = true ∨ wIn w a (k + 1) = true) : frm w mu la ro (up2 mu a k x) la ro := by
  refine ⟨fun b j h1 h2 => ?_, fun _ _ => rfl, fun _ _ _ => rfl, fun _ => rfl⟩
  rcases up2_v mu a k b j x with e | ⟨e1, e2, _⟩
  · exact e
  · subst e1; subst e2
    rcases hw with q | q
    · rw [h1] at q; cases q
    · rw [h2] at q; cases q
theorem frm_upJ {w : WS} {x : Int64} (hw : wIn w a 0 = true) : frm w mu la ro mu (upJ la a k x) ro := by
  refine ⟨fun _ _ _ _ => rfl, fun b h1 => ?_, fun _ _ _ => rfl, fun _ => rfl⟩
  have : b ≠ a := fun e => by rw [e, hw] at h1; cases h1
  exact if_neg this
theorem inV_ok {j : Nat} {x : Int32} (h : sOk ν σ mu) (hx : x.toInt = ν s + o) (q : inV iv σ a j s o = true) : (ivL iv a j).1 ≤ x.toInt ∧ x.toInt ≤ (ivL iv a j).2 := by
  unfold inV at q
  split at q
  · rename_i l h0 e1
    have a1 := itv_ok h.2.2.1 e1
    rw [Bool.and_eq_true, ile_iff, ile_iff] at q
    exact ⟨by omega, by omega⟩
  · cases q
theorem gOk_up {x : Int32} (hg : gOk iv mu) (h0 : (ivL iv a 0).1 ≤ x.toInt ∧ x.toInt ≤ (ivL iv a 0).2) (h1 : (ivL iv a (k + 1)).1 ≤ x.toInt ∧ x.toInt ≤ (ivL iv a (k + 1)).2) : gOk iv (up2 mu a k x) := by
  intro b j
  rcases up2_v mu a k b j x with e | ⟨e1, e2, e3⟩
  · rw [e]; exact hg b j
  · rw [e3]; subst e1; subst e2; exact ⟨h0, h1⟩
/-- a row whose places have no interval of their own; a cell whose row has none -/
noncomputable def ivR (iv : IVs) (a : Nat) : Bool := iv.all fun q => !(Nat.beq q.1 a) || Nat.beq q.2.1 0
noncomputable def ivF (iv : IVs) (a : Nat) : Bool := iv.all fun q => !(Nat.beq q.1 a) || !(Nat.beq q.2.1 0)
theorem ivR_ok {j : Nat} : ∀ {iv : IVs}, ivR iv a = true → ivL iv a (j + 1) = (iLo, iHi)
  | [], _ => rfl
  | (b, i, lo, hi) :: iv, h => by
    unfold ivR at h
    rw [List.all_cons, Bool.and_eq_true, Bool.or_eq_true, Bool.not_eq_true', Nat.beq_eq] at h
    rw [ivL_c, if_neg, ivR_ok h.2]
    rw [Bool.and_eq_true, Nat.beq_eq]
    rintro ⟨q, q2⟩
    rcases h.1 with h1 | h1
    · rw [q, Nat.beq_refl] at h1; cases h1
    · rw [Nat.beq_eq] at q2; simp only at h1; omega
theorem ivF_ok : ∀ {iv : IVs}, ivF iv a = true → ivL iv a 0 = (iLo, iHi)
  | [], _ => rfl
  | (b, i, lo, hi) :: iv, h => by
    unfold ivF at h
    rw [List.all_cons, Bool.and_eq_true, Bool.or_eq_true, Bool.not_eq_true', Bool.not_eq_true'] at h
    rw [ivL_c, if_neg, ivF_ok h.2]
    rw [Bool.and_eq_true, Nat.beq_eq]
    rintro ⟨q, q2⟩
    rcases h.1 with h1 | h1
    · rw [q, Nat.beq_refl] at h1; cases h1
    · rw [q2] at h1; cases h1
theorem top_ok (x : Int32) : (iLo, iHi).1 ≤ x.toInt ∧ x.toInt ≤ (iLo, iHi).2 := ⟨i_lo x, i_hi x⟩
end MEM
