-- ===== the checker is sound: ints, states, values
noncomputable def eOk (ν : Nat → Int) (n : Nat) (e : Env) : Prop := (∀ s lo hi, (s, lo, hi) ∈ e → s < n ∧ lo ≤ ν s ∧ ν s ≤ hi) ∧ 0 < n ∧ ν 0 = 0
theorem lk_mem {s : Nat} {lo hi : Int} : ∀ {e : Env}, lk e s = some (lo, hi) → (s, lo, hi) ∈ e
  | [], q => by cases q
  | (a, l, h) :: e, q => by
    rw [lk_c] at q
    dsimp only at q
    split at q
    · rename_i b
      cases q
      rw [Nat.eq_of_beq_eq_true b]
      exact List.mem_cons_self
    · exact List.mem_cons_of_mem _ (lk_mem q)
theorem lk_ok {ν : Nat → Int} {n s : Nat} {e : Env} {lo hi : Int} (he : eOk ν n e) (h : lk e s = some (lo, hi)) : s < n ∧ lo ≤ ν s ∧ ν s ≤ hi := he.1 s lo hi (lk_mem h)
theorem itv_ok {ν : Nat → Int} {n s : Nat} {o : Int} {e : Env} {lo hi : Int} (he : eOk ν n e) (h : itv e s o = some (lo, hi)) : s < n ∧ lo ≤ ν s + o ∧ ν s + o ≤ hi := by
  unfold itv at h
  cases hb : Nat.beq s 0
  · rw [hb, cond_false] at h
    split at h
    · rename_i a b hl
      cases h
      obtain ⟨h1, h2, h3⟩ := lk_ok he hl
      exact ⟨h1, by omega, by omega⟩
    · cases h
  · rw [hb, cond_true] at h
    cases h
    cases Nat.eq_of_beq_eq_true hb
    rw [he.2.2]
    exact ⟨he.2.1, by omega, by omega⟩
theorem imn_le {a b : Int} : imn a b ≤ a ∧ imn a b ≤ b := by
  unfold imn
  split
  · rename_i h; have := (ile_iff _ _).mp h; omega
  · rename_i h; have : ¬ a ≤ b := fun q => h ((ile_iff _ _).mpr q); omega
theorem imx_ge {a b : Int} : a ≤ imx a b ∧ b ≤ imx a b := by
  unfold imx
  split
  · rename_i h; have := (ile_iff _ _).mp h; omega
  · rename_i h; have : ¬ a ≤ b := fun q => h ((ile_iff _ _).mpr q); omega
theorem imn_or {a b : Int} : imn a b = a ∨ imn a b = b := by
  unfold imn; split
  · exact .inl rfl
  · exact .inr rfl
theorem imx_or {a b : Int} : imx a b = a ∨ imx a b = b := by
  unfold imx; split
  · exact .inr rfl
  · exact .inl rfl
theorem eOk_cons {ν : Nat → Int} {n s : Nat} {e : Env} {lo hi : Int} (he : eOk ν n e) (hs : s < n) (h1 : lo ≤ ν s) (h2 : ν s ≤ hi) : eOk ν n ((s, lo, hi) :: e) := by
  refine ⟨?_, he.2⟩
  intro s' l' h' hm
  rcases List.mem_cons.mp hm with q | q
  · cases q; exact ⟨hs, h1, h2⟩
  · exact he.1 _ _ _ q
/-- a state narrowed: the same symbols and memory -/
abbrev stE (σ τ : St) : Prop := τ.1 = σ.1 ∧ τ.2.2.1 = σ.2.2.1 ∧ τ.2.2.2 = σ.2.2.2
theorem stE_r (σ : St) : stE σ σ := ⟨rfl, rfl, rfl⟩
theorem stE_t {a b c : St} (h : stE a b) (g : stE b c) : stE a c := ⟨g.1.trans h.1, g.2.1.trans h.2.1, g.2.2.trans h.2.2⟩
/-- a narrowing is right: it has a case wherever the symbols hold within -/
abbrev nOk (ν : Nat → Int) (σ : St) (r : Option St) : Prop := ∃ τ, r = some τ ∧ stE σ τ ∧ eOk ν τ.1 τ.2.1
theorem nar_ok {ν : Nat → Int} {σ : St} {s : Nat} {lo hi : Int} (he : eOk ν σ.1 σ.2.1) (h1 : lo ≤ ν s) (h2 : ν s ≤ hi) : nOk ν σ (nar σ s lo hi) := by
  unfold nar
  split
  · rename_i a b hl
    obtain ⟨h3, h4, h5⟩ := lk_ok he hl
    have m1 : imx a lo ≤ ν s := by rcases imx_or (a := a) (b := lo) with q | q <;> rw [q] <;> assumption
    have m2 : ν s ≤ imn b hi := by rcases imn_or (a := b) (b := hi) with q | q <;> rw [q] <;> assumption
    rw [if_pos ((ile_iff _ _).mpr (by omega))]
    split
    · exact ⟨σ, rfl, stE_r σ, he⟩
    · exact ⟨_, rfl, ⟨rfl, rfl, rfl⟩, eOk_cons he h3 m1 m2⟩
  · exact ⟨σ, rfl, stE_r σ, he⟩
theorem nar2_ok {ν : Nat → Int} {σ : St} {r : Option St} {s : Nat} {lo hi : Int} (h : nOk ν σ r) (h1 : lo ≤ ν s) (h2 : ν s ≤ hi) : nOk ν σ (nar2 r s lo hi) := by
  obtain ⟨τ, rfl, e1, e2⟩ := h
  obtain ⟨τ', q, e3, e4⟩ := nar_ok (σ := τ) e2 h1 h2
  exact ⟨τ', q, stE_t e1 e3, e4⟩
theorem rLt_ok {ν : Nat → Int} {σ : St} {s s' : Nat} {o o' : Int} (he : eOk ν σ.1 σ.2.1) (h : ν s + o < ν s' + o') : nOk ν σ (rLt σ s o s' o') := by
  unfold rLt
  split
  · rename_i b
    cases Nat.eq_of_beq_eq_true b
    rw [if_pos ((ile_iff _ _).mpr (by omega))]
    exact ⟨σ, rfl, stE_r σ, he⟩
  · split
    · rename_i l h0 l' h0' e1 e2
      have a1 := itv_ok he e1
      have a2 := itv_ok he e2
      exact nar2_ok (nar_ok he (by omega) (by omega)) (by omega) (by omega)
    · exact ⟨σ, rfl, stE_r σ, he⟩
theorem rLe_ok {ν : Nat → Int} {σ : St} {s s' : Nat} {o o' : Int} (he : eOk ν σ.1 σ.2.1) (h : ν s + o ≤ ν s' + o') : nOk ν σ (rLe σ s o s' o') := by
  unfold rLe
  split
  · rename_i b
    cases Nat.eq_of_beq_eq_true b
    rw [if_pos ((ile_iff _ _).mpr (by omega))]
    exact ⟨σ, rfl, stE_r σ, he⟩
  · split
    · rename_i l h0 l' h0' e1 e2
      have a1 := itv_ok he e1
      have a2 := itv_ok he e2
      exact nar2_ok (nar_ok he (by omega) (by omega)) (by omega) (by omega)
    · exact ⟨σ, rfl, stE_r σ, he⟩
theorem rEq_ok {ν : Nat → Int} {σ : St} {s s' : Nat} {o o' : Int} (he : eOk ν σ.1 σ.2.1) (h : ν s + o = ν s' + o') : nOk ν σ (rEq σ s o s' o') := by
  unfold rEq
  split
  · rename_i l h0 l' h0' e1 e2
    have a1 := itv_ok he e1
    have a2 := itv_ok he e2
    exact nar2_ok (nar_ok he (by omega) (by omega)) (by omega) (by omega)
  · exact ⟨σ, rfl, stE_r σ, he⟩
theorem rNe_ok {ν : Nat → Int} {σ : St} {s s' : Nat} {o o' : Int} (he : eOk ν σ.1 σ.2.1) (h : ¬ ν s + o = ν s' + o') : nOk ν σ (rNe σ s o s' o') := by
  unfold rNe
  split
  · rename_i l h0 l' h0' e1 e2
    have a1 := itv_ok he e1
    have a2 := itv_ok he e2
    have tr : nOk ν σ (some σ) := ⟨σ, rfl, stE_r σ, he⟩
    simp only [Bool.and_eq_true, ile_iff]
    split
    · split
      · exact nar_ok he (by omega) (by omega)
      · split
        · exact nar_ok he (by omega) (by omega)
        · exact tr
    · split
      · split
        · exact nar_ok he (by omega) (by omega)
        · split
          · exact nar_ok he (by omega) (by omega)
          · exact tr
      · exact tr
  · exact ⟨σ, rfl, stE_r σ, he⟩
/-- one of the cases is right -/
abbrev nOkL (ν : Nat → Int) (σ : St) (l : List St) : Prop := ∃ τ, τ ∈ l ∧ stE σ τ ∧ eOk ν τ.1 τ.2.1
theorem oL_ok {ν : Nat → Int} {σ : St} {r : Option St} (h : nOk ν σ r) : nOkL ν σ (oL r) := by
  obtain ⟨τ, rfl, h1, h2⟩ := h
  exact ⟨τ, List.mem_singleton.mpr rfl, h1, h2⟩
theorem nOkL_l {ν : Nat → Int} {σ : St} {a b : List St} (h : nOkL ν σ a) : nOkL ν σ (a ++ b) := by
  obtain ⟨τ, h1, h2⟩ := h
  exact ⟨τ, List.mem_append_left _ h1, h2⟩
theorem nOkL_r {ν : Nat → Int} {σ : St} {a b : List St} (h : nOkL ν σ b) : nOkL ν σ (a ++ b) := by
  obtain ⟨τ, h1, h2⟩ := h
  exact ⟨τ, List.mem_append_right _ h1, h2⟩
theorem brC_ok {ν : Nat → Int} {σ : St} {s s' : Nat} {o o' : Int} (cc : ClassFile.Cond) (he : eOk ν σ.1 σ.2.1) (h : cH cc (ν s + o) (ν s' + o')) : nOkL ν σ (brC cc σ s o s' o') := by
  cases cc
  · exact oL_ok (rEq_ok he h)
  · unfold brC
    simp only
    split
    · rcases Int.lt_or_gt_of_ne h with q | q
      · exact nOkL_l (oL_ok (rLt_ok he q))
      · exact nOkL_r (oL_ok (rLt_ok he q))
    · exact oL_ok (rNe_ok he h)
  · exact oL_ok (rLt_ok he h)
  · exact oL_ok (rLe_ok he h)
  · exact oL_ok (rLt_ok he h)
  · exact oL_ok (rLe_ok he h)
theorem brL_ok {ν : Nat → Int} {σ : St} {s s' : Nat} {o o' : Int} (cc : ClassFile.Cond) (he : eOk ν σ.1 σ.2.1) (h : cH cc (ν s + o) (ν s' + o')) : nOkL ν σ (brL cc σ s o s' o') := by
  cases cc
  · exact brC_ok .eq he h
  · exact oL_ok (rNe_ok he h)
  · exact brC_ok .lt he h
  · exact brC_ok .ge he h
  · exact brC_ok .gt he h
  · exact brC_ok .le he h
theorem cH_or (cc : ClassFile.Cond) (a b : Int) : cH cc a b ∨ cH (ngC cc) a b := by
  cases cc <;> simp only [cH, ngC] <;> omega
-- ===== values, states
noncomputable def rv (ν : Nat → Int) (n : Nat) : AV → Value → Prop
  | (.inl (s, o)), .int x => s < n ∧ x.toInt = ν s + o
  | (.inr (.inl (s, o))), .long x => s < n ∧ x.toInt = ν s + o
  | (.inr (.inr (.inl (a)))), .ref b => b = a
  | (.inr (.inr (.inr (.inl (k))))), .float q => (k = 1 ∨ k = 2) ∧ q = UInt32.ofNat k
  | (.inr (.inr (.inr (.inr true)))), .null => True
  | (.inr (.inr (.inr (.inr false)))), _ => True
  | _, _ => False
abbrev agr (n : Nat) (ν ν' : Nat → Int) : Prop := ∀ s, s < n → ν' s = ν s
theorem agr_r (n : Nat) (ν : Nat → Int) : agr n ν ν := fun _ _ => rfl
theorem agr_t {n m : Nat} {a b c : Nat → Int} (h : agr n a b) (g : agr m b c) (hl : n ≤ m) : agr n a c := fun s hs => (g s (Nat.lt_of_lt_of_le hs hl)).trans (h s hs)
theorem agr_s {n m : Nat} {a b : Nat → Int} (h : agr m a b) (hl : n ≤ m) : agr n a b := fun s hs => h s (Nat.lt_of_lt_of_le hs hl)
theorem rv_i {ν : Nat → Int} {n s : Nat} {o : Int} {v : Value} (h : rv ν n ((.inl (s, o))) v) : ∃ x : Int32, v = .int x ∧ s < n ∧ x.toInt = ν s + o := by
  cases v <;> first | exact ⟨_, rfl, h⟩ | exact h.elim
theorem rv_l {ν : Nat → Int} {n s : Nat} {o : Int} {v : Value} (h : rv ν n ((.inr (.inl (s, o)))) v) : ∃ x : Int64, v = .long x ∧ s < n ∧ x.toInt = ν s + o := by
  cases v <;> first | exact ⟨_, rfl, h⟩ | exact h.elim
theorem rv_r {ν : Nat → Int} {n a : Nat} {v : Value} (h : rv ν n ((.inr (.inr (.inl (a))))) v) : v = .ref a := by
  cases v <;> first | exact congrArg Value.ref h | exact h.elim
theorem rv_t {ν : Nat → Int} {n k : Nat} {v : Value} (h : rv ν n ((.inr (.inr (.inr (.inl (k)))))) v) : (k = 1 ∨ k = 2) ∧ v = .float (UInt32.ofNat k) := by
  cases v <;> first | exact ⟨h.1, congrArg Value.float h.2⟩ | exact h.elim
theorem rv_n {ν : Nat → Int} {n : Nat} {v : Value} (h : rv ν n (.inr (.inr (.inr (.inr true)))) v) : v = .null := by
  cases v <;> first | rfl | exact h.elim
theorem rv_u (ν : Nat → Int) (n : Nat) (v : Value) : rv ν n (.inr (.inr (.inr (.inr false)))) v := by cases v <;> exact trivial
theorem rv_m {ν ν' : Nat → Int} {n n' : Nat} {a : AV} {v : Value} (h : rv ν n a v) (g : agr n ν ν') (hl : n ≤ n') : rv ν' n' a v := by
  rcases a with ⟨s, o⟩ | ⟨s, o⟩ | a | k | b | b
  · obtain ⟨x, rfl, h1, h2⟩ := rv_i h
    exact ⟨Nat.lt_of_lt_of_le h1 hl, by rw [g _ h1]; exact h2⟩
  · obtain ⟨x, rfl, h1, h2⟩ := rv_l h
    exact ⟨Nat.lt_of_lt_of_le h1 hl, by rw [g _ h1]; exact h2⟩
  · cases rv_r h; rfl
  · obtain ⟨h1, rfl⟩ := rv_t h; exact ⟨h1, rfl⟩
  · exact rv_u _ _ _
  · cases rv_n h; exact trivial
/-- the symbols of a value are below n -/
noncomputable def wfA (n : Nat) : AV → Prop
  | (.inl (s, _)) => s < n
  | (.inr (.inl (s, _))) => s < n
  | _ => True
theorem rv_wf {ν : Nat → Int} {n : Nat} {a : AV} {v : Value} (h : rv ν n a v) : wfA n a := by
  rcases a with ⟨s, o⟩ | ⟨s, o⟩ | a | k | b | b
  · obtain ⟨x, rfl, h1, h2⟩ := rv_i h; exact h1
  · obtain ⟨x, rfl, h1, h2⟩ := rv_l h; exact h1
  · exact trivial
  · exact trivial
  · exact trivial
  · exact trivial
theorem rv_b {ν ν' : Nat → Int} {n n' : Nat} {a : AV} {v : Value} (h : rv ν' n' a v) (w : wfA n a) (g : agr n ν ν') : rv ν n a v := by
  rcases a with ⟨s, o⟩ | ⟨s, o⟩ | a | k | b | b
  · obtain ⟨x, rfl, h1, h2⟩ := rv_i h
    exact ⟨w, by rw [← g _ w]; exact h2⟩
  · obtain ⟨x, rfl, h1, h2⟩ := rv_l h
    exact ⟨w, by rw [← g _ w]; exact h2⟩
  · cases rv_r h; rfl
  · obtain ⟨h1, rfl⟩ := rv_t h; exact ⟨h1, rfl⟩
  · exact rv_u _ _ _
  · cases rv_n h; exact trivial
noncomputable def rvs (ν : Nat → Int) (n : Nat) : List AV → List Value → Prop
  | [], [] => True
  | a :: l, v :: r => rv ν n a v ∧ rvs ν n l r
  | _, _ => False
theorem rvs_m {ν ν' : Nat → Int} {n n' : Nat} (g : agr n ν ν') (hl : n ≤ n') : ∀ {l : List AV} {r : List Value}, rvs ν n l r → rvs ν' n' l r
  | [], [], _ => trivial
  | _ :: _, _ :: _, h => ⟨rv_m h.1 g hl, rvs_m g hl h.2⟩
  | [], _ :: _, h => h.elim
  | _ :: _, [], h => h.elim
theorem rvs_len {ν : Nat → Int} {n : Nat} : ∀ {l : List AV} {r : List Value}, rvs ν n l r → l.length = r.length
  | [], [], _ => rfl
  | _ :: _, _ :: _, h => by rw [List.length_cons, List.length_cons, rvs_len h.2]
  | [], _ :: _, h => h.elim
  | _ :: _, [], h => h.elim
theorem rvs_c {ν : Nat → Int} {n : Nat} {a : AV} {l : List AV} {r : List Value} (h : rvs ν n (a :: l) r) : ∃ v r', r = v :: r' ∧ rv ν n a v ∧ rvs ν n l r' := by
  cases r with
  | nil => exact h.elim
  | cons v r => exact ⟨v, r, rfl, h.1, h.2⟩
theorem rvs_0 {ν : Nat → Int} {n : Nat} {r : List Value} (h : rvs ν n [] r) : r = [] := by
  cases r with
  | nil => rfl
  | cons v r => exact h.elim
theorem rvs_get {ν : Nat → Int} {n : Nat} {a : AV} : ∀ {L : List AV} {Lc : List Value} {k : Nat}, rvs ν n L Lc → L[k]? = some a → ∃ v, Lc[k]? = some v ∧ rv ν n a v
  | b :: L, v :: Lc, 0, h, e => by
    rw [List.getElem?_cons_zero] at e
    cases e
    exact ⟨v, rfl, h.1⟩
  | b :: L, v :: Lc, k + 1, h, e => by
    rw [List.getElem?_cons_succ] at e
    obtain ⟨w, h1, h2⟩ := rvs_get h.2 e
    exact ⟨w, by rw [List.getElem?_cons_succ]; exact h1, h2⟩
  | [], _, _, _, e => by simp at e
  | _ :: _, [], _, h, _ => h.elim
theorem rvs_set {ν : Nat → Int} {n : Nat} {a : AV} {v : Value} (hv : rv ν n a v) : ∀ {L : List AV} {Lc : List Value} {k : Nat}, rvs ν n L Lc → rvs ν n (setA L k a) (Lc.set k v)
  | [], [], _, h => h
  | b :: L, w :: Lc, 0, h => ⟨hv, h.2⟩
  | b :: L, w :: Lc, k + 1, h => ⟨h.1, rvs_set hv h.2⟩
  | [], _ :: _, _, h => h.elim
  | _ :: _, [], _, h => h.elim
theorem setA_len {a : AV} : ∀ {L : List AV} {k : Nat}, (setA L k a).length = L.length
  | [], _ => rfl
  | _ :: _, 0 => rfl
  | _ :: L, k + 1 => by rw [setA, List.length_cons, List.length_cons, setA_len]
theorem rv_wid {ν : Nat → Int} {n : Nat} {a : AV} {v : Value} (h : rv ν n a v) : rv ν n (wid a) (if v.category = 2 then mkU else v) := by
  rcases a with ⟨s, o⟩ | ⟨s, o⟩ | a | k | b | b
  · obtain ⟨x, rfl, h1, h2⟩ := rv_i h; exact ⟨h1, h2⟩
  · exact rv_u _ _ _
  · cases rv_r h; rfl
  · obtain ⟨h1, rfl⟩ := rv_t h; exact ⟨h1, rfl⟩
  · exact rv_u _ _ _
  · cases rv_n h; exact trivial
theorem set_get {α : Type} : ∀ {l : List α} {k : Nat} {v : α}, l[k]? = some v → l.set k v = l
  | a :: l, 0, v, h => by rw [List.getElem?_cons_zero] at h; cases h; rfl
  | a :: l, k + 1, v, h => by rw [List.getElem?_cons_succ] at h; rw [List.set_cons_succ, set_get h]
  | [], _, _, _ => rfl
theorem rvs_put {ν : Nat → Int} {n : Nat} {a : AV} {v : Value} (hv : rv ν n a v) {L : List AV} {Lc : List Value} {k : Nat} (h : rvs ν n L Lc) (hk : k < L.length) : rvs ν n (putA L k a) (sL Lc k v) := by
  cases k with
  | zero => exact rvs_set hv h
  | succ k =>
    have hk' : k < L.length := Nat.lt_of_succ_lt hk
    have e : L[k]? = some L[k] := List.getElem?_eq_getElem hk'
    obtain ⟨w, e1, e2⟩ := rvs_get h e
    show rvs ν n (match L[k]? with
      | some b => setA (setA L k (wid b)) (k + 1) a
      | none => L) ((if (Lc.getD k mkU).category = 2 then Lc.set k mkU else Lc).set (k + 1) v)
    rw [e]
    refine rvs_set hv ?_
    have e3 : Lc.getD k mkU = w := by rw [List.getD_eq_getElem?_getD, e1]; rfl
    rw [e3]
    have e4 : (if w.category = 2 then Lc.set k mkU else Lc) = Lc.set k (if w.category = 2 then mkU else w) := by
      split
      · rfl
      · exact (set_get e1).symm
    rw [e4]
    exact rvs_set (rv_wid e2) h
theorem putA_len {a : AV} {L : List AV} {k : Nat} : (putA L k a).length = L.length := by
  cases k with
  | zero => exact setA_len
  | succ k =>
    show (match L[k]? with
      | some b => setA (setA L k (wid b)) (k + 1) a
      | none => L).length = L.length
    split
    · rw [setA_len, setA_len]
    · rfl
-- ===== states
abbrev Mu : Type := Nat → Nat → Int32
abbrev La : Type := Nat → Nat → Int64
abbrev Ro : Type := Nat → Nat → Option Nat
abbrev mOk (ν : Nat → Int) (n : Nat) (m : Mem) (mu : Mu) : Prop := ∀ a k s o, (a, k, s, o) ∈ m → s < n ∧ (mu a k).toInt = ν s + o
abbrev dOk (ν : Nat → Int) (n : Nat) (d : Dvs) : Prop := ∀ b s o c r, (b, s, o, c, r) ∈ d → s < n ∧ r < n ∧ ν r = if b = true then (ν s + o).tdiv c else (ν s + o).tmod c
abbrev sOk (ν : Nat → Int) (σ : St) (mu : Mu) : Prop := 0 < σ.1 ∧ ν 0 = 0 ∧ eOk ν σ.1 σ.2.1 ∧ mOk ν σ.1 σ.2.2.1 mu ∧ dOk ν σ.1 σ.2.2.2
noncomputable def up1 (ν : Nat → Int) (n : Nat) (y : Int) : Nat → Int := fun s => if s = n then y else ν s
theorem up1_s (ν : Nat → Int) (n : Nat) (y : Int) : up1 ν n y n = y := if_pos rfl
theorem up1_a (ν : Nat → Int) (n : Nat) (y : Int) : agr n ν (up1 ν n y) := fun s hs => if_neg (Nat.ne_of_lt hs)
theorem eOk_m {ν ν' : Nat → Int} {n n' : Nat} {e : Env} (h : eOk ν n e) (g : agr n ν ν') (hl : n ≤ n') : eOk ν' n' e := by
  refine ⟨?_, Nat.lt_of_lt_of_le h.2.1 hl, by rw [g 0 h.2.1]; exact h.2.2⟩
  intro s lo hi hm
  obtain ⟨h1, h2, h3⟩ := h.1 s lo hi hm
  rw [g s h1]
  exact ⟨Nat.lt_of_lt_of_le h1 hl, h2, h3⟩
theorem mOk_m {ν ν' : Nat → Int} {n n' : Nat} {m : Mem} {mu : Mu} (h : mOk ν n m mu) (g : agr n ν ν') (hl : n ≤ n') : mOk ν' n' m mu := by
  intro a k s o hm
  obtain ⟨h1, h2⟩ := h a k s o hm
  rw [g s h1]
  exact ⟨Nat.lt_of_lt_of_le h1 hl, h2⟩
theorem dOk_m {ν ν' : Nat → Int} {n n' : Nat} {d : Dvs} (h : dOk ν n d) (g : agr n ν ν') (hl : n ≤ n') : dOk ν' n' d := by
  intro b s o c r hm
  obtain ⟨h1, h2, h3⟩ := h b s o c r hm
  rw [g s h1, g r h2]
  exact ⟨Nat.lt_of_lt_of_le h1 hl, Nat.lt_of_lt_of_le h2 hl, h3⟩
theorem fre_ok {ν : Nat → Int} {σ : St} {mu : Mu} {lo hi y : Int} (h : sOk ν σ mu) (h1 : lo ≤ y) (h2 : y ≤ hi) : sOk (up1 ν σ.1 y) (fre σ lo hi) mu := by
  obtain ⟨p, z, e, m, d⟩ := h
  refine ⟨Nat.succ_pos _, ?_, ?_, ?_, ?_⟩
  · rw [up1_a ν σ.1 y 0 p]; exact z
  · exact eOk_cons (eOk_m e (up1_a _ _ _) (Nat.le_succ _)) (Nat.lt_succ_self _) (by rw [up1_s]; exact h1) (by rw [up1_s]; exact h2)
  · exact mOk_m m (up1_a _ _ _) (Nat.le_succ _)
  · exact dOk_m d (up1_a _ _ _) (Nat.le_succ _)
theorem sOk_e {ν : Nat → Int} {σ τ : St} {mu : Mu} (h : sOk ν σ mu) (e : stE σ τ) (g : eOk ν τ.1 τ.2.1) : sOk ν τ mu := by
  obtain ⟨p, z, _, m, d⟩ := h
  obtain ⟨e1, e2, e3⟩ := e
  refine ⟨by rw [e1]; exact p, z, g, ?_, ?_⟩
  · rw [e1, e2]; exact m
  · rw [e1, e3]; exact d
/-- a value came: the state goes on and knows it -/
abbrev got (ν : Nat → Int) (σ : St) (mu : Mu) (r : St × AV) (v : Value) : Prop := ∃ ν', agr σ.1 ν ν' ∧ σ.1 ≤ r.1.1 ∧ sOk ν' r.1 mu ∧ rv ν' r.1.1 r.2 v
abbrev gotL (ν : Nat → Int) (σ : St) (mu : Mu) (l : List (St × AV)) (v : Value) : Prop := ∃ p, p ∈ l ∧ got ν σ mu p v
theorem gotL_1 {ν : Nat → Int} {σ : St} {mu : Mu} {p : St × AV} {v : Value} (h : got ν σ mu p v) : gotL ν σ mu [p] v := ⟨p, List.mem_singleton.mpr rfl, h⟩
theorem gotL_l {ν : Nat → Int} {σ : St} {mu : Mu} {a b : List (St × AV)} {v : Value} (h : gotL ν σ mu a v) : gotL ν σ mu (a ++ b) v := by
  obtain ⟨p, h1, h2⟩ := h
  exact ⟨p, List.mem_append_left _ h1, h2⟩
theorem gotL_r {ν : Nat → Int} {σ : St} {mu : Mu} {a b : List (St × AV)} {v : Value} (h : gotL ν σ mu b v) : gotL ν σ mu (a ++ b) v := by
  obtain ⟨p, h1, h2⟩ := h
  exact ⟨p, List.mem_append_right _ h1, h2⟩
theorem got_s {ν : Nat → Int} {σ : St} {mu : Mu} {a : AV} {v : Value} (h : sOk ν σ mu) (hv : rv ν σ.1 a v) : got ν σ mu (σ, a) v := ⟨ν, agr_r _ _, Nat.le_refl _, h, hv⟩
theorem got_fi {ν : Nat → Int} {σ : St} {mu : Mu} {lo hi : Int} {x : Int32} (h : sOk ν σ mu) (h1 : lo ≤ x.toInt) (h2 : x.toInt ≤ hi) : got ν σ mu (fre σ lo hi, (.inl (σ.1, 0))) (.int x) :=
  ⟨_, up1_a ν σ.1 x.toInt, Nat.le_succ _, fre_ok h h1 h2, Nat.lt_succ_self _, by rw [up1_s, Int.add_zero]⟩
theorem got_fl {ν : Nat → Int} {σ : St} {mu : Mu} {lo hi : Int} {x : Int64} (h : sOk ν σ mu) (h1 : lo ≤ x.toInt) (h2 : x.toInt ≤ hi) : got ν σ mu (fre σ lo hi, (.inr (.inl (σ.1, 0)))) (.long x) :=
  ⟨_, up1_a ν σ.1 x.toInt, Nat.le_succ _, fre_ok h h1 h2, Nat.lt_succ_self _, by rw [up1_s, Int.add_zero]⟩
theorem i_lo (x : Int32) : iLo ≤ x.toInt := Int32.le_toInt x
theorem i_hi (x : Int32) : x.toInt ≤ iHi := by have := Int32.toInt_lt x; unfold iHi; omega
theorem j_lo (x : Int64) : jLo ≤ x.toInt := Int64.le_toInt x
theorem j_hi (x : Int64) : x.toInt ≤ jHi := by have := Int64.toInt_lt x; unfold jHi; omega
theorem got_tI {ν : Nat → Int} {σ : St} {mu : Mu} (x : Int32) (h : sOk ν σ mu) : got ν σ mu (tI σ) (.int x) := got_fi h (i_lo x) (i_hi x)
theorem got_tL {ν : Nat → Int} {σ : St} {mu : Mu} (x : Int64) (h : sOk ν σ mu) : got ν σ mu (tL σ) (.long x) := got_fl h (j_lo x) (j_hi x)
theorem got_mkI {ν : Nat → Int} {σ : St} {mu : Mu} {lo hi : Int} {x : Int32} (h : sOk ν σ mu) (hx : inI lo hi = true → lo ≤ x.toInt ∧ x.toInt ≤ hi) : got ν σ mu (mkI σ lo hi) (.int x) := by
  unfold mkI
  split
  · rename_i hi'
    obtain ⟨h1, h2⟩ := hx hi'
    split
    · rename_i he
      have := (ile_iff _ _).mp he
      refine got_s h ⟨h.1, ?_⟩
      rw [h.2.1]; omega
    · exact got_fi h h1 h2
  · exact got_tI x h
theorem got_mkL {ν : Nat → Int} {σ : St} {mu : Mu} {lo hi : Int} {x : Int64} (h : sOk ν σ mu) (hx : inJ lo hi = true → lo ≤ x.toInt ∧ x.toInt ≤ hi) : got ν σ mu (mkL σ lo hi) (.long x) := by
  unfold mkL
  split
  · rename_i hi'
    obtain ⟨h1, h2⟩ := hx hi'
    split
    · rename_i he
      have := (ile_iff _ _).mp he
      refine got_s h ⟨h.1, ?_⟩
      rw [h.2.1]; omega
    · exact got_fl h h1 h2
  · exact got_tL x h
/-- a narrowed case -/
theorem got_cas {ν : Nat → Int} {σ : St} {mu : Mu} {a : Option St} {f : St → St × AV} {v : Value} (h : sOk ν σ mu) (n : nOk ν σ a) (hf : ∀ τ, sOk ν τ mu → τ.1 = σ.1 → got ν τ mu (f τ) v) : gotL ν σ mu (cas a f) v := by
  obtain ⟨τ, rfl, e1, e2⟩ := n
  obtain ⟨ν', g1, g2, g3, g4⟩ := hf τ (sOk_e h e1 e2) e1.1
  refine ⟨f τ, List.mem_singleton.mpr rfl, ν', ?_, ?_, g3, g4⟩
  · rw [← e1.1]; exact g1
  · rw [← e1.1]; exact g2
theorem inI_iff {lo hi : Int} : inI lo hi = true ↔ iLo ≤ lo ∧ hi ≤ iHi := by unfold inI; rw [Bool.and_eq_true, ile_iff, ile_iff]
theorem inJ_iff {lo hi : Int} : inJ lo hi = true ↔ jLo ≤ lo ∧ hi ≤ jHi := by unfold inJ; rw [Bool.and_eq_true, ile_iff, ile_iff]
theorem bm32 {n : Int} (h1 : iLo ≤ n) (h2 : n ≤ iHi) : n.bmod (2 ^ 32) = n := by
  unfold iLo at h1; unfold iHi at h2
  exact Int.bmod_eq_of_le (by omega) (by omega)
theorem bm64 {n : Int} (h1 : jLo ≤ n) (h2 : n ≤ jHi) : n.bmod (2 ^ 64) = n := by
  unfold jLo at h1; unfold jHi at h2
  exact Int.bmod_eq_of_le (by omega) (by omega)
