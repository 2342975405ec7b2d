-- ===== contracts out of checks
noncomputable def inA : List AP → St → Option (St × List AV)
  | [], σ => some (σ, [])
  | p :: ps, σ => match p with
    | none => none
    | some (.inl (lo, hi)) => if ile hi lo = true then (match inA ps σ with
        | some (σ', r) => some (σ', (.inl (0, lo)) :: r)
        | none => none) else (match inA ps (fre σ lo hi) with
        | some (σ', r) => some (σ', (.inl (σ.1, 0)) :: r)
        | none => none)
    | some (.inr (.inl a)) => match inA ps σ with
      | some (σ', r) => some (σ', (.inr (.inr (.inl (a)))) :: r)
      | none => none
    | some (.inr (.inr true)) => match inA ps σ with
      | some (σ', r) => some (σ', (.inr (.inr (.inr (.inr true)))) :: r)
      | none => none
    | some (.inr (.inr false)) => match inA ps (fre σ jLo jHi) with
      | some (σ', r) => some (σ', (.inr (.inl (σ.1, 0))) :: r)
      | none => none
noncomputable def rsOk (res : Option (List AP)) (o : Oc) : Bool := match res, o.1 with
  | none, none => true
  | some l, some v => l.any fun p => apOk1 o.2 p v
  | _, _ => false
/-- rows are written whole, objects by field -/
noncomputable def wfq (q : Nat × Nat) : Bool := match q.2, (shp q.1).1 with
  | 0, 0 => false
  | 0, _ + 1 => true
  | _ + 1, 0 => true
  | _ + 1, _ + 1 => false
noncomputable def wDis (w D : WS) : Bool := w.all fun q => !(wIn D q.1 q.2) && wfq q
theorem dis_i {w D : WS} (h : wDis w D = true) {a k : Nat} (hw : wIn w a k = true) : wIn D a k = false ∧ wfq (a, k) = true := by
  have q := List.all_eq_true.mp h (a, k) (wIn_mem.mp hw)
  rw [Bool.and_eq_true, Bool.not_eq_true'] at q
  exact q
theorem dis_o {w D : WS} (h : wDis w D = true) {a : Nat} (hs : (shp a).1 = 0) : wIn w a 0 = false := by
  cases hw : wIn w a 0
  · rfl
  · have q := (dis_i h hw).2
    simp only [wfq, hs] at q
    cases q
theorem dis_e {w D : WS} (h : wDis w D = true) {a k : Nat} (hs : (shp a).1 ≠ 0) : wIn w a (k + 1) = false := by
  cases hw : wIn w a (k + 1)
  · rfl
  · have q := (dis_i h hw).2
    obtain ⟨n, hn⟩ := Nat.exists_eq_succ_of_ne_zero hs
    simp only [wfq, hn] at q
    cases q
theorem dis_d {w D : WS} (h : wDis w D = true) {a k : Nat} (hd : wIn D a k = true) : wIn w a k = false := by
  cases hw : wIn w a k
  · rfl
  · have q := (dis_i h hw).1
    rw [hd] at q
    cases q
/-- a field, a row that D names stand -/
theorem dis_f {w D : WS} {mu mu' : Mu} {la la' : La} {ro ro' : Ro} (h : wDis w D = true) (f : frm w mu la ro mu' la' ro') {a k : Nat} (hs : (shp a).1 = 0) (hd : wIn D a (k + 1) = true) : mu' a k = mu a k := f.1 a k (dis_o h hs) (dis_d h hd)
theorem dis_r {w D : WS} {mu mu' : Mu} {la la' : La} {ro ro' : Ro} (h : wDis w D = true) (f : frm w mu la ro mu' la' ro') {a k : Nat} (hs : (shp a).1 ≠ 0) (hd : wIn D a 0 = true) : mu' a k = mu a k := f.1 a k (dis_d h hd) (dis_e h hs)
theorem dis_l {w D : WS} {mu mu' : Mu} {la la' : La} {ro ro' : Ro} (h : wDis w D = true) (f : frm w mu la ro mu' la' ro') {a : Nat} (hd : wIn D a 0 = true) : la' a = la a := f.2.1 a (dis_d h hd)
noncomputable def chk (P : Pg) (tb : Tb) (f : Nat) (c : Ctr) : Bool := match inA c.2.1 (1, [(0, 0, 0)], [], []) with
  | some (σ, A) => (Nat.ble (exA A).length (mxv c.1) && noU A) && (match ax P tb f c.2.2.2.2 c.1 [] 0 (entA (mxv c.1) A) [] σ with
    | some outs => outs.all fun o => rsOk c.2.2.1 o
    | none => false)
  | none => false
theorem inA_ok {mu : Mu} : ∀ {ps : List AP} {σ : St} {ν : Nat → Int} {vs : List Value} {p : St × List AV}, sOk ν σ mu → inA ps σ = some p → apC ps vs → ∃ ν', agr σ.1 ν ν' ∧ σ.1 ≤ p.1.1 ∧ sOk ν' p.1 mu ∧ rvs ν' p.1.1 p.2 vs
  | [], σ, ν, [], p, hs, e, _ => by
    cases e
    exact ⟨ν, agr_r _ _, Nat.le_refl _, hs, trivial⟩
  | q :: ps, σ, ν, v :: vs, p, hs, e, h => by
    obtain ⟨h1, h2⟩ := h
    unfold inA at e
    rcases q with _ | ⟨lo, hi⟩ | a | _ | _
    · cases e
    · obtain ⟨x, rfl, x1, x2⟩ := h1
      simp only at e
      split at e
      · rename_i c
        rw [ile_iff] at c
        split at e
        · rename_i e1
          cases e
          obtain ⟨ν', a1, a2, a3, a4⟩ := inA_ok hs e1 h2
          exact ⟨ν', a1, a2, a3, rvs_k (v := .int x) ⟨a3.1, by rw [a3.2.1]; omega⟩ a4⟩
        · cases e
      · split at e
        · rename_i e1
          cases e
          obtain ⟨ν1, b1, b2, b3, b4⟩ := got_fi hs x1 x2
          obtain ⟨ν', a1, a2, a3, a4⟩ := inA_ok b3 e1 h2
          exact ⟨ν', agr_t b1 a1 b2, Nat.le_trans b2 a2, a3, rvs_k (rv_m b4 a1 a2) a4⟩
        · cases e
    · cases h1
      simp only at e
      split at e
      · rename_i e1
        cases e
        obtain ⟨ν', a1, a2, a3, a4⟩ := inA_ok hs e1 h2
        exact ⟨ν', a1, a2, a3, rvs_k (v := .ref a) rfl a4⟩
      · cases e
    · obtain ⟨x, rfl⟩ := h1
      simp only at e
      split at e
      · rename_i e1
        cases e
        obtain ⟨ν1, b1, b2, b3, b4⟩ := got_fl hs (j_lo x) (j_hi x)
        obtain ⟨ν', a1, a2, a3, a4⟩ := inA_ok b3 e1 h2
        exact ⟨ν', agr_t b1 a1 b2, Nat.le_trans b2 a2, a3, rvs_k (rv_m b4 a1 a2) a4⟩
      · cases e
    · cases h1
      simp only at e
      split at e
      · rename_i e1
        cases e
        obtain ⟨ν', a1, a2, a3, a4⟩ := inA_ok hs e1 h2
        exact ⟨ν', a1, a2, a3, rvs_k (v := .null) trivial a4⟩
      · cases e
  | [], _, _, _ :: _, _, _, _, h => h.elim
  | _ :: _, _, _, [], _, _, _, h => h.elim
/-- what is kept stands where writes do not reach D -/
abbrev JS (D : WS) (J : Jt) : Prop := ∀ w, wDis w D = true → ∀ mu la ro mu' la' ro', frm w mu la ro mu' la' ro' → J mu la ro → J mu' la' ro'
/-- a contract at a floor that is known -/
noncomputable def ctrQ (P : Pg) (J : Jt) (X : Tok) (et : Nat → Option va_E) (c : Ctr) : Prop :=
  ∀ d av mu la ro, c.2.2.2.2 ≤ d → apC c.2.1 av → Inv P J mu la ro → Fin X d (mI c.1) 0 (ent (mI c.1) av) [] mu la ro et fun r mu' la' ro' => gOk (pIv P) mu' ∧ rOk ro' ∧ J mu' la' ro' ∧ frm c.2.2.2.1 mu la ro mu' la' ro' ∧ resC c.2.2.1 r
theorem rsOk_ok {ν : Nat → Int} {mu : Mu} {res : Option (List AP)} {o : Oc} {r : Option Value} (hs : sOk ν o.2 mu) (h : rsOk res o = true) (hr : retOk ν o.2.1 o.1 r) : resC res r := by
  obtain ⟨a, σ⟩ := o
  cases res <;> cases a <;> cases r <;> first | exact trivial | exact hr.elim | (cases h; done) | skip
  unfold rsOk at h
  obtain ⟨p, h1, h2⟩ := List.any_eq_true.mp h
  exact ⟨p, h1, apC1_ok hs h2 hr⟩
section C
variable {P : Pg} {J : Jt} {X : Tok} {et : Nat → Option va_E} {tb : Tb} {D : WS} {c : Ctr} {f : Nat}
theorem ctrQ_ok (hT : ∀ m pc i l, tb m pc = some (i, l) → decode (mI m).2.2.1 pc = .ok (i, l)) (hX : tOk X) (hJ : JS D J) (hD : wDis (pW P) D = true) (hFl : ∀ q, pFl P = some q → wIn (pW P) 6 6 = false) (hw : c.2.2.2.1 = pW P) (hk : chk P tb f c = true) (hC : ∀ c, c ∈ pCt P → ctrT (pIv P) J X et c) : ctrQ P J X et c := by
  intro d av mu la ro hd ha hi
  unfold chk at hk
  split at hk
  · rename_i σ A e1
    simp only [Bool.and_eq_true, Nat.ble_eq] at hk
    obtain ⟨⟨k1, k2⟩, k3⟩ := hk
    split at k3
    · rename_i outs e2
      have s0 : sOk (fun _ => 0) ((1, [(0, 0, 0)], [], []) : St) mu := by
        refine ⟨Nat.one_pos, rfl, ⟨?_, Nat.one_pos, rfl⟩, ?_, ?_⟩
        · intro s lo hi hm
          rcases List.mem_cons.mp hm with q | q
          · cases q; exact ⟨Nat.one_pos, Int.le_refl _, Int.le_refl _⟩
          · exact absurd q List.not_mem_nil
        · intro a k s o hm; exact absurd hm List.not_mem_nil
        · intro b s o c r hm; exact absurd hm List.not_mem_nil
      obtain ⟨ν, a1, a2, a3, a4⟩ := inA_ok s0 e1 ha
      refine ax_ok hT hX (hJ _ hD) hFl hC _ _ _ _ _ _ _ _ _ e2 d ν _ [] mu la ro _ hd a3 hi (rvs_ent k2 a4) trivial ?_ (fun h hm => absurd hm List.not_mem_nil)
      intro o ho ν' r mu' la' ro' b1 b2 b3 b4 b5 b6
      refine ⟨b4.1, b4.2.1, b4.2.2.2, ?_, rsOk_ok b3 (List.all_eq_true.mp k3 o ho) b5⟩
      rw [hw]
      exact b6
    · cases k3
  · cases hk
theorem ctr_ok (hT : ∀ m pc i l, tb m pc = some (i, l) → decode (mI m).2.2.1 pc = .ok (i, l)) (hX : tOk X) (hJ : JS D J) (hD : wDis (pW P) D = true) (hFl : pFl P = none) (hw : c.2.2.2.1 = pW P) (hk : chk P tb f c = true) (hC : ∀ c, c ∈ pCt P → ctrT (pIv P) J X et c) : ctrT (pIv P) J X et c := by
  intro d av mu la ro hd ha h1 h2 h3
  refine ctrQ_ok hT hX hJ hD (fun q hq => by rw [hFl] at hq; cases hq) hw hk hC d av mu la ro hd ha ⟨h1, h2, (fun q hq => by rw [hFl] at hq; cases hq), h3⟩
end C
theorem ctr_five {iv : IVs} {J : Jt} {X : Tok} {et : Nat → Option va_E} {c : Ctr} {p : Option (Option Nat) → Pg} (hp : ∀ q, pIv (p q) = iv ∧ pFl (p q) = q) (h : ∀ q, flOk q → ctrQ (p (some q)) J X et c) : ctrT iv J X et c := by
  intro d av mu la ro hd ha h1 h2 h3
  have := h (ro 6 5) h2.2.2.2 d av mu la ro hd ha ⟨(by rw [(hp _).1]; exact h1), h2, (fun q hq => by rw [(hp _).2] at hq; cases hq; rfl), h3⟩
  rw [(hp _).1] at this
  exact this
