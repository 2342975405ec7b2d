-- ===== calls
noncomputable def noU (l : List AV) : Bool := l.all fun v => isI v || (isL v || isA v)
noncomputable def mxv (m : Nat) : Nat := (mI m).2.2.2.1
noncomputable def s_do (P : Pg) (dep m' : Nat) (kk : Kt) (cl : Nat → List AV → St → Ax) (nx : Nat) (L av rest : List AV) (σ : St) : Ax :=
  if ((noU av && Nat.ble (exA av).length (mxv m')) && (Nat.ble (mxv m') 45 && (Nat.ble (cat2s rest) 8 && Nat.ble 1 dep))) = true then
    (match ctrF σ m' av (pCt P) with
    | some c => if (Nat.ble (c.2.2.2.2 + 1) dep && wSub c.2.2.2.1 (pW P)) = true then allO (fun o => kk nx L (pshA o.1 rest) o.2) (resO (wMem σ (mdelW σ.2.2.1 c.2.2.2.1)) c.2.2.1) else none
    | none => match cl m' (entA (mxv m') av) σ with
      | some os => allO (fun o => kk nx L (pshA o.1 rest) o.2) os
      | none => none) else none
theorem fnd_eq {α β : Type} (i : Nat) : ∀ l : List (Nat × α × β), (List.rec none (fun r _ t => cond (Nat.beq r.1 i) (some r.2.1) t) l : Option α) = (l.find? (fun r => r.1 == i)).map (fun r => r.2.1)
  | [] => rfl
  | r :: l => by
    show cond (Nat.beq r.1 i) (some r.2.1) (List.rec none (fun r _ t => cond (Nat.beq r.1 i) (some r.2.1) t) l) = _
    rw [fnd_eq i l, List.find?_cons, show (r.1 == i) = Nat.beq r.1 i from by rw [Bool.eq_iff_iff, Nat.beq_eq, beq_iff_eq]]
    cases Nat.beq r.1 i <;> rfl
noncomputable def fFq (o i : Nat) : Option (Nat × Nat × Nat × Nat) := List.rec none (fun r _ t => cond (Nat.beq r.1 i) (some r.2.1) t) (FT o)
theorem fFq_eq (o i : Nat) : fFq o i = fF o i := fnd_eq i (FT o)
noncomputable def fCn (o i : Nat) : Option (Nat × Nat × Nat × Nat) := List.rec none (fun r _ t => cond (Nat.beq r.1 i) (some r.2.1) t) (CT o)
theorem fCn_eq (o i : Nat) : fCn o i = ((CT o).find? (fun r => r.1 == i)).map (fun r => r.2.1) := fnd_eq i (CT o)
theorem fCn_ok {o i : Nat} {q : Nat × Nat × Nat × Nat} (h : fCn o i = some q) : fC o i = some (toQ q) := by
  rw [fCn_eq] at h
  unfold fC
  obtain ⟨r, hr, rfl⟩ := Option.map_eq_some_iff.mp h
  rw [hr]
  rfl
noncomputable def s_iv (P : Pg) (dep : Nat) (q : Option (Nat × Nat × Nat × Nat)) (kk : Kt) (cl : Nat → List AV → St → Ax) (nx : Nat) (L st : List AV) (σ : St) : Ax := match q with
  | some (k, ci, n, m') => match st.drop n with
    | x :: rest => match x with
      | (.inr (.inr (.inl (a)))) => if (Nat.beq k 0 && (qO a ci && Nat.beq (st.take n).length n)) = true then s_do P dep m' kk cl nx L ((.inr (.inr (.inl (a)))) :: (st.take n).reverse) rest σ else none
      | _ => none
    | _ => none
  | none => none
noncomputable def s_mth (j dep : Nat) (kk : Kt) (nx : Nat) (L st : List AV) (σ : St) : Ax := if Nat.ble 1 dep = true then (match st with
  | _ :: r => if Nat.beq j 8 = true then (if Nat.ble (cat2s r) 8 = true then s_i opAbs kk nx L st σ else none) else match r with
    | _ :: r' => if Nat.ble (cat2s r') 8 = true then (if Nat.beq j 6 = true then s_ii (opM true) kk nx L st σ else if Nat.beq j 7 = true then s_ii (opM false) kk nx L st σ else if Nat.beq j 9 = true then s_lL (fun σ _ _ _ _ => [tL σ]) kk nx L st σ else none) else none
    | _ => none
  | _ => none) else none
noncomputable def cpI (σ : St) (v : AV) : Option (Nat × Nat) := match v with
  | (.inl (s, o)) => match itv σ.2.1 s o with
    | some (.ofNat l, .ofNat h) => some (l, h)
    | _ => none
  | _ => none
noncomputable def s_cp (P : Pg) (dep : Nat) (kk : Kt) (nx : Nat) (L st : List AV) (σ : St) : Ax := match st with
  | vn :: vj :: xb :: vi :: xa :: r => match xb, xa with
    | (.inr (.inr (.inl (b)))), (.inr (.inr (.inl (a)))) => match qA a 0, qA b 0, cpI σ vi, cpI σ vj, cpI σ vn with
      | some na, some nb, some (_, h1), some (_, h2), some (_, h3) => if ((Nat.ble (h1 + h3) na && Nat.ble (h2 + h3) nb) && ((wIn (pW P) b 0 && (ivR (pIv P) b && ivF (pIv P) b)) && (Nat.ble 1 dep && Nat.ble (cat2s r) 8))) = true then kk nx L r (stU σ b) else none
      | _, _, _, _, _ => none
    | _, _ => none
  | _ => none
noncomputable def s_is (P : Pg) (dep : Nat) (q : Option (Nat × Nat × Nat × Nat)) (kk : Kt) (cl : Nat → List AV → St → Ax) (nx : Nat) (L st : List AV) (σ : St) : Ax := match q with
  | some (k, _, n, m') => if (Nat.beq k 1 || Nat.beq k 4) = true then (if Nat.beq (st.take n).length n = true then s_do P dep m' kk cl nx L (st.take n).reverse (st.drop n) σ else none) else if Nat.beq k 10 = true then s_cp P dep kk nx L st σ else s_mth k dep kk nx L st σ
  | none => none
noncomputable def s_gs (q : Option UInt32) (kk : Kt) (nx : Nat) (L st : List AV) (σ : St) : Ax := match q with
  | some t => if t = 1 then kk nx L ((.inr (.inr (.inr (.inl (1))))) :: st) σ else if t = 2 then kk nx L ((.inr (.inr (.inr (.inl (2))))) :: st) σ else none
  | none => none
noncomputable def apC1 (p : AP) (v : Value) : Prop := match p with
  | none => True
  | some (.inl (lo, hi)) => ∃ x : Int32, v = .int x ∧ lo ≤ x.toInt ∧ x.toInt ≤ hi
  | some (.inr (.inl a)) => v = .ref a
  | some (.inr (.inr true)) => v = .null
  | some (.inr (.inr false)) => ∃ x : Int64, v = .long x
noncomputable def apC : List AP → List Value → Prop
  | [], [] => True
  | p :: ps, v :: vs => apC1 p v ∧ apC ps vs
  | _, _ => False
noncomputable def resC : Option (List AP) → Option Value → Prop
  | none, none => True
  | some l, some v => ∃ p, p ∈ l ∧ apC1 p v
  | _, _ => False
/-- what a contract says -/
noncomputable def ctrT (iv : IVs) (J : Jt) (X : Tok) (et : Nat → Option va_E) (c : Ctr) : Prop :=
  ∀ d av mu la ro, c.2.2.2.2 ≤ d → apC c.2.1 av → gOk iv mu → rOk ro → J mu la ro → Fin X d (mI c.1) 0 (ent (mI c.1) av) [] mu la ro et fun r mu' la' ro' => gOk iv mu' ∧ rOk ro' ∧ J mu' la' ro' ∧ frm c.2.2.2.1 mu la ro mu' la' ro' ∧ resC c.2.2.1 r
section ROWS
variable {ν : Nat → Int} {n : Nat}
theorem rvs_take {k : Nat} : ∀ {l : List AV} {r : List Value}, rvs ν n l r → rvs ν n (l.take k) (r.take k) := by
  induction k with
  | zero => intro l r _; rw [List.take_zero, List.take_zero]; exact trivial
  | succ k ih =>
    intro l r h
    cases l with
    | nil => cases rvs_0 h; exact trivial
    | cons a l =>
      obtain ⟨v, r, rfl, h1, h2⟩ := rvs_c h
      exact rvs_k h1 (ih h2)
theorem rvs_drop {k : Nat} : ∀ {l : List AV} {r : List Value}, rvs ν n l r → rvs ν n (l.drop k) (r.drop k) := by
  induction k with
  | zero => intro l r h; exact h
  | succ k ih =>
    intro l r h
    cases l with
    | nil => cases rvs_0 h; exact trivial
    | cons a l =>
      obtain ⟨v, r, rfl, h1, h2⟩ := rvs_c h
      exact ih h2
theorem rvs_app : ∀ {l l' : List AV} {r r' : List Value}, rvs ν n l r → rvs ν n l' r' → rvs ν n (l ++ l') (r ++ r')
  | [], _, _, _, h, h' => by cases rvs_0 h; exact h'
  | a :: l, l', r, r', h, h' => by
    obtain ⟨v, r, rfl, h1, h2⟩ := rvs_c h
    exact rvs_k h1 (rvs_app h2 h')
theorem rvs_rev : ∀ {l : List AV} {r : List Value}, rvs ν n l r → rvs ν n l.reverse r.reverse
  | [], _, h => by cases rvs_0 h; exact trivial
  | a :: l, r, h => by
    obtain ⟨v, r, rfl, h1, h2⟩ := rvs_c h
    rw [List.reverse_cons, List.reverse_cons]
    exact rvs_app (rvs_rev h2) (rvs_k h1 trivial)
theorem rv_cat {a : AV} {v : Value} (h : rv ν n a v) : v.category ≤ cat2 a := by
  rcases a with ⟨s, o⟩ | ⟨s, o⟩ | a | k | b | b
  · obtain ⟨x, rfl, _⟩ := rv_i h; exact Nat.le_refl _
  · obtain ⟨x, rfl, _⟩ := rv_l h; exact Nat.le_refl _
  · cases rv_r h; exact Nat.le_refl _
  · obtain ⟨h1, rfl⟩ := rv_t h; exact Nat.le_refl _
  · exact cat_le v
  · cases rv_n h; exact Nat.le_refl _
theorem rvs_cat : ∀ {l : List AV} {r : List Value}, rvs ν n l r → cs r ≤ cat2s l
  | [], _, h => by cases rvs_0 h; exact Nat.le_refl _
  | a :: l, r, h => by
    obtain ⟨v, r, rfl, h1, h2⟩ := rvs_c h
    have e : cs (v :: r) = v.category + cs r := by unfold cs; rw [List.map_cons, List.sum_cons]
    rw [e, cat2s]
    exact Nat.add_le_add (rv_cat h1) (rvs_cat h2)
theorem rvs_ex : ∀ {l : List AV} {r : List Value}, noU l = true → rvs ν n l r → rvs ν n (exA l) (exL r)
  | [], _, _, h => by cases rvs_0 h; exact trivial
  | a :: l, r, hu, h => by
    obtain ⟨v, r, rfl, h1, h2⟩ := rvs_c h
    unfold noU at hu
    rw [List.all_cons, Bool.and_eq_true] at hu
    have ih := rvs_ex hu.2 h2
    have hu1 := hu.1
    rcases a with ⟨s, o⟩ | ⟨s, o⟩ | a | k | b | b
    · obtain ⟨x, rfl, g⟩ := rv_i h1; exact rvs_k h1 ih
    · obtain ⟨x, rfl, g⟩ := rv_l h1; exact rvs_k h1 (rvs_k (rv_u _ _ _) ih)
    · cases rv_r h1; exact rvs_k h1 ih
    · obtain ⟨g, rfl⟩ := rv_t h1; exact rvs_k h1 ih
    · cases hu1
    · cases rv_n h1; exact rvs_k h1 ih
theorem rvs_rep : ∀ k, rvs ν n (repU k) (List.replicate k mkU)
  | 0 => trivial
  | k + 1 => rvs_k (rv_u _ _ _) (rvs_rep k)
theorem rvs_ent {m : Nat} {l : List AV} {r : List Value} (hu : noU l = true) (h : rvs ν n l r) : rvs ν n (entA (mxv m) l) (ent (mI m) r) := by
  have e := rvs_ex hu h
  unfold entA ent
  rw [show (mI m).2.2.2.1 = mxv m from rfl, rvs_len e]
  exact rvs_app e (rvs_rep _)
theorem rvs_psh {o : Option AV} {v : Option Value} {l : List AV} {r : List Value} (h : retOk ν n o v) (h2 : rvs ν n l r) : rvs ν n (pshA o l) (psh v r) := by
  cases o <;> cases v
  · exact h2
  · exact h.elim
  · exact h.elim
  · exact rvs_k h h2
end ROWS
section X
variable {P : Pg} {J : Jt} {X : Tok} {d : Nat} {M : MI} {et : Nat → Option va_E} {ν : Nat → Int} {σ : St} {mu : Mu} {la : La} {ro : Ro} {Q : Qt} {kk : Kt} {pc nxp k : Nat} {L st : List AV} {Lc stc : List Value} {outs : List Oc}
theorem apC1_ok {p : AP} {a : AV} {v : Value} (hs : sOk ν σ mu) (h : apOk1 σ p a = true) (hv : rv ν σ.1 a v) : apC1 p v := by
  unfold apOk1 at h
  unfold apC1
  split at h
  · exact trivial
  · split at h
    · obtain ⟨x, rfl, g1, g2⟩ := rv_i hv
      split at h
      · rename_i l hh ei
        have a2 := itv_ok hs.2.2.1 ei
        rw [Bool.and_eq_true, ile_iff, ile_iff] at h
        exact ⟨x, rfl, by omega, by omega⟩
      · cases h
    · cases h
  · split at h
    · rw [Nat.beq_eq] at h
      rw [rv_r hv, h]
    · cases h
  · split at h
    · exact rv_n hv
    · cases h
  · split at h
    · obtain ⟨x, rfl, _⟩ := rv_l hv
      exact ⟨x, rfl⟩
    · cases h
theorem apC_ok (hs : sOk ν σ mu) : ∀ {ps : List AP} {l : List AV} {r : List Value}, apOk σ ps l = true → rvs ν σ.1 l r → apC ps r
  | [], [], r, _, h => by cases rvs_0 h; exact trivial
  | p :: ps, a :: l, r, q, h => by
    obtain ⟨v, r, rfl, h1, h2⟩ := rvs_c h
    unfold apOk at q
    rw [Bool.and_eq_true] at q
    exact ⟨apC1_ok hs q.1 h1, apC_ok hs q.2 h2⟩
  | [], _ :: _, _, q, _ => by cases q
  | _ :: _, [], _, q, _ => by cases q
theorem ctrF_ok {m : Nat} {av : List AV} {c : Ctr} : ∀ {l : List Ctr}, ctrF σ m av l = some c → c ∈ l ∧ c.1 = m ∧ apOk σ c.2.1 av = true
  | [], h => by cases h
  | b :: l, h => by
    rw [ctrF_c] at h
    split at h
    · rename_i q
      cases h
      rw [Bool.and_eq_true, Nat.beq_eq] at q
      exact ⟨List.mem_cons_self, q.1, q.2⟩
    · obtain ⟨h1, h2⟩ := ctrF_ok h
      exact ⟨List.mem_cons_of_mem _ h1, h2⟩
theorem resO_ok {res : Option (List AP)} {r : Option Value} (hs : sOk ν σ mu) (h : resC res r) : ∃ o, o ∈ resO σ res ∧ ∃ ν', agr σ.1 ν ν' ∧ σ.1 ≤ o.2.1 ∧ sOk ν' o.2 mu ∧ retOk ν' o.2.1 o.1 r := by
  cases res with
  | none =>
    cases r with
    | none => exact ⟨_, List.mem_singleton.mpr rfl, ν, agr_r _ _, Nat.le_refl _, hs, trivial⟩
    | some v => exact h.elim
  | some l =>
    cases r with
    | none => exact h.elim
    | some v =>
      obtain ⟨p, hp, hv⟩ := h
      refine ⟨_, List.mem_map.mpr ⟨p, hp, rfl⟩, ?_⟩
      rcases p with _ | ⟨lo, hi⟩ | a | _ | _
      · exact ⟨ν, agr_r _ _, Nat.le_refl _, hs, rv_u ν σ.1 v⟩
      · obtain ⟨x, rfl, h1, h2⟩ := hv
        obtain ⟨ν', g1, g2, g3, g4⟩ := got_mkI (lo := lo) (hi := hi) (x := x) hs fun _ => ⟨h1, h2⟩
        exact ⟨ν', g1, g2, g3, g4⟩
      · cases hv
        exact ⟨ν, agr_r _ _, Nat.le_refl _, hs, (rfl : a = a)⟩
      · obtain ⟨x, rfl⟩ := hv
        obtain ⟨ν', g1, g2, g3, g4⟩ := got_tL x hs
        exact ⟨ν', g1, g2, g3, g4⟩
      · cases hv
        exact ⟨ν, agr_r _ _, Nat.le_refl _, hs, trivial⟩
/-- walking in is right -/
abbrev CL (P : Pg) (J : Jt) (X : Tok) (d : Nat) (et : Nat → Option va_E) (cl : Nat → List AV → St → Ax) : Prop :=
  ∀ m L σ outs, cl m L σ = some outs → ∀ ν Lc mu la ro Q, sOk ν σ mu → Inv P J mu la ro → rvs ν σ.1 L Lc → QOk P J outs σ.1 ν mu la ro Q → Fin X d (mI m) 0 Lc [] mu la ro et Q
theorem Fin_bind {d' nx : Nat} {M' : MI} {L1 rest : List Value} (e : Rr X d M pc Lc stc (Wd mu la ro et) = (Rr X d' M' 0 L1 [] (Wd mu la ro et)).bind fun q => Rr X d M nx Lc (psh q.1 rest) q.2) (h : Fin X d' M' 0 L1 [] mu la ro et fun r mu' la' ro' => Fin X d M nx Lc (psh r rest) mu' la' ro' et Q) : Fin X d M pc Lc stc mu la ro et Q := by
  obtain ⟨r, mu', la', ro', h1, h2⟩ := h
  unfold Fin
  rw [e, h1, Option.bind_some]
  exact h2
theorem x_do {cl : Nat → List AV → St → Ax} {dep m' nx : Nat} {av rest : List AV} {avc restc : List Value} (hdep : dep ≤ d) (hFl : ∀ q, pFl P = some q → wIn (pW P) 6 6 = false) (hC : ∀ c, c ∈ pCt P → ctrT (pIv P) J X et c) (hk : KK P J X d M et σ.1 ν mu la ro Q kk) (hc : ∀ d', d = d' + 1 → CL P J X d' et cl) (h : s_do P dep m' kk cl nx L av rest σ = some outs) (hs : sOk ν σ mu) (hi : Inv P J mu la ro) (hL : rvs ν σ.1 L Lc) (ha : rvs ν σ.1 av avc) (hr : rvs ν σ.1 rest restc) (hq : QOk P J outs σ.1 ν mu la ro Q)
    (e : ∀ d', d = d' + 1 → cs restc ≤ 8 → (exL avc).length ≤ (mI m').2.2.2.1 → (mI m').2.2.2.1 ≤ 45 → Rr X d M pc Lc stc (Wd mu la ro et) = (Rr X d' (mI m') 0 (ent (mI m') avc) [] (Wd mu la ro et)).bind fun q => Rr X d M nx Lc (psh q.1 restc) q.2) : Fin X d M pc Lc stc mu la ro et Q := by
  unfold s_do at h
  split at h
  · rename_i g
    simp only [Bool.and_eq_true, Nat.ble_eq] at g
    obtain ⟨⟨g1, g2⟩, g3, g4, g5⟩ := g
    obtain ⟨d', rfl⟩ : ∃ d', d = d' + 1 := ⟨d - 1, by omega⟩
    have hx := rvs_ex g1 ha
    have ee := e d' rfl (Nat.le_trans (rvs_cat hr) g4) (by rw [← rvs_len hx]; exact g2) g3
    refine Fin_bind ee ?_
    split at h
    · rename_i c hc'
      obtain ⟨c1, c2, c3⟩ := ctrF_ok hc'
      split at h
      · rename_i q
        rw [Bool.and_eq_true, Nat.ble_eq] at q
        have t := hC c c1 d' avc mu la ro (by omega) (apC_ok hs c3 ha) hi.1 hi.2.1 hi.2.2.2
        rw [c2] at t
        refine Fin_Q t ?_
        rintro r mu' la' ro' ⟨p1, p2, p3, p4, p5⟩
        have f := frm_s q.2 p4
        obtain ⟨o, ho, ν', v1, v2, v3, v4⟩ := resO_ok (hav_ok hs p4) p5
        obtain ⟨o', k1, k2⟩ := allO_mem h o ho
        exact hk _ _ _ _ _ k1 ν' Lc (psh r restc) mu' la' ro' v2 v1 f v3 ⟨p1, p2, fun z hz => (f.2.2.2 (hFl z hz)).trans (hi.2.2.1 z hz), p3⟩ (rvs_m v1 v2 hL) (rvs_psh v4 (rvs_m v1 v2 hr)) (QOk_m hq k2 v1 v2 f)
      · cases h
    · split at h
      · rename_i os hos
        refine hc d' rfl _ _ _ _ hos ν _ mu la ro _ hs hi (rvs_ent g1 ha) ?_
        intro o ho ν' r mu' la' ro' v1 v2 v3 v5 v4 f
        obtain ⟨o', k1, k2⟩ := allO_mem h o ho
        exact hk _ _ _ _ _ k1 ν' Lc (psh r restc) mu' la' ro' v2 v1 f v3 v5 (rvs_m v1 v2 hL) (rvs_psh v4 (rvs_m v1 v2 hr)) (QOk_m hq k2 v1 v2 f)
      · cases h
  · cases h
theorem take_drop_c {α : Type} {l r : List α} {x : α} {n : Nat} (h : l.drop n = x :: r) : l = l.take n ++ x :: r := by
  rw [← h, List.take_append_drop]
theorem x_iv {cl : Nat → List AV → St → Ax} {dep i : Nat} (hdep : dep ≤ d) (hFl : ∀ q, pFl P = some q → wIn (pW P) 6 6 = false) (hC : ∀ c, c ∈ pCt P → ctrT (pIv P) J X et c) (hk : KK P J X d M et σ.1 ν mu la ro Q kk) (hc : ∀ d', d = d' + 1 → CL P J X d' et cl) (h : s_iv P dep (fCn M.1 i) kk cl (pc + 3) L st σ = some outs) (hs : sOk ν σ mu) (hi : Inv P J mu la ro) (hL : rvs ν σ.1 L Lc) (ht : rvs ν σ.1 st stc) (hq : QOk P J outs σ.1 ν mu la ro Q) (hd : decode M.2.2.1 pc = .ok (.invokevirtual i, 3)) : Fin X d M pc Lc stc mu la ro et Q := by
  unfold s_iv at h
  split at h
  · rename_i k ci n m' hn
    have hF := fCn_ok hn
    split at h
    · rename_i x rest hdr
      have h1 := rvs_drop (k := n) ht
      rw [hdr] at h1
      obtain ⟨v, rc, hdc, e1, e2⟩ := rvs_c h1
      split at h
      · rename_i a
        cases rv_r e1
        split at h
        · rename_i g
          simp only [Bool.and_eq_true, Nat.beq_eq] at g
          obtain ⟨rfl, g2, g3⟩ := g
          have tk := rvs_take (k := n) ht
          have hstc := take_drop_c hdc
          refine x_do hdep hFl hC hk hc h hs hi hL (rvs_k (v := .ref a) rfl (rvs_rev tk)) e2 hq ?_
          intro d' hd' q1 q2 q3
          subst hd'
          have := R_iv (X := X) (d := d') (L := Lc) (r := rc) (av := stc.take n) (mu := mu) (la := la) (ro := ro) (et := et) hd hF g2 q1 (by rw [← rvs_len tk]; exact g3) q2 q3
          rw [← hstc] at this
          exact this
        · cases h
      · cases h
    · cases h
  · cases h
end X
