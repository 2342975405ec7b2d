-- ===== the walk: heads of loops, splits
abbrev AH : Type := Nat × List AV × List LQ × Mem × (Nat ⊕ (Nat × Nat)) × Nat × Int × Bool
noncomputable def hdL (σ : St) : List LQ → List AV → Option (St × List AV)
  | [], [] => some (σ, [])
  | q :: ls, v :: L => match q with
    | none => match hdL σ ls L with
      | some (σ', r) => some (σ', (.inr (.inr (.inr (.inr false)))) :: r)
      | none => none
    | some none => match hdL σ ls L with
      | some (σ', r) => some (σ', v :: r)
      | none => none
    | some (some (lo, hi)) => match v with
      | (.inl (s, o)) => match itv σ.2.1 s o with
        | some (l, h) => if (ile lo l && ile h hi) = true then (match hdL σ ls L with
          | some (σ', r) => some (fre σ' lo hi, (.inl (σ'.1, 0)) :: r)
          | none => none) else none
        | none => none
      | _ => none
  | _, _ => none
noncomputable def bkL (σ : St) : List LQ → List AV → List AV → Bool
  | [], [], [] => true
  | q :: ls, a :: A, v :: L => (match q with
    | none => true
    | some none => avE a v
    | some (some (lo, hi)) => match v with
      | (.inl (s, o)) => match itv σ.2.1 s o with
        | some (l, h) => ile lo l && ile h hi
        | none => false
      | _ => false) && bkL σ ls A L
  | _, _, _ => false
noncomputable def memSub (m m' : Mem) : Bool := m.all fun q => match mlk m' q.1 q.2.1 with
  | some (s, o) => Nat.beq s q.2.2.1 && (ile o q.2.2.2 && ile q.2.2.2 o)
  | none => false
noncomputable def jjA (a k : Nat) : Nat := if Nat.beq (shp a).1 1 = true then 0 else k + 1
noncomputable def rkM (iv : IVs) (σ : St) (a k : Nat) : Option (St × (Nat ⊕ (Nat × Nat)) × Nat × Int) := match ldM iv σ a k (jjA a k) with
  | (σ', (.inl (s, o))) => some (σ', .inr (a, k), s, o)
  | _ => none
noncomputable def rkS (iv : IVs) (rk : Nat ⊕ ((Nat × Nat) ⊕ (Nat × Nat))) (σ : St) (L : List AV) : Option (St × (Nat ⊕ (Nat × Nat)) × Nat × Int) := match rk with
  | .inl j => match L[j]? with
    | some (.inl (s, o)) => some (σ, .inl j, s, o)
    | _ => none
  | .inr (.inl (a, k)) => rkM iv σ a k
  | .inr (.inr (a, j)) => match L[j]? with
    | some v => match cpI σ v with
      | some (l, h) => if Nat.beq l h = true then rkM iv σ a l else none
      | none => none
    | none => none
noncomputable def rkB (rk : Nat ⊕ (Nat × Nat)) (σ : St) (L : List AV) : Option (Nat × Int) := match rk with
  | .inl j => match L[j]? with
    | some (.inl (s, o)) => some (s, o)
    | _ => none
  | .inr (a, k) => mlk σ.2.2.1 a k
noncomputable def bkOk (h : AH) (L st : List AV) (σ : St) : Bool := match st with
  | [] => match h with
    | (_, A, ls, mem, rk, s, o, up) => bkL σ ls A L && (memSub mem σ.2.2.1 && (match rkB rk σ L with
      | some (s', o') => Nat.beq s' s && (if up = true then ile (o + 1) o' else ile (o' + 1) o)
      | none => false))
  | _ => false
noncomputable def ahF : List AH → Nat → Option AH
  | [], _ => none
  | h :: hs, pc => if Nat.beq h.1 pc = true then some h else ahF hs pc
noncomputable def hdF (l : List (Nat × Nat × HS)) (m pc : Nat) : Option HS := List.rec none (fun p _ r => cond (cond (Nat.beq p.2.1 pc) (Nat.beq p.1 m) false) (some p.2.2) r) l
noncomputable def spF (l : List (Nat × Nat × Nat × Option Nat)) (m pc : Nat) : Option (Nat × Option Nat) := List.rec none (fun p _ r => cond (cond (Nat.beq p.2.1 pc) (Nat.beq p.1 m) false) (some p.2.2) r) l
/-- a number split into its cases -/
noncomputable def spl (σ : St) (v : AV) (kk : Nat → St → Ax) : Ax := match v with
  | (.inl (s, o)) => match itv σ.2.1 s o with
    | some (.ofNat l, .ofNat h) => if Nat.ble (h - l) 100 = true then allO (fun k => allO (fun τ => kk k τ) (oL (rEq σ s o 0 (Int.ofNat k)))) (rangeN l (h - l + 1)) else none
    | _ => none
  | _ => none
abbrev Tb : Type := Nat → Nat → Option (Instr × Nat)
noncomputable def stA (P : Pg) (tb : Tb) (kk : Kt) (cl : Nat → List AV → St → Ax) (dep m pc : Nat) (L st : List AV) (σ : St) : Ax := match tb m pc with
  | some (ins, len) => sx P dep (mI m) (tb m (pc + 1)) kk cl pc ins len L st σ
  | none => none
noncomputable def ax (P : Pg) (tb : Tb) : Nat → Nat → Nat → List AH → Nat → List AV → List AV → St → Ax
  | 0, _, _, _, _, _, _, _ => none
  | f + 1, dep, m, hs, pc, L, st, σ => match ahF hs pc with
    | some h => if bkOk h L st σ = true then some [] else none
    | none => match hdF (pHd P) m pc with
      | some (ls, drop, rk, up) => match st with
        | [] => match hdL (wMem σ (mdelP σ.2.2.1 drop)) ls L with
          | some (σ1, L1) => match rkS (pIv P) rk σ1 L1 with
            | some (σ2, rk', s, o) => stA P tb (ax P tb f dep m ((pc, L, ls, mdelP σ.2.2.1 drop, rk', s, o, up) :: hs)) (fun m' L' σ' => ax P tb f (dep - 1) m' [] 0 L' [] σ') dep m pc L1 [] σ2
            | none => none
          | none => none
        | _ => none
      | none => match spF (pSp P) m pc with
        | some (j, c) => match L[j]? with
          | some v => spl σ v fun k τ => match c with
            | none => stA P tb (ax P tb f dep m hs) (fun m' L' σ' => ax P tb f (dep - 1) m' [] 0 L' [] σ') dep m pc L st τ
            | some a => match ldM (pIv P) τ a k 0 with
              | (τ2, v2) => spl τ2 v2 fun _ τ3 => stA P tb (ax P tb f dep m hs) (fun m' L' σ' => ax P tb f (dep - 1) m' [] 0 L' [] σ') dep m pc L st τ3
          | none => none
        | none => stA P tb (ax P tb f dep m hs) (fun m' L' σ' => ax P tb f (dep - 1) m' [] 0 L' [] σ') dep m pc L st σ
-- ===== and it is right
noncomputable def bkC1 (ν : Nat → Int) (n : Nat) (q : LQ) (a : AV) (v : Value) : Prop := match q with
  | none => True
  | some none => rv ν n a v
  | some (some (lo, hi)) => ∃ x : Int32, v = .int x ∧ lo ≤ x.toInt ∧ x.toInt ≤ hi
noncomputable def bkC (ν : Nat → Int) (n : Nat) : List LQ → List AV → List Value → Prop
  | [], [], [] => True
  | q :: ls, a :: A, v :: L => bkC1 ν n q a v ∧ bkC ν n ls A L
  | _, _, _ => False
noncomputable def wfL (n : Nat) (L : List AV) : Prop := ∀ a, a ∈ L → wfA n a
noncomputable def wfM (n : Nat) (m : Mem) : Prop := ∀ a k s o, (a, k, s, o) ∈ m → s < n
theorem wfA_m {n n' : Nat} {a : AV} (h : wfA n a) (hl : n ≤ n') : wfA n' a := by
  rcases a with ⟨s, o⟩ | ⟨s, o⟩ | a | k | b | b
  · exact Nat.lt_of_lt_of_le h hl
  · exact Nat.lt_of_lt_of_le h hl
  · exact trivial
  · exact trivial
  · exact trivial
  · exact trivial
theorem rvs_wf {ν : Nat → Int} {n : Nat} : ∀ {L : List AV} {r : List Value}, rvs ν n L r → wfL n L
  | [], _, _ => fun a ha => absurd ha List.not_mem_nil
  | b :: L, r, h => by
    obtain ⟨v, r, rfl, h1, h2⟩ := rvs_c h
    intro a ha
    rcases List.mem_cons.mp ha with q | q
    · rw [q]; exact rv_wf h1
    · exact rvs_wf h2 a q
theorem bkC_b {ν ν' : Nat → Int} {n n' : Nat} (g : agr n ν ν') : ∀ {ls : List LQ} {A : List AV} {L : List Value}, wfL n A → bkC ν' n' ls A L → bkC ν n ls A L
  | [], [], [], _, _ => trivial
  | q :: ls, a :: A, v :: L, w, h => by
    refine ⟨?_, bkC_b g (fun b hb => w b (List.mem_cons_of_mem _ hb)) h.2⟩
    have h1 := h.1
    rcases q with _ | _ | ⟨lo, hi⟩
    · exact trivial
    · exact rv_b h1 (w a List.mem_cons_self) g
    · exact h1
  | [], [], _ :: _, _, h => h.elim
  | [], _ :: _, _, _, h => h.elim
  | _ :: _, [], _, _, h => h.elim
  | _ :: _, _ :: _, [], _, h => h.elim
theorem hd_first {ν : Nat → Int} {σ : St} {mu : Mu} (hs : sOk ν σ mu) : ∀ {ls : List LQ} {L : List AV} {Lc : List Value} {p : St × List AV}, hdL σ ls L = some p → rvs ν σ.1 L Lc → bkC ν σ.1 ls L Lc
  | [], [], Lc, p, _, h => by cases rvs_0 h; exact trivial
  | q :: ls, v :: L, Lc, p, e, h => by
    obtain ⟨w, r, rfl, h1, h2⟩ := rvs_c h
    unfold hdL at e
    rcases q with _ | _ | ⟨lo, hi⟩
    · simp only at e
      split at e
      · rename_i e1
        exact ⟨trivial, hd_first hs e1 h2⟩
      · cases e
    · simp only at e
      split at e
      · rename_i e1
        exact ⟨h1, hd_first hs e1 h2⟩
      · cases e
    · simp only at e
      split at e
      · obtain ⟨x, rfl, g1, g2⟩ := rv_i h1
        split at e
        · rename_i l hh ei
          have a := itv_ok hs.2.2.1 ei
          split at e
          · rename_i c
            rw [Bool.and_eq_true, ile_iff, ile_iff] at c
            split at e
            · rename_i e1
              exact ⟨⟨x, rfl, by omega, by omega⟩, hd_first hs e1 h2⟩
            · cases e
          · cases e
        · cases e
      · cases e
  | [], _ :: _, _, _, e, _ => by cases e
  | _ :: _, [], _, _, e, _ => by cases e
theorem hd_enter {ν : Nat → Int} {σ : St} {mu : Mu} (hs : sOk ν σ mu) : ∀ {ls : List LQ} {L : List AV} {Lc : List Value} {p : St × List AV}, hdL σ ls L = some p → bkC ν σ.1 ls L Lc → ∃ ν', agr σ.1 ν ν' ∧ σ.1 ≤ p.1.1 ∧ sOk ν' p.1 mu ∧ rvs ν' p.1.1 p.2 Lc
  | [], [], [], p, e, _ => by
    cases e
    exact ⟨ν, agr_r _ _, Nat.le_refl _, hs, trivial⟩
  | q :: ls, v :: L, w :: Lc, p, e, h => by
    obtain ⟨h1, h2⟩ := h
    unfold hdL at e
    rcases q with _ | _ | ⟨lo, hi⟩
    · simp only at e
      split at e
      · rename_i e1
        cases e
        obtain ⟨ν', a1, a2, a3, a4⟩ := hd_enter hs e1 h2
        exact ⟨ν', a1, a2, a3, rvs_k (rv_u _ _ _) a4⟩
      · cases e
    · simp only at e
      split at e
      · rename_i e1
        cases e
        obtain ⟨ν', a1, a2, a3, a4⟩ := hd_enter hs e1 h2
        exact ⟨ν', a1, a2, a3, rvs_k (rv_m h1 a1 a2) a4⟩
      · cases e
    · simp only at e
      split at e
      · split at e
        · split at e
          · split at e
            · rename_i σ' r e1
              cases e
              obtain ⟨ν', a1, a2, a3, a4⟩ := hd_enter hs e1 h2
              obtain ⟨x, rfl, x1, x2⟩ := h1
              obtain ⟨ν2, b1, b2, b3, b4⟩ := got_fi a3 x1 x2
              exact ⟨ν2, agr_t a1 b1 a2, Nat.le_trans a2 b2, b3, rvs_k b4 (rvs_m b1 b2 a4)⟩
            · cases e
          · cases e
        · cases e
      · cases e
  | [], [], _ :: _, _, _, h => h.elim
  | [], _ :: _, _, _, e, _ => by cases e
  | _ :: _, [], _, _, e, _ => by cases e
  | _ :: _, _ :: _, [], _, _, h => h.elim
theorem avE_ok {a b : AV} (h : avE a b = true) : a = b ∨ a = (.inr (.inr (.inr (.inr false)))) := by
  rcases a with ⟨s, o⟩ | ⟨s, o⟩ | a | k | b' | b' <;> rcases b with ⟨s', o'⟩ | ⟨s', o'⟩ | a' | k' | b'' | b'' <;> first
    | exact .inr rfl
    | exact .inl rfl
    | (exfalso; revert h; simp [avE]; done)
    | (simp only [avE, Bool.and_eq_true, Nat.beq_eq, ile_iff] at h
       obtain ⟨rfl, h1, h2⟩ := h
       have : o = o' := by omega
       subst this
       exact .inl rfl)
    | (simp only [avE, Nat.beq_eq] at h
       subst h
       exact .inl rfl)
theorem bk_ok {ν0 ν : Nat → Int} {n0 : Nat} {σ : St} {mu : Mu} (hs : sOk ν σ mu) (g : agr n0 ν0 ν) : ∀ {ls : List LQ} {A L : List AV} {Lc : List Value}, wfL n0 A → bkL σ ls A L = true → rvs ν σ.1 L Lc → bkC ν0 n0 ls A Lc
  | [], [], [], Lc, _, _, h => by cases rvs_0 h; exact trivial
  | q :: ls, a :: A, v :: L, Lc, w, e, h => by
    obtain ⟨u, r, rfl, h1, h2⟩ := rvs_c h
    unfold bkL at e
    rw [Bool.and_eq_true] at e
    refine ⟨?_, bk_ok hs g (fun b hb => w b (List.mem_cons_of_mem _ hb)) e.2 h2⟩
    have e1 := e.1
    rcases q with _ | _ | ⟨lo, hi⟩
    · exact trivial
    · rcases avE_ok e1 with e2 | e2
      · subst e2
        exact rv_b h1 (w a List.mem_cons_self) g
      · subst e2
        exact rv_u ν0 n0 u
    · simp only at e1
      split at e1
      · obtain ⟨x, rfl, g1, g2⟩ := rv_i h1
        split at e1
        · rename_i l hh ei
          have b := itv_ok hs.2.2.1 ei
          rw [Bool.and_eq_true, ile_iff, ile_iff] at e1
          exact ⟨x, rfl, by omega, by omega⟩
        · cases e1
      · cases e1
  | [], [], _ :: _, _, _, e, _ => by cases e
  | [], _ :: _, _, _, _, e, _ => by cases e
  | _ :: _, [], _, _, _, e, _ => by cases e
  | _ :: _, _ :: _, [], _, _, e, _ => by cases e
theorem memSub_ok {ν0 ν : Nat → Int} {n0 n : Nat} {m m' : Mem} {mu : Mu} (g : agr n0 ν0 ν) (w : wfM n0 m) (h : mOk ν n m' mu) (e : memSub m m' = true) : mOk ν0 n0 m mu := by
  intro a k s o hm
  have e1 := List.all_eq_true.mp e _ hm
  simp only at e1
  split at e1
  · rename_i s' o' e2
    simp only [Bool.and_eq_true, Nat.beq_eq, ile_iff] at e1
    obtain ⟨rfl, e3, e4⟩ := e1
    obtain ⟨h1, h2⟩ := h _ _ _ _ (mlk_mem e2)
    have w1 := w _ _ _ _ hm
    exact ⟨w1, by rw [h2, g _ w1]; omega⟩
  · cases e1
noncomputable def rkC (rk : Nat ⊕ (Nat × Nat)) (Lc : List Value) (mu : Mu) : Option Int := match rk with
  | .inl j => match Lc[j]? with
    | some (.int x) => some x.toInt
    | _ => none
  | .inr (a, k) => some (mu a k).toInt
theorem rkC_bd {rk : Nat ⊕ (Nat × Nat)} {Lc : List Value} {mu : Mu} {v : Int} (h : rkC rk Lc mu = some v) : iLo ≤ v ∧ v ≤ iHi := by
  unfold rkC at h
  split at h
  · split at h
    · cases h; exact ⟨i_lo _, i_hi _⟩
    · cases h
  · cases h; exact ⟨i_lo _, i_hi _⟩
theorem rkM_ok {iv : IVs} {ν : Nat → Int} {σ σ2 : St} {mu : Mu} {a k s : Nat} {o : Int} {rk' : Nat ⊕ (Nat × Nat)} {L : List AV} {Lc : List Value} (hs : sOk ν σ mu) (hg : gOk iv mu) (hL : rvs ν σ.1 L Lc) (e : rkM iv σ a k = some (σ2, rk', s, o)) : ∃ ν2, agr σ.1 ν ν2 ∧ σ.1 ≤ σ2.1 ∧ sOk ν2 σ2 mu ∧ rvs ν2 σ2.1 L Lc ∧ s < σ2.1 ∧ rkC rk' Lc mu = some (ν2 s + o) := by
  have hj : (ivL iv a (jjA a k)).1 ≤ (mu a k).toInt ∧ (mu a k).toInt ≤ (ivL iv a (jjA a k)).2 := by
    unfold jjA
    split
    · exact (hg a k).1
    · exact (hg a k).2
  obtain ⟨ν2, a1, a2, a3, a4⟩ := ldM_ok hs hj
  unfold rkM at e
  split at e
  · rename_i σ' s' o' e1
    cases e
    rw [e1] at a2 a3 a4
    exact ⟨ν2, a1, a2, a3, rvs_m a1 a2 hL, a4.1, congrArg some a4.2⟩
  · cases e
theorem rkS_ok {iv : IVs} {ν : Nat → Int} {σ σ2 : St} {mu : Mu} {s : Nat} {o : Int} {rk : Nat ⊕ ((Nat × Nat) ⊕ (Nat × Nat))} {rk' : Nat ⊕ (Nat × Nat)} {L : List AV} {Lc : List Value} (hs : sOk ν σ mu) (hg : gOk iv mu) (hL : rvs ν σ.1 L Lc) (e : rkS iv rk σ L = some (σ2, rk', s, o)) : ∃ ν2, agr σ.1 ν ν2 ∧ σ.1 ≤ σ2.1 ∧ sOk ν2 σ2 mu ∧ rvs ν2 σ2.1 L Lc ∧ s < σ2.1 ∧ rkC rk' Lc mu = some (ν2 s + o) := by
  unfold rkS at e
  split at e
  · split at e
    · rename_i ej
      cases e
      obtain ⟨v, e1, e2⟩ := rvs_get hL ej
      obtain ⟨x, rfl, g1, g2⟩ := rv_i e2
      refine ⟨ν, agr_r _ _, Nat.le_refl _, hs, hL, g1, ?_⟩
      simp only [rkC, e1]
      exact congrArg some g2
    · cases e
  · exact rkM_ok hs hg hL e
  · split at e
    · split at e
      · split at e
        · exact rkM_ok hs hg hL e
        · cases e
      · cases e
    · cases e
theorem rkB_ok {ν : Nat → Int} {σ : St} {mu : Mu} {s : Nat} {o : Int} {rk : Nat ⊕ (Nat × Nat)} {L : List AV} {Lc : List Value} (hs : sOk ν σ mu) (hL : rvs ν σ.1 L Lc) (e : rkB rk σ L = some (s, o)) : rkC rk Lc mu = some (ν s + o) := by
  unfold rkB at e
  split at e
  · split at e
    · rename_i ej
      cases e
      obtain ⟨v, e1, e2⟩ := rvs_get hL ej
      obtain ⟨x, rfl, g1, g2⟩ := rv_i e2
      simp only [rkC, e1]
      exact congrArg some g2
    · cases e
  · exact congrArg some (hs.2.2.2.1 _ _ _ _ (mlk_mem e)).2
theorem ahF_mem {pc : Nat} {h : AH} : ∀ {hs : List AH}, ahF hs pc = some h → h ∈ hs ∧ h.1 = pc
  | [], e => by cases e
  | b :: hs, e => by
    unfold ahF at e
    split at e
    · rename_i q
      cases e
      exact ⟨List.mem_cons_self, Nat.eq_of_beq_eq_true q⟩
    · obtain ⟨h1, h2⟩ := ahF_mem e
      exact ⟨List.mem_cons_of_mem _ h1, h2⟩
noncomputable def prog (up : Bool) (a v : Int) : Prop := if up = true then a < v else v < a
noncomputable def meas (up : Bool) (v : Int) : Nat := if up = true then (iHi - v).toNat else (v - iLo).toNat
/-- going back to an open head is right -/
noncomputable def HO (P : Pg) (J : Jt) (X : Tok) (d m : Nat) (et : Nat → Option va_E) (Q : Qt) (h : AH) (n : Nat) (ν : Nat → Int) (mu : Mu) (la : La) (ro : Ro) : Prop := match h with
  | (pc, A, ls, mem, rk, s, o, up) => ∃ ν2 n2, n2 ≤ n ∧ agr n2 ν2 ν ∧ wfL n2 A ∧ wfM n2 mem ∧ s < n2 ∧ ∀ Lc mu' la' ro' v, frm (pW P) mu la ro mu' la' ro' → Inv P J mu' la' ro' → bkC ν2 n2 ls A Lc → mOk ν2 n2 mem mu' → rkC rk Lc mu' = some v → prog up (ν2 s + o) v → Fin X d (mI m) pc Lc [] mu' la' ro' et Q
theorem HO_m {P : Pg} {J : Jt} {X : Tok} {d m : Nat} {et : Nat → Option va_E} {Q : Qt} {h : AH} {n n' : Nat} {ν ν' : Nat → Int} {mu mu' : Mu} {la la' : La} {ro ro' : Ro} (q : HO P J X d m et Q h n ν mu la ro) (hl : n ≤ n') (g : agr n ν ν') (f : frm (pW P) mu la ro mu' la' ro') : HO P J X d m et Q h n' ν' mu' la' ro' := by
  obtain ⟨pc, A, ls, mem, rk, s, o, up⟩ := h
  obtain ⟨ν2, n2, h1, h2, h3, h4, h5, h6⟩ := q
  exact ⟨ν2, n2, Nat.le_trans h1 hl, agr_t h2 (agr_s g h1) (Nat.le_refl _), h3, h4, h5, fun Lc mu2 la2 ro2 v f2 => h6 Lc mu2 la2 ro2 v (frm_t f f2)⟩
theorem spl_ok {ν : Nat → Int} {σ : St} {mu : Mu} {v : AV} {w : Value} {kk : Nat → St → Ax} {outs : List Oc} (hs : sOk ν σ mu) (hv : rv ν σ.1 v w) (h : spl σ v kk = some outs) : ∃ k τ o', kk k τ = some o' ∧ (∀ o, o ∈ o' → o ∈ outs) ∧ sOk ν τ mu ∧ τ.1 = σ.1 := by
  unfold spl at h
  split at h
  · rename_i s o
    obtain ⟨x, rfl, g1, g2⟩ := rv_i hv
    split at h
    · rename_i l hh ei
      have a := itv_ok hs.2.2.1 ei
      have c1 : Int.ofNat l = (l : Int) := rfl
      have c2 : Int.ofNat hh = (hh : Int) := rfl
      split at h
      · obtain ⟨o1, h1, h2⟩ := allO_mem h x.toInt.toNat (mem_rangeN (by omega) (by omega))
        have z := hs.2.1
        have c3 : Int.ofNat x.toInt.toNat = (x.toInt.toNat : Int) := rfl
        obtain ⟨τ, t1, t2, t3⟩ := oL_ok (rEq_ok (s := s) (o := o) (s' := 0) (o' := Int.ofNat x.toInt.toNat) hs.2.2.1 (by omega))
        obtain ⟨o2, k1, k2⟩ := allO_mem h1 τ t1
        exact ⟨_, τ, o2, k1, fun o ho => h2 o (k2 o ho), sOk_e hs t2 t3, t2.1⟩
      · cases h
    · cases h
  · cases h
section AX
variable {P : Pg} {J : Jt} {X : Tok} {et : Nat → Option va_E} {tb : Tb}
theorem ax_ok (hT : ∀ m pc i l, tb m pc = some (i, l) → decode (mI m).2.2.1 pc = .ok (i, l)) (hX : tOk X) (hJ : ∀ mu la ro mu' la' ro', frm (pW P) mu la ro mu' la' ro' → J mu la ro → J mu' la' ro') (hFl : ∀ q, pFl P = some q → wIn (pW P) 6 6 = false) (hC : ∀ c, c ∈ pCt P → ctrT (pIv P) J X et c) : ∀ (f dep m : Nat) (hs : List AH) (pc : Nat) (L st : List AV) (σ : St) (outs : List Oc), ax P tb f dep m hs pc L st σ = some outs → ∀ (d : Nat) (ν : Nat → Int) (Lc stc : List Value) (mu : Mu) (la : La) (ro : Ro) (Q : Qt), dep ≤ d → sOk ν σ mu → Inv P J mu la ro → rvs ν σ.1 L Lc → rvs ν σ.1 st stc → QOk P J outs σ.1 ν mu la ro Q → (∀ h, h ∈ hs → HO P J X d m et Q h σ.1 ν mu la ro) → Fin X d (mI m) pc Lc stc mu la ro et Q := by
  intro f
  induction f with
  | zero => intro dep m hs pc L st σ outs h; cases h
  | succ f ih =>
    intro dep m hs pc L st σ outs h d ν Lc stc mu la ro Q hd hs1 hi hL ht hq hH
    -- one step from here, heads hs' being open
    have stp1 : ∀ (hs' : List AH) (L' st' : List AV) (σ' : St) (outs' : List Oc) (ν' : Nat → Int) (Lc' stc' : List Value) (mu' : Mu) (la' : La) (ro' : Ro), stA P tb (ax P tb f dep m hs') (fun m' L' σ' => ax P tb f (dep - 1) m' [] 0 L' [] σ') dep m pc L' st' σ' = some outs' → sOk ν' σ' mu' → Inv P J mu' la' ro' → rvs ν' σ'.1 L' Lc' → rvs ν' σ'.1 st' stc' → QOk P J outs' σ'.1 ν' mu' la' ro' Q → (∀ h, h ∈ hs' → HO P J X d m et Q h σ'.1 ν' mu' la' ro') → Fin X d (mI m) pc Lc' stc' mu' la' ro' et Q := by
      intro hs' L' st' σ' outs' ν' Lc' stc' mu' la' ro' h1 s1 i1 l1 t1 q1 hh
      unfold stA at h1
      split at h1
      · rename_i ins len hins
        refine sx_ok hX hJ hd hFl hC ?_ ?_ h1 s1 i1 l1 t1 q1 (hT _ _ _ _ hins) (fun i l e => hT _ _ _ _ e)
        · intro pc2 L2 st2 σ2 outs2 h2 ν2 Lc2 stc2 mu2 la2 ro2 n2 g2 f2 s2 i2 l2 t2 q2
          exact ih _ _ _ _ _ _ _ _ h2 d ν2 Lc2 stc2 mu2 la2 ro2 Q hd s2 i2 l2 t2 q2 (fun h hm => HO_m (hh h hm) n2 g2 f2)
        · intro d' hd' m2 L2 σ2 outs2 h2 ν2 Lc2 mu2 la2 ro2 Q2 s2 i2 l2 q2
          exact ih _ _ _ _ _ _ _ _ h2 d' ν2 Lc2 [] mu2 la2 ro2 Q2 (by omega) s2 i2 l2 trivial q2 (fun h hm => absurd hm List.not_mem_nil)
      · cases h1
    unfold ax at h
    split at h
    · -- back at an open head
      rename_i hd1 hf
      obtain ⟨hm, hpc⟩ := ahF_mem hf
      split at h
      · rename_i hb
        cases h
        have ho := hH _ hm
        obtain ⟨pc', A, ls, mem, rk, s, o, up⟩ := hd1
        cases hpc
        obtain ⟨ν2, n2, h1, h2, h3, h4, h5, h6⟩ := ho
        unfold bkOk at hb
        split at hb
        · cases rvs_0 ht
          simp only [Bool.and_eq_true] at hb
          obtain ⟨b1, b2, b3⟩ := hb
          split at b3
          · rename_i s' o' er
            rw [Bool.and_eq_true, Nat.beq_eq] at b3
            obtain ⟨rfl, b3⟩ := b3
            refine h6 Lc mu la ro _ (frm_r _ _ _ _) hi (bk_ok hs1 h2 h3 b1 hL) (memSub_ok h2 h4 hs1.2.2.2.1 b2) (rkB_ok hs1 hL er) ?_
            unfold prog
            rw [h2 _ h5]
            split at b3
            · rename_i hu
              rw [if_pos hu]
              rw [ile_iff] at b3
              omega
            · rename_i hu
              rw [if_neg hu]
              rw [ile_iff] at b3
              omega
          · cases b3
        · cases hb
      · cases h
    · split at h
      · -- a head
        rename_i ls drop rk up hh
        split at h
        · cases rvs_0 ht
          split at h
          · rename_i σ1 L1 e1
            split at h
            · rename_i σ2 rk' s o e2
              have hsd : sOk ν (wMem σ (mdelP σ.2.2.1 drop)) mu := sOk_mem hs1 (fun a k s o hm => hs1.2.2.2.1 _ _ _ _ (mdelP_mem hm).1)
              have key : ∀ (N : Nat) (Lc : List Value) (mu1 : Mu) (la1 : La) (ro1 : Ro), frm (pW P) mu la ro mu1 la1 ro1 → Inv P J mu1 la1 ro1 → mOk ν σ.1 (mdelP σ.2.2.1 drop) mu1 → bkC ν σ.1 ls L Lc → (∀ v, rkC rk' Lc mu1 = some v → meas up v ≤ N) → Fin X d (mI m) pc Lc [] mu1 la1 ro1 et Q := by
                intro N
                induction N with
                | zero =>
                  intro Lc mu1 la1 ro1 f1 i1 m1 c1 hN
                  have s1 : sOk ν (wMem σ (mdelP σ.2.2.1 drop)) mu1 := sOk_mem hs1 m1
                  obtain ⟨ν1, a1, a2, a3, a4⟩ := hd_enter s1 e1 c1
                  obtain ⟨ν2, b1, b2, b3, b4, b5, b6⟩ := rkS_ok a3 i1.1 a4 e2
                  have g12 : agr σ.1 ν ν2 := agr_t a1 b1 a2
                  have n12 : σ.1 ≤ σ2.1 := Nat.le_trans a2 b2
                  refine stp1 _ L1 [] σ2 outs ν2 Lc [] mu1 la1 ro1 h b3 i1 b4 trivial (QOk_m hq (fun _ ho => ho) g12 n12 f1) ?_
                  intro hx hm
                  rcases List.mem_cons.mp hm with q | q
                  · subst q
                    refine ⟨ν2, σ2.1, Nat.le_refl _, agr_r _ _, fun a ha => wfA_m (rvs_wf hL a ha) n12, fun a k s o hm => Nat.lt_of_lt_of_le (m1 _ _ _ _ hm).1 n12, b5, ?_⟩
                    intro Lc2 mu2 la2 ro2 v _ _ _ _ r2 p2
                    exfalso
                    have := hN _ b6
                    have bd := rkC_bd r2
                    unfold meas at this
                    unfold prog at p2
                    split at this
                    · rename_i hu
                      rw [if_pos hu] at p2
                      omega
                    · rename_i hu
                      rw [if_neg hu] at p2
                      omega
                  · exact HO_m (hH _ q) n12 g12 f1
                | succ N ihN =>
                  intro Lc mu1 la1 ro1 f1 i1 m1 c1 hN
                  have s1 : sOk ν (wMem σ (mdelP σ.2.2.1 drop)) mu1 := sOk_mem hs1 m1
                  obtain ⟨ν1, a1, a2, a3, a4⟩ := hd_enter s1 e1 c1
                  obtain ⟨ν2, b1, b2, b3, b4, b5, b6⟩ := rkS_ok a3 i1.1 a4 e2
                  have g12 : agr σ.1 ν ν2 := agr_t a1 b1 a2
                  have n12 : σ.1 ≤ σ2.1 := Nat.le_trans a2 b2
                  refine stp1 _ L1 [] σ2 outs ν2 Lc [] mu1 la1 ro1 h b3 i1 b4 trivial (QOk_m hq (fun _ ho => ho) g12 n12 f1) ?_
                  intro hx hm
                  rcases List.mem_cons.mp hm with q | q
                  · subst q
                    refine ⟨ν2, σ2.1, Nat.le_refl _, agr_r _ _, fun a ha => wfA_m (rvs_wf hL a ha) n12, fun a k s o hm => Nat.lt_of_lt_of_le (m1 _ _ _ _ hm).1 n12, b5, ?_⟩
                    intro Lc2 mu2 la2 ro2 v f2 i2 c2 m2 r2 p2
                    refine ihN Lc2 mu2 la2 ro2 (frm_t f1 f2) i2 ?_ (bkC_b g12 (rvs_wf hL) c2) ?_
                    · intro a k s o hm
                      have w := (m1 _ _ _ _ hm).1
                      exact ⟨w, by rw [(m2 _ _ _ _ hm).2, g12 _ w]⟩
                    · intro v' hv'
                      rw [r2] at hv'
                      cases hv'
                      have := hN _ b6
                      have bd := rkC_bd r2
                      unfold meas at this ⊢
                      unfold prog at p2
                      split at this
                      · rename_i hu
                        rw [if_pos hu] at p2
                        rw [if_pos hu]
                        omega
                      · rename_i hu
                        rw [if_neg hu] at p2
                        rw [if_neg hu]
                        omega
                  · exact HO_m (hH _ q) n12 g12 f1
              refine key (iHi - iLo).toNat Lc mu la ro (frm_r _ _ _ _) hi hsd.2.2.2.1 (hd_first hsd e1 hL) ?_
              intro v hv
              have bd := rkC_bd hv
              unfold meas
              split <;> omega
            · cases h
          · cases h
        · cases h
      · split at h
        · -- a split
          rename_i j c hsp
          split at h
          · rename_i v hv
            obtain ⟨w, w1, w2⟩ := rvs_get hL hv
            obtain ⟨k, τ, o', k1, k2, k3, k4⟩ := spl_ok hs1 w2 h
            have hq' : QOk P J o' τ.1 ν mu la ro Q := by rw [k4]; exact QOk_m hq k2 (agr_r _ _) (Nat.le_refl _) (frm_r _ _ _ _)
            have hH' : ∀ h, h ∈ hs → HO P J X d m et Q h τ.1 ν mu la ro := by rw [k4]; exact hH
            have hL' : rvs ν τ.1 L Lc := by rw [k4]; exact hL
            have ht' : rvs ν τ.1 st stc := by rw [k4]; exact ht
            split at k1
            · exact stp1 hs L st τ o' ν Lc stc mu la ro k1 k3 hi hL' ht' hq' hH'
            · rename_i a
              split at k1
              rename_i τ2 v2 e2
              obtain ⟨ν2, a1, a2, a3, a4⟩ := ldM_ok (iv := pIv P) (a := a) (k := k) (j := 0) k3 (hi.1 a k).1
              rw [e2] at a2 a3 a4
              obtain ⟨k', τ3, o3, c1, c2, c3, c4⟩ := spl_ok a3 a4 k1
              have n3 : τ.1 ≤ τ3.1 := by rw [c4]; exact a2
              exact stp1 hs L st τ3 o3 ν2 Lc stc mu la ro c1 c3 hi (rvs_m a1 n3 hL') (rvs_m a1 n3 ht') (QOk_m hq' c2 a1 n3 (frm_r _ _ _ _)) (fun h hm => HO_m (hH' h hm) n3 a1 (frm_r _ _ _ _))
          · cases h
        · exact stp1 hs L st σ outs ν Lc stc mu la ro h hs1 hi hL ht hq hH
end AX
