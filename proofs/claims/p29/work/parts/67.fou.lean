-- ===== parts that write memory; rows
noncomputable def upR (ro : Ro) (a k : Nat) (q : Option Nat) : Ro := fun c => if c = a then (fun j => if j = k then q else ro a j) else ro c
theorem upR_s (ro : Ro) (a k : Nat) (q : Option Nat) : upR ro a k q a k = q := by
  show (if a = a then (fun j => if j = k then q else ro a j) else ro a) k = q
  rw [if_pos rfl]
  exact if_pos rfl
theorem upR_n {ro : Ro} {a k b j : Nat} {q : Option Nat} (h : ¬ (b = a ∧ j = k)) : upR ro a k q b j = ro b j := by
  show (if b = a then (fun j => if j = k then q else ro a j) else ro b) j = ro b j
  split
  · rename_i e
    subst e
    exact if_neg fun w => h ⟨rfl, w⟩
  · rfl
theorem flds_setR (refs : List (Option (Option Nat))) (f : Nat → Int32) (r : Nat → Option Nat) (k : Nat) (q : Option Nat) (h : refs[k]? = some (some none)) : (flds refs f r 0).set k (va_rf q) = flds refs f (fun j => if j = k then q else r j) 0 := by
  apply List.ext_getElem?
  intro j
  rw [flds_at]
  by_cases hj : j = k
  · subst hj
    rw [List.getElem?_set_self (by rw [flds_len]; exact (List.getElem?_eq_some_iff.mp h).1), h]
    show _ = some (va_rf (if 0 + j = j then q else r (0 + j)))
    rw [Nat.zero_add, if_pos rfl]
  · rw [List.getElem?_set_ne (Ne.symm hj), flds_at]
    rw [Nat.zero_add, if_neg hj]
theorem Wd_upR {mu : Mu} {la : La} {ro : Ro} {et : Nat → Option va_E} {a k : Nat} {e : va_E} {q : Option Nat} (ha : a < 111) (he : cellOf (shp a) (mu a) (la a) (fun j => if j = k then q else ro a j) = some e) : sE (Wd mu la ro et) a e = Wd mu la (upR ro a k q) et := by
  refine Prod.ext rfl (funext fun c => ?_)
  show va_up (Wd mu la ro et).2 a (some e) c = if c < 111 then cellOf (shp c) (mu c) (la c) (upR ro a k q c) else et c
  by_cases hc : c = a
  · subst hc
    rw [va_up_self, if_pos ha, ← he]
    congr 1
    exact (if_pos rfl).symm
  · rw [va_up_ne _ _ hc]
    show (if c < 111 then _ else _) = _
    rw [show upR ro a k q c = ro c from if_neg hc]
section X
variable {P : Pg} {J : Jt} {X : Tok} {d : Nat} {M : MI} {et : Nat → Option va_E} {ν : Nat → Int} {σ : St} {mu : Mu} {la : La} {ro : Ro} {Q : Qt} {kk : Kt} {pc nxp k : Nat} {L st : List AV} {Lc stc : List Value} {outs : List Oc}
theorem R_pfM {i ci k a : Nat} {L r : List Value} {q : Option Nat} (hd : decode M.2.2.1 pc = .ok (.putfield i, 3)) (hF : fF M.1 i = some (ci, k, 1, 0)) (hq : qM a ci k = true) : Rr X d M pc L (va_rf q :: .ref a :: r) (Wd mu la ro et) = Rr X d M (pc + 3) L r (Wd mu la (upR ro a k q) et) := by
  obtain ⟨h1, z, refs, h2, h3⟩ := qM_ok hq
  refine Rr_nx hd ?_
  show g1 3 3 (o_pf _ M.1 i L _ _ _) = _
  have hk : k < (flds refs (mu a) (ro a) 0).length := by rw [flds_len]; exact (List.getElem?_eq_some_iff.mp h3).1
  have e1 : (Wd mu la ro et).2 a = some (.inr (ci, flds refs (mu a) (ro a) 0)) := by rw [Wd_get h1, h2]; rfl
  have e2 : okV 1 (va_rf q) = true := by cases q <;> rfl
  have e3 : sE (Wd mu la ro et) a (.inr (ci, (flds refs (mu a) (ro a) 0).set k (va_rf q))) = Wd mu la (upR ro a k q) et := by
    refine Wd_upR h1 ?_
    rw [h2, flds_setR _ _ _ _ _ h3]
    rfl
  simp only [g1, if_true, o_pf, hF, e1]
  rw [if_pos ⟨trivial, hk, e2, .inl trivial⟩, e3]
  rfl
/-- writes go on -/
theorem kk_w {mu' : Mu} {la' : La} {ro' : Ro} {σ' : St} (hk : KK P J X d M et σ.1 ν mu la ro Q kk) (h : kk nxp L st σ' = some outs) (hn : σ'.1 = σ.1) (hf : frm (pW P) mu la ro mu' la' ro') (hs : sOk ν σ' mu') (hi : Inv P J mu' la' ro') (hL : rvs ν σ.1 L Lc) {stc' : List Value} (ht : rvs ν σ.1 st stc') (hq : QOk P J outs σ.1 ν mu la ro Q) (e : Rr X d M pc Lc stc (Wd mu la ro et) = Rr X d M nxp Lc stc' (Wd mu' la' ro' et)) : Fin X d M pc Lc stc mu la ro et Q := by
  refine Fin_of e (hk _ _ _ _ _ h ν Lc stc' mu' la' ro' (Nat.le_of_eq hn.symm) (agr_r _ _) hf hs hi ?_ ?_ ?_)
  · rw [hn]; exact hL
  · rw [hn]; exact ht
  · rw [hn]; exact QOk_m hq (fun _ ho => ho) (agr_r _ _) (Nat.le_refl _) hf
theorem isFl_ok {a : AV} {v : Value} (h : isFl a = true) (hv : rv ν k a v) : ∃ q, v = va_rf q ∧ flOk q := by
  unfold isFl at h
  split at h
  · rename_i a
    cases rv_r hv
    simp only [Bool.or_eq_true, Nat.beq_eq] at h
    refine ⟨some a, rfl, ?_⟩
    unfold flOk
    rcases h with (rfl | rfl) | (rfl | rfl) <;> simp
  · cases rv_n hv
    exact ⟨none, rfl, .inl rfl⟩
  · cases h
theorem Inv_up {a k : Nat} {x : Int32} (hJ : ∀ mu la ro mu' la' ro', frm (pW P) mu la ro mu' la' ro' → J mu la ro → J mu' la' ro') (hi : Inv P J mu la ro) (hw : wIn (pW P) a 0 = true ∨ wIn (pW P) a (k + 1) = true) (h0 : (ivL (pIv P) a 0).1 ≤ x.toInt ∧ x.toInt ≤ (ivL (pIv P) a 0).2) (h1 : (ivL (pIv P) a (k + 1)).1 ≤ x.toInt ∧ x.toInt ≤ (ivL (pIv P) a (k + 1)).2) : Inv P J (up2 mu a k x) la ro :=
  ⟨gOk_up hi.1 h0 h1, hi.2.1, hi.2.2.1, hJ _ _ _ _ _ _ (frm_up hw) hi.2.2.2⟩
theorem x_pf {i : Nat} (hJ : ∀ mu la ro mu' la' ro', frm (pW P) mu la ro mu' la' ro' → J mu la ro → J mu' la' ro') (hk : KK P J X d M et σ.1 ν mu la ro Q kk) (h : s_pf P (fF M.1 i) kk (pc + 3) L st σ = some outs) (hs : sOk ν σ mu) (hi : Inv P J mu la ro) (hL : rvs ν σ.1 L Lc) (ht : rvs ν σ.1 st stc) (hq : QOk P J outs σ.1 ν mu la ro Q) (hd : decode M.2.2.1 pc = .ok (.putfield i, 3)) : Fin X d M pc Lc stc mu la ro et Q := by
  unfold s_pf at h
  split at h
  · obtain ⟨v, rc, rfl, e1, e2⟩ := rvs_c ht
    obtain ⟨w, rc, rfl, e3, e4⟩ := rvs_c e2
    split at h
    · cases rv_r e3
      split at h
      · rename_i a _ ci k ty fin hF
        split at h
        · obtain ⟨x, rfl, g1, g2⟩ := rv_i e1
          split at h
          · rename_i q
            simp only [Bool.and_eq_true, Nat.beq_eq] at q
            obtain ⟨⟨q1, rfl, rfl⟩, q2, q3, q4⟩ := q
            exact kk_w hk h rfl (frm_up (.inr q2)) (stM_ok hs g1 g2) (Inv_up hJ hi (.inr q2) (inV_ok hs g2 q3) (inV_ok hs g2 q4)) hL e4 hq (R_pfI hd hF q1)
          · cases h
        · split at h
          · rename_i q
            simp only [Bool.and_eq_true, Nat.beq_eq] at q
            obtain ⟨⟨⟨q1, rfl, rfl⟩, rfl, rfl⟩, q2, q3, q4⟩ := q
            obtain ⟨z, rfl, hz⟩ := isFl_ok q3 e1
            have hf : frm (pW P) mu la ro mu la (upR ro 6 5 z) := ⟨fun _ _ _ _ => rfl, fun _ _ => rfl, fun b j hb => upR_n hb, fun hb => by rw [q2] at hb; cases hb⟩
            refine kk_w hk h rfl hf hs ⟨hi.1, ?_, ?_, hJ _ _ _ _ _ _ hf hi.2.2.2⟩ hL e4 hq (R_pfM hd hF q1)
            · obtain ⟨r1, r2, r3, r4⟩ := hi.2.1
              refine ⟨fun j hj => ?_, fun j hj => ?_, fun j hj => ?_, ?_⟩
              · rw [upR_n (by omega)]; exact r1 j hj
              · rw [upR_n (by omega)]; exact r2 j hj
              · rw [upR_n (by omega)]; exact r3 j hj
              · rw [upR_s]; exact hz
            · intro q hq'
              rw [hq'] at q4
              cases q4
          · cases h
      · cases h
    · cases h
  · cases h
theorem clampN {x : Int32} (h : 0 ≤ x.toInt) : x.toNatClampNeg = x.toInt.toNat := rfl
theorem idx_ok {j : AV} {n l h : Nat} {v : Value} (hs : sOk ν σ mu) (e : idx σ j n = some (l, h)) (hv : rv ν σ.1 j v) : ∃ (s : Nat) (o : Int) (x : Int32), j = (.inl (s, o)) ∧ v = .int x ∧ s < σ.1 ∧ x.toInt = ν s + o ∧ ¬ (x < 0 ∨ n ≤ x.toNatClampNeg) ∧ l ≤ x.toNatClampNeg ∧ x.toNatClampNeg ≤ h ∧ h < n ∧ (x.toNatClampNeg : Int) = x.toInt := by
  unfold idx at e
  split at e
  · rename_i s o
    obtain ⟨x, rfl, g1, g2⟩ := rv_i hv
    split at e
    · rename_i l' h' ei
      have a := itv_ok hs.2.2.1 ei
      split at e
      · rename_i q
        rw [Nat.blt_eq] at q
        cases e
        have c1 : Int.ofNat l = (l : Int) := rfl
        have c2 : Int.ofNat h = (h : Int) := rfl
        have c3 : x.toNatClampNeg = x.toInt.toNat := rfl
        have z : (0 : Int32).toInt = 0 := rfl
        refine ⟨s, o, x, rfl, rfl, g1, g2, ?_, by omega, by omega, q, by omega⟩
        rintro (w | w)
        · rw [Int32.lt_iff_toInt_lt, z] at w; omega
        · omega
      · cases e
    · cases e
  · cases e
theorem qA_eq {a t n : Nat} (h : qA a t = some n) : (qA a t).isSome = true ∧ qAd a t = n := by
  unfold qAd
  rw [h]
  exact ⟨rfl, rfl⟩
theorem qJ_eq {a n : Nat} (h : qJ a = some n) : (qJ a).isSome = true ∧ qJd a = n := by
  unfold qJd
  rw [h]
  exact ⟨rfl, rfl⟩
theorem qQ_eq {a n : Nat} (h : qQ a = some n) : (qQ a).isSome = true ∧ qQd a = n := by
  unfold qQd
  rw [h]
  exact ⟨rfl, rfl⟩
theorem qL_eq {a n : Nat} (h : qL a = some n) : (qL a).isSome = true ∧ qLd a = n := by
  unfold qLd
  rw [h]
  exact ⟨rfl, rfl⟩
/-- the static rows are as told -/
noncomputable def tOk (X : Tok) : Prop := ∀ k, k = 1 ∨ k = 2 → ∃ f, X (UInt32.ofNat k) = some (tokL k, f) ∧ ∀ i, i < tokL k → (tokI k).1 ≤ (f i).toInt ∧ (f i).toInt ≤ (tokI k).2
theorem x_ia {t : Nat} (hX : tOk X) (hk : KK P J X d M et σ.1 ν mu la ro Q kk) (h : s_ia P t kk nxp L st σ = some outs) (hs : sOk ν σ mu) (hi : Inv P J mu la ro) (hL : rvs ν σ.1 L Lc) (ht : rvs ν σ.1 st stc) (hq : QOk P J outs σ.1 ν mu la ro Q) (e : ∀ (j : Int32) a r, (qA a t).isSome = true → Rr X d M pc Lc (.int j :: .ref a :: r) (Wd mu la ro et) = if j < 0 ∨ qAd a t ≤ j.toNatClampNeg then none else Rr X d M nxp Lc (.int (mu a j.toNatClampNeg) :: r) (Wd mu la ro et)) (e' : ∀ (j : Int32) q n f r, t = 0 → X q = some (n, f) → Rr X d M pc Lc (.int j :: .float q :: r) (Wd mu la ro et) = if j < 0 ∨ n ≤ j.toNatClampNeg then none else Rr X d M nxp Lc (.int (f j.toNatClampNeg) :: r) (Wd mu la ro et)) : Fin X d M pc Lc stc mu la ro et Q := by
  unfold s_ia at h
  split at h
  · obtain ⟨v, rc, rfl, e1, e2⟩ := rvs_c ht
    obtain ⟨w, rc, rfl, e3, e4⟩ := rvs_c e2
    split at h
    · rename_i a
      cases rv_r e3
      split at h
      · rename_i n hn
        obtain ⟨n1, n2⟩ := qA_eq hn
        split at h
        · rename_i l hh ei
          obtain ⟨s, o, x, rfl, rfl, g1, g2, g3, g4, g5, g6, g7⟩ := idx_ok hs ei e1
          have ee := e x a rc n1
          rw [n2, if_neg g3] at ee
          split at h
          · rename_i q
            rw [Nat.ble_eq] at q
            have : x.toNatClampNeg = l := by omega
            rw [this] at ee
            exact kk_v hk h (gotL_1 (ldM_ok hs (hi.1 _ _).1)) hi hL e4 hq ee
          · exact kk_v hk h (gotL_1 (ldU_ok hs hi.1)) hi hL e4 hq ee
        · cases h
      · cases h
    · rename_i q
      obtain ⟨q1, rfl⟩ := rv_t e3
      split at h
      · rename_i ht0
        rw [Nat.beq_eq] at ht0
        split at h
        · rename_i p ei
          obtain ⟨l, hh⟩ := p
          obtain ⟨s, o, x, rfl, rfl, g1, g2, g3, g4, g5, g6, g7⟩ := idx_ok hs ei e1
          obtain ⟨f, f1, f2⟩ := hX q q1
          have ee := e' x _ _ _ rc ht0 f1
          rw [if_neg g3] at ee
          refine kk_v hk h (gotL_1 (got_mkI hs fun _ => f2 _ (by omega))) hi hL e4 hq ee
        · cases h
      · cases h
    · cases h
  · cases h
theorem x_la (hk : KK P J X d M et σ.1 ν mu la ro Q kk) (h : s_la kk (pc + 1) L st σ = some outs) (hs : sOk ν σ mu) (hi : Inv P J mu la ro) (hL : rvs ν σ.1 L Lc) (ht : rvs ν σ.1 st stc) (hq : QOk P J outs σ.1 ν mu la ro Q) (hd : decode M.2.2.1 pc = .ok (.laload, 1)) : Fin X d M pc Lc stc mu la ro et Q := by
  unfold s_la at h
  split at h
  · obtain ⟨v, rc, rfl, e1, e2⟩ := rvs_c ht
    obtain ⟨w, rc, rfl, e3, e4⟩ := rvs_c e2
    split at h
    · rename_i a
      cases rv_r e3
      split at h
      · rename_i n hn
        obtain ⟨n1, n2⟩ := qJ_eq hn
        split at h
        · rename_i p ei
          obtain ⟨l, hh⟩ := p
          obtain ⟨s, o, x, rfl, rfl, g1, g2, g3, g4, g5, g6, g7⟩ := idx_ok hs ei e1
          have ee := R_lalW (X := X) (d := d) (L := Lc) (r := rc) (mu := mu) (la := la) (ro := ro) (et := et) (j := x) hd n1
          rw [n2, if_neg g3] at ee
          exact kk_v hk h (gotL_1 (got_tL _ hs)) hi hL e4 hq ee
        · cases h
      · cases h
    · cases h
  · cases h
theorem mem_rangeN {k : Nat} : ∀ {n a : Nat}, a ≤ k → k < a + n → k ∈ rangeN a n
  | 0, a, h1, h2 => by omega
  | n + 1, a, h1, h2 => by
    unfold rangeN
    rcases Nat.lt_or_ge a k with q | q
    · exact List.mem_cons_of_mem _ (mem_rangeN q (by omega))
    · have : k = a := by omega
      subst this
      exact List.mem_cons_self
theorem row_ok {a n k : Nat} (h : isRow a n = true) (hr : rOk ro) (hk : k < n) : ro a k = some (rowA a k) := by
  unfold isRow at h
  simp only [Bool.or_eq_true, Bool.and_eq_true, Nat.beq_eq] at h
  rcases h with (⟨rfl, rfl⟩ | ⟨rfl, rfl⟩) | ⟨rfl, rfl⟩
  · exact hr.1 k hk
  · exact hr.2.1 k hk
  · exact hr.2.2.1 k hk
theorem x_aa (hk : KK P J X d M et σ.1 ν mu la ro Q kk) (h : s_aa kk (pc + 1) L st σ = some outs) (hs : sOk ν σ mu) (hi : Inv P J mu la ro) (hL : rvs ν σ.1 L Lc) (ht : rvs ν σ.1 st stc) (hq : QOk P J outs σ.1 ν mu la ro Q) (hd : decode M.2.2.1 pc = .ok (.aaload, 1)) : Fin X d M pc Lc stc mu la ro et Q := by
  unfold s_aa at h
  split at h
  · obtain ⟨v, rc, rfl, e1, e2⟩ := rvs_c ht
    obtain ⟨w, rc, rfl, e3, e4⟩ := rvs_c e2
    split at h
    · rename_i a
      cases rv_r e3
      split at h
      · rename_i n hn
        obtain ⟨n1, n2⟩ := qQ_eq hn
        split at h
        · rename_i hrow
          split at h
          · rename_i l hh ei
            obtain ⟨s, o, x, rfl, rfl, g1, g2, g3, g4, g5, g6, g7⟩ := idx_ok hs ei e1
            have ee := R_aalW (X := X) (d := d) (L := Lc) (r := rc) (mu := mu) (la := la) (ro := ro) (et := et) (j := x) hd n1
            rw [n2, if_neg g3, row_ok hrow hi.2.1 (by omega)] at ee
            simp only at h
            obtain ⟨o', h1, h2⟩ := allO_mem h x.toNatClampNeg (mem_rangeN g4 (by omega))
            have z := hs.2.1
            have c : Int.ofNat x.toNatClampNeg = (x.toNatClampNeg : Int) := rfl
            exact kk_b hk h1 hs (oL_ok (rEq_ok hs.2.2.1 (by omega))) hi hL (rvs_k (v := .ref (rowA a x.toNatClampNeg)) rfl e4) (QOk_m hq h2 (agr_r _ _) (Nat.le_refl _) (frm_r _ _ _ _)) ee
          · cases h
        · cases h
      · cases h
    · cases h
  · cases h
theorem x_sa {t : Nat} {F : Int32 → Int32} (hF : t = 0 → ∀ x, F x = x) (hJ : ∀ mu la ro mu' la' ro', frm (pW P) mu la ro mu' la' ro' → J mu la ro → J mu' la' ro') (hk : KK P J X d M et σ.1 ν mu la ro Q kk) (h : s_sa P t kk nxp L st σ = some outs) (hs : sOk ν σ mu) (hi : Inv P J mu la ro) (hL : rvs ν σ.1 L Lc) (ht : rvs ν σ.1 st stc) (hq : QOk P J outs σ.1 ν mu la ro Q) (e : ∀ (x j : Int32) a r, (qA a t).isSome = true → Rr X d M pc Lc (.int x :: .int j :: .ref a :: r) (Wd mu la ro et) = if j < 0 ∨ qAd a t ≤ j.toNatClampNeg then none else Rr X d M nxp Lc r (Wd (up2 mu a j.toNatClampNeg (F x)) la ro et)) : Fin X d M pc Lc stc mu la ro et Q := by
  unfold s_sa at h
  split at h
  · obtain ⟨v, rc, rfl, e1, e2⟩ := rvs_c ht
    obtain ⟨w, rc, rfl, e3, e4⟩ := rvs_c e2
    obtain ⟨u, rc, rfl, e5, e6⟩ := rvs_c e4
    split at h
    · rename_i a
      cases rv_r e5
      split at h
      · rename_i s o
        obtain ⟨y, rfl, y1, y2⟩ := rv_i e1
        split at h
        · rename_i n hn
          obtain ⟨n1, n2⟩ := qA_eq hn
          split at h
          · rename_i l hh ei
            obtain ⟨s', o', x, rfl, rfl, g1, g2, g3, g4, g5, g6, g7⟩ := idx_ok hs ei e3
            have ee := e y x a rc n1
            rw [n2, if_neg g3] at ee
            split at h
            · rename_i q
              simp only [Bool.and_eq_true] at q
              obtain ⟨⟨q1, q2⟩, q3⟩ := q
              have inv : Inv P J (up2 mu a x.toNatClampNeg (F y)) la ro := by
                refine Inv_up hJ hi (.inl q1) ?_ ?_
                · unfold saOk at q3
                  split at q3
                  · rename_i t0
                    rw [Nat.beq_eq] at t0
                    rw [hF t0]
                    exact inV_ok hs y2 q3
                  · rw [ivF_ok q3]; exact top_ok _
                · rw [ivR_ok q2]; exact top_ok _
              split at h
              · rename_i q4
                rw [Bool.and_eq_true, Nat.ble_eq, Nat.beq_eq] at q4
                have : x.toNatClampNeg = l := by omega
                rw [this] at ee inv
                rw [hF q4.2] at ee inv
                exact kk_w hk h rfl (frm_up (.inl q1)) (stM_ok hs y1 y2) inv hL e6 hq ee
              · exact kk_w hk h rfl (frm_up (.inl q1)) (stU_ok hs fun b j hb => up2_a hb) inv hL e6 hq ee
            · cases h
          · cases h
        · cases h
      · cases h
    · cases h
  · cases h
theorem x_sl (hJ : ∀ mu la ro mu' la' ro', frm (pW P) mu la ro mu' la' ro' → J mu la ro → J mu' la' ro') (hk : KK P J X d M et σ.1 ν mu la ro Q kk) (h : s_sl P kk (pc + 1) L st σ = some outs) (hs : sOk ν σ mu) (hi : Inv P J mu la ro) (hL : rvs ν σ.1 L Lc) (ht : rvs ν σ.1 st stc) (hq : QOk P J outs σ.1 ν mu la ro Q) (hd : decode M.2.2.1 pc = .ok (.lastore, 1)) : Fin X d M pc Lc stc mu la ro et Q := by
  unfold s_sl at h
  split at h
  · obtain ⟨v, rc, rfl, e1, e2⟩ := rvs_c ht
    obtain ⟨w, rc, rfl, e3, e4⟩ := rvs_c e2
    obtain ⟨u, rc, rfl, e5, e6⟩ := rvs_c e4
    split at h
    · rename_i a
      cases rv_r e5
      split at h
      · rename_i il
        obtain ⟨y, rfl⟩ := isL_ok il e1
        split at h
        · rename_i n hn
          obtain ⟨n1, n2⟩ := qJ_eq hn
          split at h
          · rename_i p ei
            obtain ⟨l, hh⟩ := p
            obtain ⟨s', o', x, rfl, rfl, g1, g2, g3, g4, g5, g6, g7⟩ := idx_ok hs ei e3
            have ee := R_lasW (X := X) (d := d) (L := Lc) (r := rc) (mu := mu) (la := la) (ro := ro) (et := et) (j := x) (x := y) hd n1
            rw [n2, if_neg g3] at ee
            split at h
            · rename_i q
              exact kk_w hk h rfl (frm_upJ q) hs ⟨hi.1, hi.2.1, hi.2.2.1, hJ _ _ _ _ _ _ (frm_upJ q) hi.2.2.2⟩ hL e6 hq ee
            · cases h
          · cases h
        · cases h
      · cases h
    · cases h
  · cases h
theorem x_len (hX : tOk X) (hk : KK P J X d M et σ.1 ν mu la ro Q kk) (h : s_len kk (pc + 1) L st σ = some outs) (hs : sOk ν σ mu) (hi : Inv P J mu la ro) (hL : rvs ν σ.1 L Lc) (ht : rvs ν σ.1 st stc) (hq : QOk P J outs σ.1 ν mu la ro Q) (hd : decode M.2.2.1 pc = .ok (.arraylength, 1)) : Fin X d M pc Lc stc mu la ro et Q := by
  have sm : ∀ n : Nat, n ≤ 2000 → (Int32.ofNat n).toInt = ν 0 + Int.ofNat n := by
    intro n hn
    rw [hs.2.1, Int.zero_add, Int32.toInt_ofNat_of_lt (by omega)]
    rfl
  unfold s_len at h
  split at h
  · obtain ⟨v, rc, rfl, e1, e2⟩ := rvs_c ht
    split at h
    · rename_i a
      cases rv_r e1
      split at h
      · rename_i n hn
        obtain ⟨n1, n2⟩ := qL_eq hn
        split at h
        · rename_i q
          rw [Nat.ble_eq] at q
          have ee := R_lenW (X := X) (d := d) (L := Lc) (r := rc) (mu := mu) (la := la) (ro := ro) (et := et) hd n1
          rw [n2] at ee
          exact kk_s hk h hs hi hL (rvs_k (v := .int (Int32.ofNat n)) ⟨hs.1, sm n q⟩ e2) hq ee
        · cases h
      · cases h
    · rename_i q
      obtain ⟨q1, rfl⟩ := rv_t e1
      obtain ⟨f, f1, f2⟩ := hX q q1
      refine kk_s hk h hs hi hL (rvs_k (v := .int (Int32.ofNat (tokL q))) ⟨hs.1, sm _ ?_⟩ e2) hq (Rr_nx hd ?_)
      · rcases q1 with rfl | rfl <;> decide
      · show g1 1 1 (o_len X Lc _ _ _) = _
        simp only [g1, if_true, o_len, f1]
        rfl
    · cases h
  · cases h
end X
