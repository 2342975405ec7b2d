-- ===== more parts: jumps, constants, returns, memory
section X
variable {P : Pg} {J : Jt} {X : Tok} {d : Nat} {M : MI} {et : Nat → Option va_E} {ν : Nat → Int} {σ : St} {mu : Mu} {la : La} {ro : Ro} {Q : Qt} {kk : Kt} {pc nxp k : Nat} {L st : List AV} {Lc stc : List Value} {outs : List Oc}
theorem x_nul {b : Bool} {off : Int} (hk : KK P J X d M et σ.1 ν mu la ro Q kk) (h : s_nul b off kk pc L st σ = some outs) (hs : sOk ν σ mu) (hi : Inv P J mu la ro) (hL : rvs ν σ.1 L Lc) (ht : rvs ν σ.1 st stc) (hq : QOk P J outs σ.1 ν mu la ro Q)
    (e1' : ∀ a r, b = true → Rr X d M pc Lc (.ref a :: r) (Wd mu la ro et) = Rr X d M (pc + 3) Lc r (Wd mu la ro et)) (e2' : ∀ a r (t : Nat), b = false → (pc : Int) + off = (t : Int) → Rr X d M pc Lc (.ref a :: r) (Wd mu la ro et) = Rr X d M t Lc r (Wd mu la ro et)) (e3' : ∀ r (t : Nat), b = true → (pc : Int) + off = (t : Int) → Rr X d M pc Lc (.null :: r) (Wd mu la ro et) = Rr X d M t Lc r (Wd mu la ro et)) (e4' : ∀ r, b = false → Rr X d M pc Lc (.null :: r) (Wd mu la ro et) = Rr X d M (pc + 3) Lc r (Wd mu la ro et)) : Fin X d M pc Lc stc mu la ro et Q := by
  unfold s_nul at h
  split at h
  · obtain ⟨v, rc, rfl, e1, e2⟩ := rvs_c ht
    split at h
    · cases rv_r e1
      split at h
      · rename_i q
        exact kk_s hk h hs hi hL e2 hq (e1' _ _ q)
      · rename_i q
        exact x_go hk h hs hi hL e2 hq (fun t et => e2' _ _ t (Bool.not_eq_true _ ▸ q) et)
    · cases rv_n e1
      split at h
      · rename_i q
        exact x_go hk h hs hi hL e2 hq (fun t et => e3' _ t q et)
      · rename_i q
        exact kk_s hk h hs hi hL e2 hq (e4' _ (Bool.not_eq_true _ ▸ q))
    · cases h
  · cases h
theorem x_tab {dflt lo hi : Int} {offs : Array Int} (hk : KK P J X d M et σ.1 ν mu la ro Q kk) (h : s_tab dflt lo hi offs.toList kk pc L st σ = some outs) (hs : sOk ν σ mu) (hi' : Inv P J mu la ro) (hL : rvs ν σ.1 L Lc) (ht : rvs ν σ.1 st stc) (hq : QOk P J outs σ.1 ν mu la ro Q) {len : Nat} (hd : decode M.2.2.1 pc = .ok (.tableswitch dflt lo hi offs, len)) : Fin X d M pc Lc stc mu la ro et Q := by
  have z := hs.2.1
  unfold s_tab at h
  split at h
  · obtain ⟨v, rc, rfl, e1, e2⟩ := rvs_c ht
    split at h
    · obtain ⟨x, rfl, g3, g4⟩ := rv_i e1
      split at h
      · rename_i q
        simp only [Bool.and_eq_true, ile_iff] at q
        obtain ⟨o1, o2, h1, h2, m1, m2⟩ := or2_mem h
        by_cases c : x.toInt < lo ∨ hi < x.toInt
        · split at h2
          · rename_i t et
            refine kk_b hk h2 hs ?_ hi' hL e2 (QOk_m hq m2 (agr_r _ _) (Nat.le_refl _) (frm_r _ _ _ _)) (R_tabD hd c (tgt_ok et))
            rcases c with c | c
            · exact nOkL_l (oL_ok (rLt_ok hs.2.2.1 (by omega)))
            · exact nOkL_r (oL_ok (rLt_ok hs.2.2.1 (by omega)))
          · cases h2
        · have hl : (x.toInt - lo).toNat < offs.toList.length := by
            have : Int.ofNat offs.toList.length = (offs.toList.length : Int) := rfl
            omega
          have hm : (offs.toList[(x.toInt - lo).toNat], (x.toInt - lo).toNat) ∈ offs.toList.zipIdx := by
            rw [List.mk_mem_zipIdx_iff_getElem?]
            exact List.getElem?_eq_getElem hl
          obtain ⟨o', f1, f2⟩ := allO_mem h1 _ hm
          simp only at f1
          split at f1
          · rename_i t et
            refine kk_b hk f1 hs ?_ hi' hL e2 (QOk_m hq (fun o ho => m1 o (f2 o ho)) (agr_r _ _) (Nat.le_refl _) (frm_r _ _ _ _)) (R_tab hd c ?_ (tgt_ok et))
            · have : Int.ofNat (x.toInt - lo).toNat = ((x.toInt - lo).toNat : Int) := rfl
              exact oL_ok (rEq_ok hs.2.2.1 (by omega))
            · rw [← Array.getElem?_toList]
              exact List.getElem?_eq_getElem hl
          · cases f1
      · cases h
    · cases h
  · cases h
theorem lkp_cases (dflt : Int) (key : Int) : ∀ ps : List (Int × Int), (∃ q, q ∈ ps ∧ q.1 = key ∧ Op.lookupswitch.offset ps dflt key = q.2) ∨ Op.lookupswitch.offset ps dflt key = dflt
  | [] => .inr rfl
  | (a, o) :: r => by
    rw [Op.lookupswitch.offset_cons]
    by_cases c : a = key
    · rw [if_pos c]
      exact .inl ⟨(a, o), List.mem_cons_self, c, rfl⟩
    · rw [if_neg c]
      rcases lkp_cases dflt key r with ⟨q, h1, h2, h3⟩ | h
      · exact .inl ⟨q, List.mem_cons_of_mem _ h1, h2, h3⟩
      · exact .inr h
theorem x_lkp {dflt : Int} {ps : Array (Int × Int)} (hk : KK P J X d M et σ.1 ν mu la ro Q kk) (h : s_lkp dflt ps.toList kk pc L st σ = some outs) (hs : sOk ν σ mu) (hi' : Inv P J mu la ro) (hL : rvs ν σ.1 L Lc) (ht : rvs ν σ.1 st stc) (hq : QOk P J outs σ.1 ν mu la ro Q) {len : Nat} (hd : decode M.2.2.1 pc = .ok (.lookupswitch dflt ps, len)) : Fin X d M pc Lc stc mu la ro et Q := by
  have z := hs.2.1
  unfold s_lkp at h
  split at h
  · obtain ⟨v, rc, rfl, e1, e2⟩ := rvs_c ht
    split at h
    · obtain ⟨x, rfl, g3, g4⟩ := rv_i e1
      split at h
      · rename_i q
        obtain ⟨o1, o2, h1, h2, m1, m2⟩ := or2_mem h
        rcases lkp_cases dflt x.toInt ps.toList with ⟨w, w1, w2, w3⟩ | w
        · obtain ⟨o', f1, f2⟩ := allO_mem h1 _ w1
          split at f1
          · rename_i t et
            exact kk_b hk f1 hs (oL_ok (rEq_ok hs.2.2.1 (by omega))) hi' hL e2 (QOk_m hq (fun o ho => m1 o (f2 o ho)) (agr_r _ _) (Nat.le_refl _) (frm_r _ _ _ _)) (R_lkp hd q w3 (tgt_ok et))
          · cases f1
        · split at h2
          · rename_i t et
            exact kk_s hk h2 hs hi' hL e2 (QOk_m hq m2 (agr_r _ _) (Nat.le_refl _) (frm_r _ _ _ _)) (R_lkp hd q w (tgt_ok et))
          · cases h2
      · cases h
    · cases h
  · cases h
theorem x_ic {c lo hi : Int} {x : Int32} (hx : lo ≤ c → c ≤ hi → x.toInt = c) (hk : KK P J X d M et σ.1 ν mu la ro Q kk) (h : s_ic kk nxp L st σ c lo hi = some outs) (hs : sOk ν σ mu) (hi' : Inv P J mu la ro) (hL : rvs ν σ.1 L Lc) (ht : rvs ν σ.1 st stc) (hq : QOk P J outs σ.1 ν mu la ro Q) (e : Rr X d M pc Lc stc (Wd mu la ro et) = Rr X d M nxp Lc (.int x :: stc) (Wd mu la ro et)) : Fin X d M pc Lc stc mu la ro et Q := by
  unfold s_ic at h
  split at h
  · rename_i q
    rw [Bool.and_eq_true, ile_iff, ile_iff] at q
    refine kk_s hk h hs hi' hL (rvs_k (v := .int x) ⟨hs.1, ?_⟩ ht) hq e
    rw [hx q.1 q.2, hs.2.1, Int.zero_add]
  · cases h
theorem fin_ret {v : Option AV} {w : Option Value} (hq : QOk P J [(v, σ)] σ.1 ν mu la ro Q) (hs : sOk ν σ mu) (hi : Inv P J mu la ro) (hv : retOk ν σ.1 v w) (e : Rr X d M pc Lc stc (Wd mu la ro et) = some (w, Wd mu la ro et)) : Fin X d M pc Lc stc mu la ro et Q :=
  ⟨w, mu, la, ro, e, hq _ (List.mem_singleton.mpr rfl) ν w mu la ro (agr_r _ _) (Nat.le_refl _) hs hi hv (frm_r _ _ _ _)⟩
theorem fin_ret1 {a : AV} {w : Value} (hq : QOk P J [(some a, σ)] σ.1 ν mu la ro Q) (hs : sOk ν σ mu) (hi : Inv P J mu la ro) (hv : rv ν σ.1 a w) (e : Rr X d M pc Lc stc (Wd mu la ro et) = some (some w, Wd mu la ro et)) : Fin X d M pc Lc stc mu la ro et Q := fin_ret (w := some w) hq hs hi hv e
theorem x_ir (h : s_ir M.2.2.2.2 st σ = some outs) (hs : sOk ν σ mu) (hi : Inv P J mu la ro) (ht : rvs ν σ.1 st stc) (hq : QOk P J outs σ.1 ν mu la ro Q) (hd : decode M.2.2.1 pc = .ok (.ireturn, 1)) : Fin X d M pc Lc stc mu la ro et Q := by
  unfold s_ir at h
  split at h
  · obtain ⟨v, rc, rfl, e1, e2⟩ := rvs_c ht
    cases rvs_0 e2
    split at h
    · obtain ⟨x, rfl, g1, g2⟩ := rv_i e1
      split at h
      · rename_i hr
        cases h
        exact fin_ret1 hq hs hi e1 (R_ir hd hr)
      · rename_i hr
        split at h
        · rename_i l h' ei
          have a2 := itv_ok hs.2.2.1 ei
          split at h
          · rename_i q
            rw [Bool.and_eq_true, ile_iff, ile_iff] at q
            cases h
            refine fin_ret1 hq hs hi e1 ((R_zr hd hr).trans (if_pos ?_))
            have : x.toInt = 0 ∨ x.toInt = 1 := by omega
            rcases this with w | w
            · exact .inl (Int32.toInt_inj.mp w)
            · exact .inr (Int32.toInt_inj.mp w)
          · cases h
        · cases h
      · cases h
    · cases h
  · cases h
theorem x_lr (h : s_lr M.2.2.2.2 st σ = some outs) (hs : sOk ν σ mu) (hi : Inv P J mu la ro) (ht : rvs ν σ.1 st stc) (hq : QOk P J outs σ.1 ν mu la ro Q) (hd : decode M.2.2.1 pc = .ok (.lreturn, 1)) : Fin X d M pc Lc stc mu la ro et Q := by
  unfold s_lr at h
  split at h
  · obtain ⟨v, rc, rfl, e1, e2⟩ := rvs_c ht
    cases rvs_0 e2
    split at h
    · rename_i q
      obtain ⟨x, rfl⟩ := isL_ok q e1
      split at h
      · rename_i hr
        cases h
        refine fin_ret1 hq hs hi e1 (Rr_rt hd ?_)
        show g1 1 1 (o_lr M.2.2.2.2 [.long x]) = _
        rw [hr]
        rfl
      · cases h
    · cases h
  · cases h
theorem x_ar (h : s_ar M.2.2.2.2 st σ = some outs) (hs : sOk ν σ mu) (hi : Inv P J mu la ro) (ht : rvs ν σ.1 st stc) (hq : QOk P J outs σ.1 ν mu la ro Q) (hd : decode M.2.2.1 pc = .ok (.areturn, 1)) : Fin X d M pc Lc stc mu la ro et Q := by
  unfold s_ar at h
  split at h
  · obtain ⟨v, rc, rfl, e1, e2⟩ := rvs_c ht
    cases rvs_0 e2
    split at h
    · rename_i hr
      split at h
      · cases h
        cases rv_r e1
        refine fin_ret1 hq hs hi e1 (Rr_rt hd ?_)
        show g1 1 1 (o_ar M.2.2.2.2 [.ref _]) = _
        rw [hr]
        rfl
      · cases h
        cases rv_n e1
        refine fin_ret1 hq hs hi e1 (Rr_rt hd ?_)
        show g1 1 1 (o_ar M.2.2.2.2 [.null]) = _
        rw [hr]
        rfl
      · cases h
    · cases h
  · cases h
theorem x_vr (h : s_vr M.2.2.2.2 st σ = some outs) (hs : sOk ν σ mu) (hi : Inv P J mu la ro) (ht : rvs ν σ.1 st stc) (hq : QOk P J outs σ.1 ν mu la ro Q) (hd : decode M.2.2.1 pc = .ok (.return_, 1)) : Fin X d M pc Lc stc mu la ro et Q := by
  unfold s_vr at h
  split at h
  · cases rvs_0 ht
    split at h
    · rename_i hr
      cases h
      refine fin_ret (w := none) hq hs hi trivial (Rr_rt hd ?_)
      show g1 1 1 (o_vr M.2.2.2.2 []) = _
      rw [hr]
      rfl
    · cases h
  · cases h
theorem qR_eq {a ci k b : Nat} (h : qR a ci k = some b) : (qR a ci k).isSome = true ∧ qRd a ci k = b := by
  unfold qRd
  rw [h]
  exact ⟨rfl, rfl⟩
theorem avO_ok (n : Nat) (z : Option Nat) : rv ν n (avO z) (va_rf z) := by
  cases z with
  | none => exact trivial
  | some a => exact rfl
theorem x_gf {i : Nat} (hk : KK P J X d M et σ.1 ν mu la ro Q kk) (h : s_gf P (fF M.1 i) kk (pc + 3) L st σ = some outs) (hs : sOk ν σ mu) (hi : Inv P J mu la ro) (hL : rvs ν σ.1 L Lc) (ht : rvs ν σ.1 st stc) (hq : QOk P J outs σ.1 ν mu la ro Q) (hd : decode M.2.2.1 pc = .ok (.getfield i, 3)) : Fin X d M pc Lc stc mu la ro et Q := by
  unfold s_gf at h
  split at h
  · obtain ⟨v, rc, rfl, e1, e2⟩ := rvs_c ht
    split at h
    · cases rv_r e1
      split at h
      · rename_i hF
        split at h
        · rename_i q
          exact kk_v hk h (gotL_1 (ldM_ok hs (hi.1 _ _).2)) hi hL e2 hq (R_gfI hd hF q)
        · split at h
          · rename_i b hb
            obtain ⟨h1, h2⟩ := qR_eq hb
            have := R_gfR (X := X) (d := d) (L := Lc) (r := rc) (mu := mu) (la := la) (ro := ro) (et := et) hd hF h1
            rw [h2] at this
            exact kk_s hk h hs hi hL (rvs_k (v := .ref b) rfl e2) hq this
          · split at h
            · rename_i q
              rw [Bool.and_eq_true, Bool.and_eq_true, Nat.beq_eq, Nat.beq_eq] at q
              obtain ⟨q1, rfl, rfl⟩ := q
              split at h
              · rename_i z hz
                have := R_gfM (X := X) (d := d) (L := Lc) (r := rc) (mu := mu) (la := la) (ro := ro) (et := et) hd hF q1
                rw [hi.2.2.1 z hz] at this
                exact kk_s hk h hs hi hL (rvs_k (avO_ok _ z) e2) hq this
              · cases h
            · cases h
      · cases h
    · cases h
  · cases h
end X
