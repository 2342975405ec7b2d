-- ===== static calls, copies; the instruction whole
noncomputable def upA (mu : Mu) (b : Nat) (f : Nat → Int32) : Mu := fun c => if c = b then f else mu c
theorem Wd_upA {mu : Mu} {la : La} {ro : Ro} {et : Nat → Option va_E} {a : Nat} {e : va_E} {f : Nat → Int32} (ha : a < 111) (he : cellOf (shp a) f (la a) (ro a) = some e) : sE (Wd mu la ro et) a e = Wd (upA mu a f) la ro et := by
  refine Prod.ext rfl (funext fun c => ?_)
  show va_up (Wd mu la ro et).2 a (some e) c = if c < 111 then cellOf (shp c) (upA mu a f c) (la c) (ro c) else et c
  by_cases hc : c = a
  · subst hc
    rw [va_up_self, if_pos ha, ← he]
    congr 1
    exact (if_pos rfl).symm
  · rw [va_up_ne _ _ hc]
    show (if c < 111 then _ else _) = _
    rw [show upA mu a f c = mu c from if_neg hc]
section X
variable {P : Pg} {J : Jt} {X : Tok} {d : Nat} {M : MI} {et : Nat → Option va_E} {ν : Nat → Int} {σ : St} {mu : Mu} {la : La} {ro : Ro} {Q : Qt} {kk : Kt} {pc nxp k : Nat} {L st : List AV} {Lc stc : List Value} {outs : List Oc}
theorem x_mth {j dep i a1 a2 a3 : Nat} (hdep : dep ≤ d) (hk : KK P J X d M et σ.1 ν mu la ro Q kk) (h : s_mth j dep kk (pc + 3) L st σ = some outs) (hs : sOk ν σ mu) (hi : Inv P J mu la ro) (hL : rvs ν σ.1 L Lc) (ht : rvs ν σ.1 st stc) (hq : QOk P J outs σ.1 ν mu la ro Q) (hF : fCn M.1 i = some (j, a1, a2, a3)) (hd : decode M.2.2.1 pc = .ok (.invokestatic i, 3)) : Fin X d M pc Lc stc mu la ro et Q := by
  have hF' := fCn_ok hF
  unfold s_mth at h
  split at h
  · rename_i g
    rw [Nat.ble_eq] at g
    obtain ⟨d', rfl⟩ : ∃ d', d = d' + 1 := ⟨d - 1, by omega⟩
    split at h
    · rename_i y r
      obtain ⟨v, rc, hst, e1, e2⟩ := rvs_c ht
      split at h
      · rename_i j8
        rw [Nat.beq_eq] at j8
        subst j8
        split at h
        · rename_i q
          rw [Nat.ble_eq] at q
          refine x_i (F := fun x => if 0 ≤ x then x else 0 - x) (fun s o x g1 g2 => opAbs_ok hs g1 g2) hk h hi hL ht hq (fun x r' hr' => ?_)
          rw [hst] at hr'
          cases hr'
          exact R_abs hd hF' (Nat.le_trans (rvs_cat e2) q)
        · cases h
      · split at h
        · rename_i x r'
          obtain ⟨w, rc, hst2, e3, e4⟩ := rvs_c e2
          subst hst2
          split at h
          · rename_i q
            rw [Nat.ble_eq] at q
            have hcs := Nat.le_trans (rvs_cat e4) q
            split at h
            · rename_i jj
              rw [Nat.beq_eq] at jj
              subst jj
              refine x_ii (F := fun x y => if x < y then y else x) (fun s o s' o' x y g1 g2 g3 g4 => opMx_ok hs g2 g4) hk h hi hL ht hq (fun x y r' hr' => ?_)
              rw [hst] at hr'
              cases hr'
              exact R_max hd hF' hcs
            · split at h
              · rename_i jj
                rw [Nat.beq_eq] at jj
                subst jj
                refine x_ii (F := fun x y => if y < x then y else x) (fun s o s' o' x y g1 g2 g3 g4 => opMn_ok hs g2 g4) hk h hi hL ht hq (fun x y r' hr' => ?_)
                rw [hst] at hr'
                cases hr'
                exact R_min hd hF' hcs
              · split at h
                · rename_i jj
                  rw [Nat.beq_eq] at jj
                  subst jj
                  refine x_lL (F := fun x y => if y < x then y else x) (fun s o s' o' x y g1 g2 g3 g4 => gotL_1 (got_tL _ hs)) hk h hi hL ht hq (fun x y r' hr' => ?_)
                  rw [hst] at hr'
                  cases hr'
                  exact R_minL hd hF' hcs
                · cases h
          · cases h
        · cases h
    · cases h
  · cases h
theorem cpI_ok {a : AV} {v : Value} {l h : Nat} (hs : sOk ν σ mu) (e : cpI σ a = some (l, h)) (hv : rv ν σ.1 a v) : ∃ x : Int32, v = .int x ∧ ¬ x < 0 ∧ x.toNatClampNeg ≤ h := by
  unfold cpI at e
  split at e
  · obtain ⟨x, rfl, g1, g2⟩ := rv_i hv
    split at e
    · rename_i l' h' ei
      have a := itv_ok hs.2.2.1 ei
      cases e
      have c1 : Int.ofNat l = (l : Int) := rfl
      have c2 : Int.ofNat h = (h : Int) := rfl
      have c3 : x.toNatClampNeg = x.toInt.toNat := rfl
      have z : (0 : Int32).toInt = 0 := rfl
      exact ⟨x, rfl, fun w => by rw [Int32.lt_iff_toInt_lt, z] at w; omega, by omega⟩
    · cases e
  · cases e
theorem R_cpW {i a b a1 a2 a3 d' : Nat} {x j n : Int32} {L r : List Value} (hd : decode M.2.2.1 pc = .ok (.invokestatic i, 3)) (hF : fCn M.1 i = some (10, a1, a2, a3)) (ha : (qA a 0).isSome = true) (hb : (qA b 0).isSome = true) (hc : cs r ≤ 8) (h1 : ¬ x < 0) (h2 : ¬ j < 0) (h3 : ¬ n < 0) (h4 : x.toNatClampNeg + n.toNatClampNeg ≤ qAd a 0) (h5 : j.toNatClampNeg + n.toNatClampNeg ≤ qAd b 0) : Rr X (d' + 1) M pc L (.int n :: .int j :: .ref b :: .int x :: .ref a :: r) (Wd mu la ro et) = Rr X (d' + 1) M (pc + 3) L r (Wd (upA mu b (va_cpy (mu a) (mu b) x.toNatClampNeg j.toNatClampNeg n.toNatClampNeg)) la ro et) := by
  obtain ⟨ha1, za, ha2⟩ := qA_ok ha
  obtain ⟨hb1, zb, hb2⟩ := qA_ok hb
  have hF' := fCn_ok hF
  refine Rr_nx hd ?_
  show g1 3 3 (o_is1 _ M.1 i L _ _ _) = _
  have e1 : (Wd mu la ro et).2 a = some (.inl (0, qAd a 0, .inl (mu a))) := by rw [Wd_get ha1, ha2]; rfl
  have e2 : (Wd mu la ro et).2 b = some (.inl (0, qAd b 0, .inl (mu b))) := by rw [Wd_get hb1, hb2]; rfl
  have e3 : sE (Wd mu la ro et) b (.inl (0, qAd b 0, .inl (va_cpy (mu a) (mu b) x.toNatClampNeg j.toNatClampNeg n.toNatClampNeg))) = Wd (upA mu b (va_cpy (mu a) (mu b) x.toNatClampNeg j.toNatClampNeg n.toNatClampNeg)) la ro et := by
    refine Wd_upA hb1 ?_
    rw [hb2]
    rfl
  simp only [g1, if_true, o_is1, hF', toQ, o_cp, e1, e2]
  rw [if_pos ⟨Nat.succ_pos _, hc, h1, h2, h3, h4, h5⟩, e3]
  rfl
theorem x_cp {dep i a1 a2 a3 : Nat} (hJ : ∀ mu la ro mu' la' ro', frm (pW P) mu la ro mu' la' ro' → J mu la ro → J mu' la' ro') (hdep : dep ≤ d) (hk : KK P J X d M et σ.1 ν mu la ro Q kk) (h : s_cp P dep kk (pc + 3) L st σ = some outs) (hs : sOk ν σ mu) (hi : Inv P J mu la ro) (hL : rvs ν σ.1 L Lc) (ht : rvs ν σ.1 st stc) (hq : QOk P J outs σ.1 ν mu la ro Q) (hF : fCn M.1 i = some (10, a1, a2, a3)) (hd : decode M.2.2.1 pc = .ok (.invokestatic i, 3)) : Fin X d M pc Lc stc mu la ro et Q := by
  unfold s_cp at h
  split at h
  · obtain ⟨v1, rc, rfl, e1, t1⟩ := rvs_c ht
    obtain ⟨v2, rc, rfl, e2, t2⟩ := rvs_c t1
    obtain ⟨v3, rc, rfl, e3, t3⟩ := rvs_c t2
    obtain ⟨v4, rc, rfl, e4, t4⟩ := rvs_c t3
    obtain ⟨v5, rc, rfl, e5, t5⟩ := rvs_c t4
    split at h
    · rename_i b a
      cases rv_r e3
      cases rv_r e5
      split at h
      · rename_i na nb l1 h1 l2 h2 l3 h3 qa qb c1 c2 c3
        obtain ⟨n1, n2⟩ := qA_eq qa
        obtain ⟨m1, m2⟩ := qA_eq qb
        obtain ⟨x, rfl, x1, x2⟩ := cpI_ok hs c1 e4
        obtain ⟨j, rfl, j1, j2⟩ := cpI_ok hs c2 e2
        obtain ⟨n, rfl, n3, n4⟩ := cpI_ok hs c3 e1
        split at h
        · rename_i g
          simp only [Bool.and_eq_true, Nat.ble_eq] at g
          obtain ⟨⟨g1, g2⟩, ⟨g3, g4, g5⟩, g6, g7⟩ := g
          obtain ⟨d', rfl⟩ : ∃ d', d = d' + 1 := ⟨d - 1, by omega⟩
          have other : ∀ c q, ¬ c = b → upA mu b (va_cpy (mu a) (mu b) x.toNatClampNeg j.toNatClampNeg n.toNatClampNeg) c q = mu c q := fun c q hc => by unfold upA; rw [if_neg hc]
          have hf : frm (pW P) mu la ro (upA mu b (va_cpy (mu a) (mu b) x.toNatClampNeg j.toNatClampNeg n.toNatClampNeg)) la ro := ⟨fun c q w1 w2 => other c q (fun e => by rw [e, g3] at w1; cases w1), fun _ _ => rfl, fun _ _ _ => rfl, fun _ => rfl⟩
          refine kk_w hk h rfl hf (stU_ok hs other) ⟨?_, hi.2.1, hi.2.2.1, hJ _ _ _ _ _ _ hf hi.2.2.2⟩ hL t5 hq (R_cpW hd hF n1 m1 (Nat.le_trans (rvs_cat t5) g7) x1 j1 n3 (by omega) (by omega))
          intro c q
          by_cases hc : c = b
          · subst hc
            rw [ivF_ok g5, ivR_ok g4]
            exact ⟨top_ok _, top_ok _⟩
          · rw [other c q hc]
            exact hi.1 c q
        · cases h
      · cases h
    · cases h
  · cases h
theorem x_is {cl : Nat → List AV → St → Ax} {dep i : Nat} (hJ : ∀ mu la ro mu' la' ro', frm (pW P) mu la ro mu' la' ro' → J mu la ro → J mu' la' ro') (hdep : dep ≤ d) (hFl : ∀ q, pFl P = some q → wIn (pW P) 6 6 = false) (hC : ∀ c, c ∈ pCt P → ctrT (pIv P) J X et c) (hk : KK P J X d M et σ.1 ν mu la ro Q kk) (hc : ∀ d', d = d' + 1 → CL P J X d' et cl) (h : s_is P dep (fCn M.1 i) kk cl (pc + 3) L st σ = some outs) (hs : sOk ν σ mu) (hi : Inv P J mu la ro) (hL : rvs ν σ.1 L Lc) (ht : rvs ν σ.1 st stc) (hq : QOk P J outs σ.1 ν mu la ro Q) (hd : decode M.2.2.1 pc = .ok (.invokestatic i, 3)) : Fin X d M pc Lc stc mu la ro et Q := by
  unfold s_is at h
  split at h
  · rename_i k ci n m' hn
    have hF := fCn_ok hn
    split at h
    · rename_i g
      rw [Bool.or_eq_true, Nat.beq_eq, Nat.beq_eq] at g
      split at h
      · rename_i g3
        rw [Nat.beq_eq] at g3
        have tk := rvs_take (k := n) ht
        refine x_do hdep hFl hC hk hc h hs hi hL (rvs_rev tk) (rvs_drop (k := n) ht) hq ?_
        intro d' hd' q1 q2 q3
        subst hd'
        have hF2 : fC M.1 i = some (1, ci, n, mI m') ∨ fC M.1 i = some (4, ci, n, mI m') := by
          rcases g with rfl | rfl
          · exact .inl hF
          · exact .inr hF
        have := R_is (X := X) (d := d') (L := Lc) (r := stc.drop n) (av := stc.take n) (h := Wd mu la ro et) hd hF2 q1 (by rw [← rvs_len tk]; exact g3) q2 q3
        rw [List.take_append_drop] at this
        exact this
      · cases h
    · split at h
      · rename_i k10
        rw [Nat.beq_eq] at k10
        subst k10
        exact x_cp hJ hdep hk h hs hi hL ht hq hn hd
      · exact x_mth hdep hk h hs hi hL ht hq hn hd
  · cases h
theorem x_gs {i : Nat} (hk : KK P J X d M et σ.1 ν mu la ro Q kk) (h : s_gs (fS M.1 i) kk (pc + 3) L st σ = some outs) (hs : sOk ν σ mu) (hi : Inv P J mu la ro) (hL : rvs ν σ.1 L Lc) (ht : rvs ν σ.1 st stc) (hq : QOk P J outs σ.1 ν mu la ro Q) (hd : decode M.2.2.1 pc = .ok (.getstatic i, 3)) : Fin X d M pc Lc stc mu la ro et Q := by
  unfold s_gs at h
  split at h
  · rename_i t hF
    have e : Rr X d M pc Lc stc (Wd mu la ro et) = Rr X d M (pc + 3) Lc (.float t :: stc) (Wd mu la ro et) := by
      refine Rr_nx hd ?_
      show g1 3 3 (o_gs M.1 i Lc _ _ _) = _
      simp only [g1, if_true, o_gs, hF]
      rfl
    split at h
    · rename_i t1
      subst t1
      exact kk_s hk h hs hi hL (rvs_k (v := .float 1) ⟨.inl rfl, rfl⟩ ht) hq e
    · split at h
      · rename_i t1
        subst t1
        exact kk_s hk h hs hi hL (rvs_k (v := .float 2) ⟨.inr rfl, rfl⟩ ht) hq e
      · cases h
  · cases h
end X
