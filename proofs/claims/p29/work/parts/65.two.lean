-- ===== the parts are right
section X
variable {P : Pg} {J : Jt} {X : Tok} {d : Nat} {M : MI} {et : Nat → Option va_E} {ν : Nat → Int} {σ : St} {mu : Mu} {la : La} {ro : Ro} {Q : Qt} {kk : Kt} {pc nxp k : Nat} {L st : List AV} {Lc stc : List Value} {outs : List Oc}
theorem rvs_k {n : Nat} {a : AV} {l : List AV} {v : Value} {r : List Value} (h1 : rv ν n a v) (h2 : rvs ν n l r) : rvs ν n (a :: l) (v :: r) := ⟨h1, h2⟩
theorem isI_ok {n : Nat} {a : AV} {v : Value} (h : isI a = true) (hv : rv ν n a v) : ∃ x : Int32, v = .int x := by
  unfold isI at h
  split at h
  · obtain ⟨x, rfl, _⟩ := rv_i hv
    exact ⟨x, rfl⟩
  · cases h
theorem isL_ok {n : Nat} {a : AV} {v : Value} (h : isL a = true) (hv : rv ν n a v) : ∃ x : Int64, v = .long x := by
  unfold isL at h
  split at h
  · obtain ⟨x, rfl, _⟩ := rv_l hv
    exact ⟨x, rfl⟩
  · cases h
theorem isA_ok {n : Nat} {a : AV} {v : Value} (h : isA a = true) (hv : rv ν n a v) : (∃ x, v = .ref x) ∨ (∃ x, v = .float x) ∨ v = .null := by
  unfold isA at h
  split at h
  · exact .inl ⟨_, rv_r hv⟩
  · exact .inr (.inl ⟨_, (rv_t hv).2⟩)
  · exact .inr (.inr (rv_n hv))
  · cases h
theorem x_ld {f : AV → Bool} (hk : KK P J X d M et σ.1 ν mu la ro Q kk) (h : s_ld f kk nxp L st σ k = some outs) (hs : sOk ν σ mu) (hi : Inv P J mu la ro) (hL : rvs ν σ.1 L Lc) (ht : rvs ν σ.1 st stc) (hq : QOk P J outs σ.1 ν mu la ro Q) (e : ∀ a v, f a = true → rv ν σ.1 a v → Lc[k]? = some v → Rr X d M pc Lc stc (Wd mu la ro et) = Rr X d M nxp Lc (v :: stc) (Wd mu la ro et)) : Fin X d M pc Lc stc mu la ro et Q := by
  unfold s_ld at h
  split at h
  · rename_i a ea
    split at h
    · rename_i fa
      obtain ⟨v, e1, e2⟩ := rvs_get hL ea
      exact kk_s hk h hs hi hL (rvs_k e2 ht) hq (e a v fa e2 e1)
    · cases h
  · cases h
theorem x_st {f : AV → Bool} (hk : KK P J X d M et σ.1 ν mu la ro Q kk) (h : s_st f kk nxp L st σ k = some outs) (hs : sOk ν σ mu) (hi : Inv P J mu la ro) (hL : rvs ν σ.1 L Lc) (ht : rvs ν σ.1 st stc) (hq : QOk P J outs σ.1 ν mu la ro Q) (e : ∀ a v r, f a = true → rv ν σ.1 a v → k < Lc.length → Rr X d M pc Lc (v :: r) (Wd mu la ro et) = Rr X d M nxp (sL Lc k v) r (Wd mu la ro et)) : Fin X d M pc Lc stc mu la ro et Q := by
  unfold s_st at h
  split at h
  · rename_i a r
    obtain ⟨v, rc, rfl, e1, e2⟩ := rvs_c ht
    split at h
    · rename_i q
      rw [Bool.and_eq_true, Nat.blt_eq] at q
      exact kk_s hk h hs hi (rvs_put e1 hL q.2) e2 hq (e a v rc q.1 e1 (by rw [← rvs_len hL]; exact q.2))
    · cases h
  · cases h
theorem x_ls (hk : KK P J X d M et σ.1 ν mu la ro Q kk) (h : s_ls kk nxp L st σ k = some outs) (hs : sOk ν σ mu) (hi : Inv P J mu la ro) (hL : rvs ν σ.1 L Lc) (ht : rvs ν σ.1 st stc) (hq : QOk P J outs σ.1 ν mu la ro Q) (e : ∀ (x : Int64) r, k + 1 < Lc.length → Rr X d M pc Lc (.long x :: r) (Wd mu la ro et) = Rr X d M nxp (sL2 Lc k (.long x)) r (Wd mu la ro et)) : Fin X d M pc Lc stc mu la ro et Q := by
  unfold s_ls at h
  split at h
  · rename_i a r
    obtain ⟨v, rc, rfl, e1, e2⟩ := rvs_c ht
    split at h
    · rename_i q
      rw [Bool.and_eq_true, Nat.blt_eq] at q
      obtain ⟨x, rfl⟩ := isL_ok q.1 e1
      exact kk_s hk h hs hi (rvs_set (rv_u _ _ _) (rvs_put e1 hL (Nat.lt_of_succ_lt q.2))) e2 hq (e x rc (by rw [← rvs_len hL]; exact q.2))
    · cases h
  · cases h
theorem x_inc {c : Int} (hk : KK P J X d M et σ.1 ν mu la ro Q kk) (h : s_inc kk nxp L st σ k c = some outs) (hs : sOk ν σ mu) (hi : Inv P J mu la ro) (hL : rvs ν σ.1 L Lc) (ht : rvs ν σ.1 st stc) (hq : QOk P J outs σ.1 ν mu la ro Q) (e : ∀ x : Int32, Lc[k]? = some (.int x) → Rr X d M pc Lc stc (Wd mu la ro et) = Rr X d M nxp (sL Lc k (.int (x + Int32.ofInt c))) stc (Wd mu la ro et)) : Fin X d M pc Lc stc mu la ro et Q := by
  unfold s_inc at h
  split at h
  · rename_i a ea
    obtain ⟨v, e1, e2⟩ := rvs_get hL ea
    split at h
    · rename_i s o
      obtain ⟨x, rfl, g1, g2⟩ := rv_i e2
      split at h
      · rename_i ic
        rw [inI_iff] at ic
        have cv : (Int32.ofInt c).toInt = ν 0 + c := by
          rw [Int32.toInt_ofInt, hs.2.1, Int.zero_add]
          exact bm32 ic.1 ic.2
        obtain ⟨p, hp, ν', f1, f2, f3, f4⟩ := opAdd_ok (x := x) (y := Int32.ofInt c) hs g1 g2 hs.1 cv
        obtain ⟨o', h1, h2⟩ := allO_mem h p hp
        have hkl : k < L.length := (List.getElem?_eq_some_iff.mp ea).1
        refine Fin_of (e x e1) (hk _ _ _ _ _ h1 ν' _ stc mu la ro f2 f1 (frm_r _ _ _ _) f3 hi ?_ (rvs_m f1 f2 ht) (QOk_m hq h2 f1 f2 (frm_r _ _ _ _)))
        exact rvs_put f4 (rvs_m f1 f2 hL) hkl
      · cases h
    · cases h
  · cases h
theorem x_ii {f : St → Nat → Int → Nat → Int → List (St × AV)} {F : Int32 → Int32 → Int32} (hf : ∀ s o s' o' (x y : Int32), s < σ.1 → x.toInt = ν s + o → s' < σ.1 → y.toInt = ν s' + o' → gotL ν σ mu (f σ s o s' o') (.int (F x y))) (hk : KK P J X d M et σ.1 ν mu la ro Q kk) (h : s_ii f kk nxp L st σ = some outs) (hi : Inv P J mu la ro) (hL : rvs ν σ.1 L Lc) (ht : rvs ν σ.1 st stc) (hq : QOk P J outs σ.1 ν mu la ro Q) (e : ∀ (x y : Int32) r, stc = .int y :: .int x :: r → Rr X d M pc Lc (.int y :: .int x :: r) (Wd mu la ro et) = Rr X d M nxp Lc (.int (F x y) :: r) (Wd mu la ro et)) : Fin X d M pc Lc stc mu la ro et Q := by
  unfold s_ii at h
  split at h
  · obtain ⟨v, rc, rfl, e1, e2⟩ := rvs_c ht
    obtain ⟨w, rc, rfl, e3, e4⟩ := rvs_c e2
    split at h
    · obtain ⟨y, rfl, g1, g2⟩ := rv_i e1
      obtain ⟨x, rfl, g3, g4⟩ := rv_i e3
      exact kk_v hk h (hf _ _ _ _ x y g3 g4 g1 g2) hi hL e4 hq (e x y rc rfl)
    · cases h
  · cases h
theorem x_i0 {b : Bool} {F : Int32 → Int32 → Int32} (hf : ∀ s o s' o' (x y : Int32) l, s < σ.1 → x.toInt = ν s + o → y.toInt = ν s' + o' → opD b σ s o s' o' = some l → ¬ y = 0 ∧ gotL ν σ mu l (.int (F x y))) (hk : KK P J X d M et σ.1 ν mu la ro Q kk) (h : s_i0 b kk nxp L st σ = some outs) (hi : Inv P J mu la ro) (hL : rvs ν σ.1 L Lc) (ht : rvs ν σ.1 st stc) (hq : QOk P J outs σ.1 ν mu la ro Q) (e : ∀ (x y : Int32) r, ¬ y = 0 → Rr X d M pc Lc (.int y :: .int x :: r) (Wd mu la ro et) = Rr X d M nxp Lc (.int (F x y) :: r) (Wd mu la ro et)) : Fin X d M pc Lc stc mu la ro et Q := by
  unfold s_i0 at h
  split at h
  · obtain ⟨v, rc, rfl, e1, e2⟩ := rvs_c ht
    obtain ⟨w, rc, rfl, e3, e4⟩ := rvs_c e2
    split at h
    · obtain ⟨y, rfl, g1, g2⟩ := rv_i e1
      obtain ⟨x, rfl, g3, g4⟩ := rv_i e3
      split at h
      · rename_i l el
        obtain ⟨q1, q2⟩ := hf _ _ _ _ x y l g3 g4 g2 el
        exact kk_v hk h q2 hi hL e4 hq (e x y rc q1)
      · cases h
    · cases h
  · cases h
theorem x_i {f : St → Nat → Int → List (St × AV)} {F : Int32 → Int32} (hf : ∀ s o (x : Int32), s < σ.1 → x.toInt = ν s + o → gotL ν σ mu (f σ s o) (.int (F x))) (hk : KK P J X d M et σ.1 ν mu la ro Q kk) (h : s_i f kk nxp L st σ = some outs) (hi : Inv P J mu la ro) (hL : rvs ν σ.1 L Lc) (ht : rvs ν σ.1 st stc) (hq : QOk P J outs σ.1 ν mu la ro Q) (e : ∀ (x : Int32) r, stc = .int x :: r → Rr X d M pc Lc (.int x :: r) (Wd mu la ro et) = Rr X d M nxp Lc (.int (F x) :: r) (Wd mu la ro et)) : Fin X d M pc Lc stc mu la ro et Q := by
  unfold s_i at h
  split at h
  · obtain ⟨v, rc, rfl, e1, e2⟩ := rvs_c ht
    split at h
    · obtain ⟨x, rfl, g1, g2⟩ := rv_i e1
      exact kk_v hk h (hf _ _ x g1 g2) hi hL e2 hq (e x rc rfl)
    · cases h
  · cases h
theorem x_lL {f : St → Nat → Int → Nat → Int → List (St × AV)} {F : Int64 → Int64 → Int64} (hf : ∀ s o s' o' (x y : Int64), s < σ.1 → x.toInt = ν s + o → s' < σ.1 → y.toInt = ν s' + o' → gotL ν σ mu (f σ s o s' o') (.long (F x y))) (hk : KK P J X d M et σ.1 ν mu la ro Q kk) (h : s_lL f kk nxp L st σ = some outs) (hi : Inv P J mu la ro) (hL : rvs ν σ.1 L Lc) (ht : rvs ν σ.1 st stc) (hq : QOk P J outs σ.1 ν mu la ro Q) (e : ∀ (x y : Int64) r, stc = .long y :: .long x :: r → Rr X d M pc Lc (.long y :: .long x :: r) (Wd mu la ro et) = Rr X d M nxp Lc (.long (F x y) :: r) (Wd mu la ro et)) : Fin X d M pc Lc stc mu la ro et Q := by
  unfold s_lL at h
  split at h
  · obtain ⟨v, rc, rfl, e1, e2⟩ := rvs_c ht
    obtain ⟨w, rc, rfl, e3, e4⟩ := rvs_c e2
    split at h
    · obtain ⟨y, rfl, g1, g2⟩ := rv_l e1
      obtain ⟨x, rfl, g3, g4⟩ := rv_l e3
      exact kk_v hk h (hf _ _ _ _ x y g3 g4 g1 g2) hi hL e4 hq (e x y rc rfl)
    · cases h
  · cases h
theorem x_ldv (hk : KK P J X d M et σ.1 ν mu la ro Q kk) (h : s_ldv kk nxp L st σ = some outs) (hs : sOk ν σ mu) (hi : Inv P J mu la ro) (hL : rvs ν σ.1 L Lc) (ht : rvs ν σ.1 st stc) (hq : QOk P J outs σ.1 ν mu la ro Q) (e : ∀ (x y : Int64) r, ¬ y = 0 → Rr X d M pc Lc (.long y :: .long x :: r) (Wd mu la ro et) = Rr X d M nxp Lc (.long (x / y) :: r) (Wd mu la ro et)) : Fin X d M pc Lc stc mu la ro et Q := by
  unfold s_ldv at h
  split at h
  · obtain ⟨v, rc, rfl, e1, e2⟩ := rvs_c ht
    obtain ⟨w, rc, rfl, e3, e4⟩ := rvs_c e2
    split at h
    · obtain ⟨y, rfl, g1, g2⟩ := rv_l e1
      obtain ⟨x, rfl, g3, g4⟩ := rv_l e3
      split at h
      · rename_i l' h' ei
        have a2 := itv_ok hs.2.2.1 ei
        split at h
        · rename_i q
          rw [Bool.or_eq_true, ile_iff, ile_iff] at q
          have z : (0 : Int64).toInt = 0 := rfl
          exact kk_v hk h (gotL_1 (got_tL _ hs)) hi hL e4 hq (e x y rc (fun w => by rw [w, z] at g2; omega))
        · cases h
      · cases h
    · cases h
  · cases h
theorem x_lsh {F : Int64 → Int32 → Int64} (hk : KK P J X d M et σ.1 ν mu la ro Q kk) (h : s_lsh kk nxp L st σ = some outs) (hs : sOk ν σ mu) (hi : Inv P J mu la ro) (hL : rvs ν σ.1 L Lc) (ht : rvs ν σ.1 st stc) (hq : QOk P J outs σ.1 ν mu la ro Q) (e : ∀ (x : Int64) (y : Int32) r, Rr X d M pc Lc (.int y :: .long x :: r) (Wd mu la ro et) = Rr X d M nxp Lc (.long (F x y) :: r) (Wd mu la ro et)) : Fin X d M pc Lc stc mu la ro et Q := by
  unfold s_lsh at h
  split at h
  · obtain ⟨v, rc, rfl, e1, e2⟩ := rvs_c ht
    obtain ⟨w, rc, rfl, e3, e4⟩ := rvs_c e2
    split at h
    · obtain ⟨y, rfl, g1, g2⟩ := rv_i e1
      obtain ⟨x, rfl, g3, g4⟩ := rv_l e3
      exact kk_v hk h (gotL_1 (got_tL _ hs)) hi hL e4 hq (e x y rc)
    · cases h
  · cases h
theorem x_i2l (hk : KK P J X d M et σ.1 ν mu la ro Q kk) (h : s_i2l kk nxp L st σ = some outs) (hs : sOk ν σ mu) (hi : Inv P J mu la ro) (hL : rvs ν σ.1 L Lc) (ht : rvs ν σ.1 st stc) (hq : QOk P J outs σ.1 ν mu la ro Q) (e : ∀ (x : Int32) r, Rr X d M pc Lc (.int x :: r) (Wd mu la ro et) = Rr X d M nxp Lc (.long x.toInt64 :: r) (Wd mu la ro et)) : Fin X d M pc Lc stc mu la ro et Q := by
  unfold s_i2l at h
  split at h
  · obtain ⟨v, rc, rfl, e1, e2⟩ := rvs_c ht
    split at h
    · obtain ⟨x, rfl, g1, g2⟩ := rv_i e1
      exact kk_s hk h hs hi hL (rvs_k (v := .long x.toInt64) ⟨g1, by rw [Int32.toInt_toInt64]; exact g2⟩ e2) hq (e x rc)
    · cases h
  · cases h
theorem x_l2i (hk : KK P J X d M et σ.1 ν mu la ro Q kk) (h : s_l2i kk nxp L st σ = some outs) (hs : sOk ν σ mu) (hi : Inv P J mu la ro) (hL : rvs ν σ.1 L Lc) (ht : rvs ν σ.1 st stc) (hq : QOk P J outs σ.1 ν mu la ro Q) (e : ∀ (x : Int64) r, Rr X d M pc Lc (.long x :: r) (Wd mu la ro et) = Rr X d M nxp Lc (.int x.toInt32 :: r) (Wd mu la ro et)) : Fin X d M pc Lc stc mu la ro et Q := by
  unfold s_l2i at h
  split at h
  · obtain ⟨v, rc, rfl, e1, e2⟩ := rvs_c ht
    split at h
    · obtain ⟨x, rfl, g1, g2⟩ := rv_l e1
      exact kk_v hk h (opL2I_ok hs g1 g2) hi hL e2 hq (e x rc)
    · cases h
  · cases h
theorem cat1_ok {n : Nat} {a : AV} {v : Value} (h : (isI a || isA a) = true) (hv : rv ν n a v) : v.category = 1 := by
  rw [Bool.or_eq_true] at h
  rcases h with h | h
  · obtain ⟨x, rfl⟩ := isI_ok h hv; rfl
  · rcases isA_ok h hv with ⟨x, rfl⟩ | ⟨x, rfl⟩ | rfl <;> rfl
theorem x_dup (hk : KK P J X d M et σ.1 ν mu la ro Q kk) (h : s_dup kk nxp L st σ = some outs) (hs : sOk ν σ mu) (hi : Inv P J mu la ro) (hL : rvs ν σ.1 L Lc) (ht : rvs ν σ.1 st stc) (hq : QOk P J outs σ.1 ν mu la ro Q) (e : ∀ (v : Value) r, v.category = 1 → Rr X d M pc Lc (v :: r) (Wd mu la ro et) = Rr X d M nxp Lc (v :: v :: r) (Wd mu la ro et)) : Fin X d M pc Lc stc mu la ro et Q := by
  unfold s_dup at h
  split at h
  · obtain ⟨v, rc, rfl, e1, e2⟩ := rvs_c ht
    split at h
    · rename_i q
      exact kk_s hk h hs hi hL (rvs_k e1 (rvs_k e1 e2)) hq (e v rc (cat1_ok q e1))
    · cases h
  · cases h
theorem x_pop (hk : KK P J X d M et σ.1 ν mu la ro Q kk) (h : s_pop kk nxp L st σ = some outs) (hs : sOk ν σ mu) (hi : Inv P J mu la ro) (hL : rvs ν σ.1 L Lc) (ht : rvs ν σ.1 st stc) (hq : QOk P J outs σ.1 ν mu la ro Q) (e : ∀ (v : Value) r, v.category = 1 → Rr X d M pc Lc (v :: r) (Wd mu la ro et) = Rr X d M nxp Lc r (Wd mu la ro et)) : Fin X d M pc Lc stc mu la ro et Q := by
  unfold s_pop at h
  split at h
  · obtain ⟨v, rc, rfl, e1, e2⟩ := rvs_c ht
    split at h
    · rename_i q
      exact kk_s hk h hs hi hL e2 hq (e v rc (cat1_ok q e1))
    · cases h
  · cases h
theorem x_pop2 (hk : KK P J X d M et σ.1 ν mu la ro Q kk) (h : s_pop2 kk nxp L st σ = some outs) (hs : sOk ν σ mu) (hi : Inv P J mu la ro) (hL : rvs ν σ.1 L Lc) (ht : rvs ν σ.1 st stc) (hq : QOk P J outs σ.1 ν mu la ro Q) (e : ∀ (x : Int64) r, Rr X d M pc Lc (.long x :: r) (Wd mu la ro et) = Rr X d M nxp Lc r (Wd mu la ro et)) : Fin X d M pc Lc stc mu la ro et Q := by
  unfold s_pop2 at h
  split at h
  · obtain ⟨v, rc, rfl, e1, e2⟩ := rvs_c ht
    split at h
    · rename_i q
      obtain ⟨x, rfl⟩ := isL_ok q e1
      exact kk_s hk h hs hi hL e2 hq (e x rc)
    · cases h
  · cases h
theorem x_dup2 (hk : KK P J X d M et σ.1 ν mu la ro Q kk) (h : s_dup2 kk nxp L st σ = some outs) (hs : sOk ν σ mu) (hi : Inv P J mu la ro) (hL : rvs ν σ.1 L Lc) (ht : rvs ν σ.1 st stc) (hq : QOk P J outs σ.1 ν mu la ro Q) (e : ∀ (v w : Value) r, v.category = 1 → w.category = 1 → Rr X d M pc Lc (v :: w :: r) (Wd mu la ro et) = Rr X d M nxp Lc (v :: w :: v :: w :: r) (Wd mu la ro et)) : Fin X d M pc Lc stc mu la ro et Q := by
  unfold s_dup2 at h
  split at h
  · obtain ⟨v, rc, rfl, e1, e2⟩ := rvs_c ht
    obtain ⟨w, rc, rfl, e3, e4⟩ := rvs_c e2
    split at h
    · rename_i q
      rw [Bool.and_eq_true] at q
      exact kk_s hk h hs hi hL (rvs_k e1 (rvs_k e3 (rvs_k e1 (rvs_k e3 e4)))) hq (e v w rc (cat1_ok q.1 e1) (cat1_ok q.2 e3))
    · cases h
  · cases h
theorem tgt_ok {t : Nat} {off : Int} (h : tgt pc off = some t) : (pc : Int) + off = (t : Int) := by
  unfold tgt at h
  split at h
  · rename_i q
    cases h
    exact q
  · cases h
theorem x_go {off : Int} (hk : KK P J X d M et σ.1 ν mu la ro Q kk) (h : s_go kk pc off L st σ = some outs) (hs : sOk ν σ mu) (hi : Inv P J mu la ro) (hL : rvs ν σ.1 L Lc) (ht : rvs ν σ.1 st stc) (hq : QOk P J outs σ.1 ν mu la ro Q) {stc0 : List Value} (e : ∀ t : Nat, (pc : Int) + off = (t : Int) → Rr X d M pc Lc stc0 (Wd mu la ro et) = Rr X d M t Lc stc (Wd mu la ro et)) : Fin X d M pc Lc stc0 mu la ro et Q := by
  unfold s_go at h
  split at h
  · rename_i t et
    exact kk_s hk h hs hi hL ht hq (e t (tgt_ok et))
  · cases h
theorem cI_eq {x y : Int32} {a b : Int} (hx : x.toInt = a) (hy : y.toInt = b) (cc : ClassFile.Cond) : bB cc x y = true ↔ cH cc a b := by
  subst hx; subst hy
  cases cc
  · unfold bB cH; simp only [decide_eq_true_eq]; exact ⟨fun h => by rw [h], fun h => Int32.toInt_inj.mp h⟩
  · unfold bB cH; simp only [decide_eq_true_eq]; exact ⟨fun h q => h (Int32.toInt_inj.mp q), fun h q => h (by rw [q])⟩
  · unfold bB cH; simp only [decide_eq_true_eq]; exact Int32.lt_iff_toInt_lt
  · unfold bB cH; simp only [decide_eq_true_eq]; exact Int32.le_iff_toInt_le
  · unfold bB cH; simp only [decide_eq_true_eq]; exact Int32.lt_iff_toInt_lt
  · unfold bB cH; simp only [decide_eq_true_eq]; exact Int32.le_iff_toInt_le
theorem cH_ng {cc : ClassFile.Cond} {a b : Int} (h : ¬ cH cc a b) : cH (ngC cc) a b := (cH_or cc a b).resolve_left h
theorem x_if2 {cc : ClassFile.Cond} {off : Int} (hk : KK P J X d M et σ.1 ν mu la ro Q kk) (h : s_if2 cc off kk pc L st σ = some outs) (hs : sOk ν σ mu) (hi : Inv P J mu la ro) (hL : rvs ν σ.1 L Lc) (ht : rvs ν σ.1 st stc) (hq : QOk P J outs σ.1 ν mu la ro Q) (e : ∀ (x y : Int32) r (t : Nat), (pc : Int) + off = (t : Int) → Rr X d M pc Lc (.int y :: .int x :: r) (Wd mu la ro et) = if bB cc x y = true then Rr X d M t Lc r (Wd mu la ro et) else Rr X d M (pc + 3) Lc r (Wd mu la ro et)) : Fin X d M pc Lc stc mu la ro et Q := by
  unfold s_if2 at h
  split at h
  · obtain ⟨v, rc, rfl, e1, e2⟩ := rvs_c ht
    obtain ⟨w, rc, rfl, e3, e4⟩ := rvs_c e2
    split at h
    · obtain ⟨y, rfl, g1, g2⟩ := rv_i e1
      obtain ⟨x, rfl, g3, g4⟩ := rv_i e3
      split at h
      · rename_i t et
        obtain ⟨o1, o2, h1, h2, m1, m2⟩ := or2_mem h
        by_cases c : bB cc x y = true
        · exact kk_b hk h1 hs (brC_ok cc hs.2.2.1 ((cI_eq g4 g2 cc).mp c)) hi hL e4 (QOk_m hq m1 (agr_r _ _) (Nat.le_refl _) (frm_r _ _ _ _)) ((e x y rc t (tgt_ok et)).trans (if_pos c))
        · exact kk_b hk h2 hs (brC_ok (ngC cc) hs.2.2.1 (cH_ng fun q => c ((cI_eq g4 g2 cc).mpr q))) hi hL e4 (QOk_m hq m2 (agr_r _ _) (Nat.le_refl _) (frm_r _ _ _ _)) ((e x y rc t (tgt_ok et)).trans (if_neg c))
      · cases h
    · cases h
  · cases h
theorem x_if1 {cc : ClassFile.Cond} {off : Int} (hk : KK P J X d M et σ.1 ν mu la ro Q kk) (h : s_if1 cc off kk pc L st σ = some outs) (hs : sOk ν σ mu) (hi : Inv P J mu la ro) (hL : rvs ν σ.1 L Lc) (ht : rvs ν σ.1 st stc) (hq : QOk P J outs σ.1 ν mu la ro Q) (e : ∀ (x : Int32) r (t : Nat), (pc : Int) + off = (t : Int) → Rr X d M pc Lc (.int x :: r) (Wd mu la ro et) = if bB cc x 0 = true then Rr X d M t Lc r (Wd mu la ro et) else Rr X d M (pc + 3) Lc r (Wd mu la ro et)) : Fin X d M pc Lc stc mu la ro et Q := by
  have z : (0 : Int32).toInt = ν 0 + 0 := by rw [hs.2.1]; rfl
  unfold s_if1 at h
  split at h
  · obtain ⟨v, rc, rfl, e1, e2⟩ := rvs_c ht
    split at h
    · obtain ⟨x, rfl, g3, g4⟩ := rv_i e1
      split at h
      · rename_i t et
        obtain ⟨o1, o2, h1, h2, m1, m2⟩ := or2_mem h
        by_cases c : bB cc x 0 = true
        · exact kk_b hk h1 hs (brC_ok cc hs.2.2.1 ((cI_eq g4 z cc).mp c)) hi hL e2 (QOk_m hq m1 (agr_r _ _) (Nat.le_refl _) (frm_r _ _ _ _)) ((e x rc t (tgt_ok et)).trans (if_pos c))
        · exact kk_b hk h2 hs (brC_ok (ngC cc) hs.2.2.1 (cH_ng fun q => c ((cI_eq g4 z cc).mpr q))) hi hL e2 (QOk_m hq m2 (agr_r _ _) (Nat.le_refl _) (frm_r _ _ _ _)) ((e x rc t (tgt_ok et)).trans (if_neg c))
      · cases h
    · cases h
  · cases h
theorem lcmp_eq {x y : Int64} {a b : Int} (hx : x.toInt = a) (hy : y.toInt = b) (cc : ClassFile.Cond) : bB cc (lg_cmp x y) 0 = true ↔ cH cc a b := by
  subst hx; subst hy
  unfold lg_cmp
  split
  · rename_i q
    rw [gt_iff_lt, Int64.lt_iff_toInt_lt] at q
    cases cc <;> simp [bB, cH] <;> omega
  · rename_i q
    rw [gt_iff_lt, Int64.lt_iff_toInt_lt] at q
    split
    · rename_i p
      subst p
      cases cc <;> simp [bB, cH]
    · rename_i p
      have : ¬ x.toInt = y.toInt := fun w => p (Int64.toInt_inj.mp w)
      cases cc <;> simp [bB, cH] <;> omega
theorem x_lcmp {nxi : Option (Instr × Nat)} (hk : KK P J X d M et σ.1 ν mu la ro Q kk) (h : s_lcmp nxi kk pc L st σ = some outs) (hs : sOk ν σ mu) (hi : Inv P J mu la ro) (hL : rvs ν σ.1 L Lc) (ht : rvs ν σ.1 st stc) (hq : QOk P J outs σ.1 ν mu la ro Q) (e1' : ∀ (x y : Int64) r, Rr X d M pc Lc (.long y :: .long x :: r) (Wd mu la ro et) = Rr X d M (pc + 1) Lc (.int (lg_cmp x y) :: r) (Wd mu la ro et)) (e : ∀ cc off (x : Int32) r (t : Nat), nxi = some (.ifCond cc off, 3) → ((pc + 1 : Nat) : Int) + off = (t : Int) → Rr X d M (pc + 1) Lc (.int x :: r) (Wd mu la ro et) = if bB cc x 0 = true then Rr X d M t Lc r (Wd mu la ro et) else Rr X d M (pc + 1 + 3) Lc r (Wd mu la ro et)) : Fin X d M pc Lc stc mu la ro et Q := by
  unfold s_lcmp at h
  split at h
  · obtain ⟨v, rc, rfl, e1, e2⟩ := rvs_c ht
    obtain ⟨w, rc, rfl, e3, e4⟩ := rvs_c e2
    split at h
    · obtain ⟨y, rfl, g1, g2⟩ := rv_l e1
      obtain ⟨x, rfl, g3, g4⟩ := rv_l e3
      split at h
      · rename_i cc off
        split at h
        · rename_i t et
          obtain ⟨o1, o2, h1, h2, m1, m2⟩ := or2_mem h
          by_cases c : bB cc (lg_cmp x y) 0 = true
          · exact kk_b hk h1 hs (brL_ok cc hs.2.2.1 ((lcmp_eq g4 g2 cc).mp c)) hi hL e4 (QOk_m hq m1 (agr_r _ _) (Nat.le_refl _) (frm_r _ _ _ _)) ((e1' x y rc).trans ((e cc off _ rc t rfl (tgt_ok et)).trans (if_pos c)))
          · exact kk_b hk h2 hs (brL_ok (ngC cc) hs.2.2.1 (cH_ng fun q => c ((lcmp_eq g4 g2 cc).mpr q))) hi hL e4 (QOk_m hq m2 (agr_r _ _) (Nat.le_refl _) (frm_r _ _ _ _)) ((e1' x y rc).trans ((e cc off _ rc t rfl (tgt_ok et)).trans (if_neg c)))
        · cases h
      · cases h
    · cases h
  · cases h
end X
