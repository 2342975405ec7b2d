-- ===== one instruction: what the checker does, and why it is right
abbrev pHd (P : Pg) := P.1
abbrev pSp (P : Pg) := P.2.1
abbrev pCt (P : Pg) : List Ctr := P.2.2.1
abbrev pIv (P : Pg) : IVs := P.2.2.2.1
abbrev pW (P : Pg) : WS := P.2.2.2.2.1
abbrev pFl (P : Pg) : Option (Option Nat) := P.2.2.2.2.2
abbrev Kt : Type := Nat → List AV → List AV → St → Ax
abbrev Jt : Type := Mu → La → Ro → Prop
abbrev Qt : Type := Option Value → Mu → La → Ro → Prop
abbrev Inv (P : Pg) (J : Jt) (mu : Mu) (la : La) (ro : Ro) : Prop := gOk (pIv P) mu ∧ rOk ro ∧ (∀ q, pFl P = some q → ro 6 5 = q) ∧ J mu la ro
noncomputable def Fin (X : Tok) (d : Nat) (M : MI) (pc : Nat) (Lc stc : List Value) (mu : Mu) (la : La) (ro : Ro) (et : Nat → Option va_E) (Q : Qt) : Prop :=
  ∃ r mu' la' ro', Rr X d M pc Lc stc (Wd mu la ro et) = some (r, Wd mu' la' ro' et) ∧ Q r mu' la' ro'
theorem Fin_of {X : Tok} {d : Nat} {M : MI} {pc pc' : Nat} {Lc stc Lc' stc' : List Value} {mu mu' : Mu} {la la' : La} {ro ro' : Ro} {et : Nat → Option va_E} {Q : Qt} (e : Rr X d M pc Lc stc (Wd mu la ro et) = Rr X d M pc' Lc' stc' (Wd mu' la' ro' et)) (h : Fin X d M pc' Lc' stc' mu' la' ro' et Q) : Fin X d M pc Lc stc mu la ro et Q := by
  unfold Fin
  rw [e]
  exact h
theorem Fin_Q {X : Tok} {d : Nat} {M : MI} {pc : Nat} {Lc stc : List Value} {mu : Mu} {la : La} {ro : Ro} {et : Nat → Option va_E} {Q Q' : Qt} (h : Fin X d M pc Lc stc mu la ro et Q) (hq : ∀ r mu' la' ro', Q r mu' la' ro' → Q' r mu' la' ro') : Fin X d M pc Lc stc mu la ro et Q' := by
  obtain ⟨r, mu', la', ro', h1, h2⟩ := h
  exact ⟨r, mu', la', ro', h1, hq _ _ _ _ h2⟩
noncomputable def retOk (ν : Nat → Int) (n : Nat) : Option AV → Option Value → Prop
  | none, none => True
  | some a, some v => rv ν n a v
  | _, _ => False
abbrev QOk (P : Pg) (J : Jt) (outs : List Oc) (n : Nat) (ν : Nat → Int) (mu : Mu) (la : La) (ro : Ro) (Q : Qt) : Prop :=
  ∀ o, o ∈ outs → ∀ ν' r mu' la' ro', agr n ν ν' → n ≤ o.2.1 → sOk ν' o.2 mu' → Inv P J mu' la' ro' → retOk ν' o.2.1 o.1 r → frm (pW P) mu la ro mu' la' ro' → Q r mu' la' ro'
theorem QOk_m {P : Pg} {J : Jt} {outs outs' : List Oc} {n n' : Nat} {ν ν' : Nat → Int} {mu mu' : Mu} {la la' : La} {ro ro' : Ro} {Q : Qt} (h : QOk P J outs n ν mu la ro Q) (hs : ∀ o, o ∈ outs' → o ∈ outs) (g : agr n ν ν') (hl : n ≤ n') (f : frm (pW P) mu la ro mu' la' ro') : QOk P J outs' n' ν' mu' la' ro' Q :=
  fun o ho ν2 r mu2 la2 ro2 g2 hl2 h1 h2 h3 f2 => h o (hs o ho) ν2 r mu2 la2 ro2 (agr_t g g2 hl) (Nat.le_trans hl hl2) h1 h2 h3 (frm_t f f2)
/-- going on is right -/
abbrev KK (P : Pg) (J : Jt) (X : Tok) (d : Nat) (M : MI) (et : Nat → Option va_E) (n : Nat) (ν : Nat → Int) (mu : Mu) (la : La) (ro : Ro) (Q : Qt) (kk : Kt) : Prop :=
  ∀ pc L st σ outs, kk pc L st σ = some outs → ∀ ν' Lc stc mu' la' ro', n ≤ σ.1 → agr n ν ν' → frm (pW P) mu la ro mu' la' ro' → sOk ν' σ mu' → Inv P J mu' la' ro' → rvs ν' σ.1 L Lc → rvs ν' σ.1 st stc → QOk P J outs σ.1 ν' mu' la' ro' Q → Fin X d M pc Lc stc mu' la' ro' et Q
theorem allO_mem {α : Type} {f : α → Ax} : ∀ {l : List α} {outs : List Oc}, allO f l = some outs → ∀ a, a ∈ l → ∃ o', f a = some o' ∧ ∀ o, o ∈ o' → o ∈ outs
  | [], _, _, _, hm => absurd hm List.not_mem_nil
  | b :: l, outs, h, a, hm => by
    unfold allO at h
    split at h
    · cases h
    · rename_i o1 e1
      split at h
      · cases h
      · rename_i o2 e2
        cases h
        rcases List.mem_cons.mp hm with q | q
        · subst q
          exact ⟨o1, e1, fun o ho => List.mem_append_left _ ho⟩
        · obtain ⟨o', g1, g2⟩ := allO_mem e2 a q
          exact ⟨o', g1, fun o ho => List.mem_append_right _ (g2 o ho)⟩
theorem or2_mem {a b : Ax} {outs : List Oc} (h : or2 a b = some outs) : ∃ o1 o2, a = some o1 ∧ b = some o2 ∧ (∀ o, o ∈ o1 → o ∈ outs) ∧ (∀ o, o ∈ o2 → o ∈ outs) := by
  unfold or2 at h
  split at h
  · cases h
    exact ⟨_, _, rfl, rfl, fun o ho => List.mem_append_left _ ho, fun o ho => List.mem_append_right _ ho⟩
  · cases h
noncomputable def psh1 (kk : Kt) (nx : Nat) (L st : List AV) (l : List (St × AV)) : Ax := allO (fun p => kk nx L (p.2 :: st) p.1) l
noncomputable def gos (kk : Kt) (nx : Nat) (L st : List AV) (l : List St) : Ax := allO (fun τ => kk nx L st τ) l
section K
variable {P : Pg} {J : Jt} {X : Tok} {d : Nat} {M : MI} {et : Nat → Option va_E} {ν : Nat → Int} {σ : St} {mu : Mu} {la : La} {ro : Ro} {Q : Qt} {kk : Kt} {pc pc' : Nat} {L L' st st' : List AV} {Lc Lc' stc stc' : List Value} {outs : List Oc} {v : Value}
theorem kk_s (hk : KK P J X d M et σ.1 ν mu la ro Q kk) (h : kk pc' L' st' σ = some outs) (hs : sOk ν σ mu) (hi : Inv P J mu la ro) (hL : rvs ν σ.1 L' Lc') (ht : rvs ν σ.1 st' stc') (hq : QOk P J outs σ.1 ν mu la ro Q) (e : Rr X d M pc Lc stc (Wd mu la ro et) = Rr X d M pc' Lc' stc' (Wd mu la ro et)) : Fin X d M pc Lc stc mu la ro et Q :=
  Fin_of e (hk _ _ _ _ _ h ν Lc' stc' mu la ro (Nat.le_refl _) (agr_r _ _) (frm_r _ _ _ _) hs hi hL ht hq)
theorem kk_v {l : List (St × AV)} (hk : KK P J X d M et σ.1 ν mu la ro Q kk) (h : psh1 kk pc' L st' l = some outs) (hg : gotL ν σ mu l v) (hi : Inv P J mu la ro) (hL : rvs ν σ.1 L Lc) (ht : rvs ν σ.1 st' stc') (hq : QOk P J outs σ.1 ν mu la ro Q) (e : Rr X d M pc Lc stc (Wd mu la ro et) = Rr X d M pc' Lc (v :: stc') (Wd mu la ro et)) : Fin X d M pc Lc stc mu la ro et Q := by
  obtain ⟨p, hp, ν', g1, g2, g3, g4⟩ := hg
  obtain ⟨o', h1, h2⟩ := allO_mem h p hp
  exact Fin_of e (hk _ _ _ _ _ h1 ν' Lc (v :: stc') mu la ro g2 g1 (frm_r _ _ _ _) g3 hi (rvs_m g1 g2 hL) ⟨g4, rvs_m g1 g2 ht⟩ (QOk_m hq h2 g1 g2 (frm_r _ _ _ _)))
theorem kk_b {l : List St} (hk : KK P J X d M et σ.1 ν mu la ro Q kk) (h : gos kk pc' L' st' l = some outs) (hs : sOk ν σ mu) (hg : nOkL ν σ l) (hi : Inv P J mu la ro) (hL : rvs ν σ.1 L' Lc') (ht : rvs ν σ.1 st' stc') (hq : QOk P J outs σ.1 ν mu la ro Q) (e : Rr X d M pc Lc stc (Wd mu la ro et) = Rr X d M pc' Lc' stc' (Wd mu la ro et)) : Fin X d M pc Lc stc mu la ro et Q := by
  obtain ⟨τ, hτ, e1, e2⟩ := hg
  obtain ⟨o', h1, h2⟩ := allO_mem h τ hτ
  refine Fin_of e (hk _ _ _ _ _ h1 ν Lc' stc' mu la ro (Nat.le_of_eq e1.1.symm) (agr_r _ _) (frm_r _ _ _ _) (sOk_e hs e1 e2) hi ?_ ?_ ?_)
  · rw [e1.1]; exact hL
  · rw [e1.1]; exact ht
  · rw [e1.1]; exact QOk_m hq h2 (agr_r _ _) (Nat.le_refl _) (frm_r _ _ _ _)
end K
-- the parts
noncomputable def isI (v : AV) : Bool := match v with
  | (.inl (_, _)) => true
  | _ => false
noncomputable def isL (v : AV) : Bool := match v with
  | (.inr (.inl (_, _))) => true
  | _ => false
noncomputable def isA (v : AV) : Bool := match v with
  | (.inr (.inr (.inl (_)))) => true
  | (.inr (.inr (.inr (.inl (_))))) => true
  | (.inr (.inr (.inr (.inr true)))) => true
  | _ => false
noncomputable def s_ld (f : AV → Bool) (kk : Kt) (nx : Nat) (L st : List AV) (σ : St) (k : Nat) : Ax := match L[k]? with
  | some v => if f v = true then kk nx L (v :: st) σ else none
  | none => none
noncomputable def s_st (f : AV → Bool) (kk : Kt) (nx : Nat) (L st : List AV) (σ : St) (k : Nat) : Ax := match st with
  | v :: r => if (f v && Nat.blt k L.length) = true then kk nx (putA L k v) r σ else none
  | _ => none
noncomputable def s_ls (kk : Kt) (nx : Nat) (L st : List AV) (σ : St) (k : Nat) : Ax := match st with
  | v :: r => if (isL v && Nat.blt (k + 1) L.length) = true then kk nx (setA (putA L k v) (k + 1) (.inr (.inr (.inr (.inr false))))) r σ else none
  | _ => none
noncomputable def s_inc (kk : Kt) (nx : Nat) (L st : List AV) (σ : St) (k : Nat) (c : Int) : Ax := match L[k]? with
  | some v => match v with
    | (.inl (s, o)) => if inI c c = true then allO (fun p => kk nx (putA L k p.2) st p.1) (opAdd σ s o 0 c) else none
    | _ => none
  | none => none
noncomputable def s_ii (f : St → Nat → Int → Nat → Int → List (St × AV)) (kk : Kt) (nx : Nat) (L st : List AV) (σ : St) : Ax := match st with
  | y :: x :: r => match y, x with
    | (.inl (s', o')), (.inl (s, o)) => psh1 kk nx L r (f σ s o s' o')
    | _, _ => none
  | _ => none
noncomputable def s_i0 (b : Bool) (kk : Kt) (nx : Nat) (L st : List AV) (σ : St) : Ax := match st with
  | y :: x :: r => match y, x with
    | (.inl (s', o')), (.inl (s, o)) => match opD b σ s o s' o' with
      | some l => psh1 kk nx L r l
      | none => none
    | _, _ => none
  | _ => none
noncomputable def s_i (f : St → Nat → Int → List (St × AV)) (kk : Kt) (nx : Nat) (L st : List AV) (σ : St) : Ax := match st with
  | x :: r => match x with
    | (.inl (s, o)) => psh1 kk nx L r (f σ s o)
    | _ => none
  | _ => none
noncomputable def s_lL (f : St → Nat → Int → Nat → Int → List (St × AV)) (kk : Kt) (nx : Nat) (L st : List AV) (σ : St) : Ax := match st with
  | y :: x :: r => match y, x with
    | (.inr (.inl (s', o'))), (.inr (.inl (s, o))) => psh1 kk nx L r (f σ s o s' o')
    | _, _ => none
  | _ => none
noncomputable def s_ldv (kk : Kt) (nx : Nat) (L st : List AV) (σ : St) : Ax := match st with
  | y :: x :: r => match y, x with
    | (.inr (.inl (s', o'))), (.inr (.inl (_, _))) => match itv σ.2.1 s' o' with
      | some (l', h') => if (ile 1 l' || ile h' (-1)) = true then psh1 kk nx L r [tL σ] else none
      | none => none
    | _, _ => none
  | _ => none
noncomputable def s_lsh (kk : Kt) (nx : Nat) (L st : List AV) (σ : St) : Ax := match st with
  | y :: x :: r => match y, x with
    | (.inl (_, _)), (.inr (.inl (_, _))) => psh1 kk nx L r [tL σ]
    | _, _ => none
  | _ => none
noncomputable def s_i2l (kk : Kt) (nx : Nat) (L st : List AV) (σ : St) : Ax := match st with
  | x :: r => match x with
    | (.inl (s, o)) => kk nx L ((.inr (.inl (s, o))) :: r) σ
    | _ => none
  | _ => none
noncomputable def s_l2i (kk : Kt) (nx : Nat) (L st : List AV) (σ : St) : Ax := match st with
  | x :: r => match x with
    | (.inr (.inl (s, o))) => psh1 kk nx L r (opL2I σ s o)
    | _ => none
  | _ => none
noncomputable def s_dup (kk : Kt) (nx : Nat) (L st : List AV) (σ : St) : Ax := match st with
  | v :: r => if (isI v || isA v) = true then kk nx L (v :: v :: r) σ else none
  | _ => none
noncomputable def s_pop (kk : Kt) (nx : Nat) (L st : List AV) (σ : St) : Ax := match st with
  | v :: r => if (isI v || isA v) = true then kk nx L r σ else none
  | _ => none
noncomputable def s_pop2 (kk : Kt) (nx : Nat) (L st : List AV) (σ : St) : Ax := match st with
  | v :: r => if isL v = true then kk nx L r σ else none
  | _ => none
noncomputable def s_dup2 (kk : Kt) (nx : Nat) (L st : List AV) (σ : St) : Ax := match st with
  | v :: u :: r => if ((isI v || isA v) && (isI u || isA u)) = true then kk nx L (v :: u :: v :: u :: r) σ else none
  | _ => none
noncomputable def s_go (kk : Kt) (pc : Nat) (off : Int) (L st : List AV) (σ : St) : Ax := match tgt pc off with
  | some t => kk t L st σ
  | none => none
noncomputable def s_if2 (cc : ClassFile.Cond) (off : Int) (kk : Kt) (pc : Nat) (L st : List AV) (σ : St) : Ax := match st with
  | y :: x :: r => match y, x with
    | (.inl (s', o')), (.inl (s, o)) => match tgt pc off with
      | some t => or2 (gos kk t L r (brC cc σ s o s' o')) (gos kk (pc + 3) L r (brC (ngC cc) σ s o s' o'))
      | none => none
    | _, _ => none
  | _ => none
noncomputable def s_if1 (cc : ClassFile.Cond) (off : Int) (kk : Kt) (pc : Nat) (L st : List AV) (σ : St) : Ax := match st with
  | x :: r => match x with
    | (.inl (s, o)) => match tgt pc off with
      | some t => or2 (gos kk t L r (brC cc σ s o 0 0)) (gos kk (pc + 3) L r (brC (ngC cc) σ s o 0 0))
      | none => none
    | _ => none
  | _ => none
noncomputable def s_lcmp (nxi : Option (Instr × Nat)) (kk : Kt) (pc : Nat) (L st : List AV) (σ : St) : Ax := match st with
  | y :: x :: r => match y, x with
    | (.inr (.inl (s', o'))), (.inr (.inl (s, o))) => match nxi with
      | some (.ifCond cc off, 3) => match tgt (pc + 1) off with
        | some t => or2 (gos kk t L r (brL cc σ s o s' o')) (gos kk (pc + 4) L r (brL (ngC cc) σ s o s' o'))
        | none => none
      | _ => none
    | _, _ => none
  | _ => none
noncomputable def s_nul (b : Bool) (off : Int) (kk : Kt) (pc : Nat) (L st : List AV) (σ : St) : Ax := match st with
  | x :: r => match x with
    | (.inr (.inr (.inl (_)))) => if b = true then kk (pc + 3) L r σ else s_go kk pc off L r σ
    | (.inr (.inr (.inr (.inr true)))) => if b = true then s_go kk pc off L r σ else kk (pc + 3) L r σ
    | _ => none
  | _ => none
noncomputable def s_tab (dflt lo hi : Int) (offs : List Int) (kk : Kt) (pc : Nat) (L st : List AV) (σ : St) : Ax := match st with
  | x :: r => match x with
    | (.inl (s, o)) => if (ile (lo + Int.ofNat offs.length - 1) hi && ile hi (lo + Int.ofNat offs.length - 1)) = true then or2 (allO (fun q => match tgt pc q.1 with
        | some t => gos kk t L r (oL (rEq σ s o 0 (lo + Int.ofNat q.2)))
        | none => none) offs.zipIdx) (match tgt pc dflt with
        | some t => gos kk t L r (oL (rLt σ s o 0 lo) ++ oL (rLt σ 0 hi s o))
        | none => none) else none
    | _ => none
  | _ => none
noncomputable def s_lkp (dflt : Int) (ps : List (Int × Int)) (kk : Kt) (pc : Nat) (L st : List AV) (σ : St) : Ax := match st with
  | x :: r => match x with
    | (.inl (s, o)) => if (ps.zip (ps.drop 1)).all (fun (a, next) => a.1 < next.1) = true then or2 (allO (fun q => match tgt pc q.2 with
        | some t => gos kk t L r (oL (rEq σ s o 0 q.1))
        | none => none) ps) (match tgt pc dflt with
        | some t => kk t L r σ
        | none => none) else none
    | _ => none
  | _ => none
noncomputable def s_ic (kk : Kt) (nx : Nat) (L st : List AV) (σ : St) (c lo hi : Int) : Ax := if (ile lo c && ile c hi) = true then kk nx L ((.inl (0, c)) :: st) σ else none
noncomputable def s_ir (rt : Option FieldType) (st : List AV) (σ : St) : Ax := match st with
  | [x] => match x with
    | (.inl (s, o)) => match rt with
      | some .int => some [(some x, σ)]
      | some .boolean => match itv σ.2.1 s o with
        | some (l, h) => if (ile 0 l && ile h 1) = true then some [(some x, σ)] else none
        | none => none
      | _ => none
    | _ => none
  | _ => none
noncomputable def s_lr (rt : Option FieldType) (st : List AV) (σ : St) : Ax := match st with
  | [x] => if isL x = true then (match rt with
    | some .long => some [(some x, σ)]
    | _ => none) else none
  | _ => none
noncomputable def s_ar (rt : Option FieldType) (st : List AV) (σ : St) : Ax := match st with
  | [x] => match rt with
    | some (.object _) => match x with
      | (.inr (.inr (.inl (_)))) => some [(some x, σ)]
      | (.inr (.inr (.inr (.inr true)))) => some [(some x, σ)]
      | _ => none
    | _ => none
  | _ => none
noncomputable def s_vr (rt : Option FieldType) (st : List AV) (σ : St) : Ax := match st with
  | [] => match rt with
    | none => some [(none, σ)]
    | _ => none
  | _ => none
noncomputable def s_gf (P : Pg) (q : Option (Nat × Nat × Nat × Nat)) (kk : Kt) (nx : Nat) (L st : List AV) (σ : St) : Ax := match st with
  | x :: r => match x with
    | (.inr (.inr (.inl (a)))) => match q with
      | some (ci, k, _, _) => if qI a ci k = true then psh1 kk nx L r [ldM (pIv P) σ a k (k + 1)] else match qR a ci k with
        | some b => kk nx L ((.inr (.inr (.inl (b)))) :: r) σ
        | none => if (qM a ci k && (Nat.beq a 6 && Nat.beq k 5)) = true then (match pFl P with
          | some z => kk nx L (avO z :: r) σ
          | none => none) else none
      | none => none
    | _ => none
  | _ => none
noncomputable def s_pf (P : Pg) (q : Option (Nat × Nat × Nat × Nat)) (kk : Kt) (nx : Nat) (L st : List AV) (σ : St) : Ax := match st with
  | v :: x :: r => match x with
    | (.inr (.inr (.inl (a)))) => match q with
      | some (ci, k, ty, fin) => match v with
        | (.inl (s, o)) => if ((qI a ci k && (Nat.beq ty 0 && Nat.beq fin 0)) && (wIn (pW P) a (k + 1) && (inV (pIv P) σ a 0 s o && inV (pIv P) σ a (k + 1) s o))) = true then kk nx L r (stM σ a k s o) else none
        | v => if (((qM a ci k && (Nat.beq a 6 && Nat.beq k 5)) && (Nat.beq ty 1 && Nat.beq fin 0)) && (wIn (pW P) 6 6 && (isFl v && (pFl P).isNone))) = true then kk nx L r σ else none
      | none => none
    | _ => none
  | _ => none
/-- a place of a row: its interval, if it is within -/
noncomputable def idx (σ : St) (j : AV) (n : Nat) : Option (Nat × Nat) := match j with
  | (.inl (s, o)) => match itv σ.2.1 s o with
    | some (.ofNat l, .ofNat h) => if Nat.blt h n = true then some (l, h) else none
    | _ => none
  | _ => none
noncomputable def s_ia (P : Pg) (t : Nat) (kk : Kt) (nx : Nat) (L st : List AV) (σ : St) : Ax := match st with
  | j :: x :: r => match x with
    | (.inr (.inr (.inl (a)))) => match qA a t with
      | some n => match idx σ j n with
        | some (l, h) => if Nat.ble h l = true then psh1 kk nx L r [ldM (pIv P) σ a l 0] else psh1 kk nx L r [ldU (pIv P) σ a]
        | none => none
      | none => none
    | (.inr (.inr (.inr (.inl (q))))) => if Nat.beq t 0 = true then (match idx σ j (tokL q) with
        | some _ => psh1 kk nx L r [mkI σ (tokI q).1 (tokI q).2]
        | none => none) else none
    | _ => none
  | _ => none
noncomputable def s_la (kk : Kt) (nx : Nat) (L st : List AV) (σ : St) : Ax := match st with
  | j :: x :: r => match x with
    | (.inr (.inr (.inl (a)))) => match qJ a with
      | some n => match idx σ j n with
        | some _ => psh1 kk nx L r [tL σ]
        | none => none
      | none => none
    | _ => none
  | _ => none
noncomputable def isRow (a n : Nat) : Bool := ((Nat.beq a 3 && Nat.beq n 6) || (Nat.beq a 4 && Nat.beq n 4)) || (Nat.beq a 5 && Nat.beq n 6)
noncomputable def s_aa (kk : Kt) (nx : Nat) (L st : List AV) (σ : St) : Ax := match st with
  | j :: x :: r => match x with
    | (.inr (.inr (.inl (a)))) => match qQ a with
      | some n => if isRow a n = true then (match idx σ j n with
        | some (l, h) => match j with
          | (.inl (s, o)) => allO (fun k => gos kk nx L ((.inr (.inr (.inl (rowA a k)))) :: r) (oL (rEq σ s o 0 (Int.ofNat k)))) (rangeN l (h - l + 1))
          | _ => none
        | none => none) else none
      | none => none
    | _ => none
  | _ => none
noncomputable def saOk (P : Pg) (σ : St) (a t s : Nat) (o : Int) : Bool := if Nat.beq t 0 = true then inV (pIv P) σ a 0 s o else ivF (pIv P) a
noncomputable def s_sa (P : Pg) (t : Nat) (kk : Kt) (nx : Nat) (L st : List AV) (σ : St) : Ax := match st with
  | v :: j :: x :: r => match x with
    | (.inr (.inr (.inl (a)))) => match v with
      | (.inl (s, o)) => match qA a t with
        | some n => match idx σ j n with
          | some (l, h) => if ((wIn (pW P) a 0 && ivR (pIv P) a) && saOk P σ a t s o) = true then (if (Nat.ble h l && Nat.beq t 0) = true then kk nx L r (stM σ a l s o) else kk nx L r (stU σ a)) else none
          | none => none
        | none => none
      | _ => none
    | _ => none
  | _ => none
noncomputable def s_sl (P : Pg) (kk : Kt) (nx : Nat) (L st : List AV) (σ : St) : Ax := match st with
  | v :: j :: x :: r => match x with
    | (.inr (.inr (.inl (a)))) => if isL v = true then (match qJ a with
      | some n => match idx σ j n with
        | some _ => if wIn (pW P) a 0 = true then kk nx L r σ else none
        | none => none
      | none => none) else none
    | _ => none
  | _ => none
noncomputable def s_len (kk : Kt) (nx : Nat) (L st : List AV) (σ : St) : Ax := match st with
  | x :: r => match x with
    | (.inr (.inr (.inl (a)))) => match qL a with
      | some n => if Nat.ble n 2000 = true then kk nx L ((.inl (0, Int.ofNat n)) :: r) σ else none
      | none => none
    | (.inr (.inr (.inr (.inl (q))))) => kk nx L ((.inl (0, Int.ofNat (tokL q))) :: r) σ
    | _ => none
  | _ => none
