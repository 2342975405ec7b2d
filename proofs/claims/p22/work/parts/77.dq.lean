-- ===== what body, keep, row leave; shelves, elements and the film, kept alike
section
variable {X : Tok} {d : Nat} {mu mu' : Mu} {la la' : La} {ro ro' : Ro} {et : Nat → Option va_E}
theorem frm_zr {w : WS} {e i N : Nat} (hw : wIn w e 0 = true) : frm w mu la ro mu (zrJ la e i N) ro := ⟨fun _ _ _ _ => rfl, fun a h => by
  unfold zrJ
  rw [if_neg (fun q => by rw [q, hw] at h; cases h)], fun _ _ _ => rfl, fun _ => rfl⟩
abbrev wBd : WS := [(16, 3), (17, 0), (81, 52), (105, 0)]
abbrev wKp : WS := wKpC ++ [(107, 0), (108, 0)]
abbrev wRw : WS := wKpC ++ [(107, 0), (108, 0), (70, 0), (72, 0), (74, 0), (76, 0), (78, 0), (80, 0), (109, 0)]
theorem bd_fr {k : Int32} {n : Nat} : frm wBd mu la ro (bdM (bdC mu k n) k n) la ro := frm_t (frm_s (by decide) bdC_fr) (frm_s (by decide) bdM_fr)
theorem kp_fr {n : Nat} {s b : Int32} : frm wKp mu la ro (kpM (kpC mu s b n) s b n) la ro := by
  unfold kpM kpC
  by_cases c : (0 ≤ s ∧ s ≤ 5) ∧ (-1 ≤ b ∧ b ≤ nI n - 1)
  · obtain ⟨S, hS, rfl⟩ := i_06 c.1
    rw [if_pos c, if_pos c, nI_clamp (by omega)]
    exact frm_t (frm_s (by decide) (st3_fr hS)) (frm_up (k := S) (.inl (by decide)))
  · rw [if_neg c, if_neg c]
    exact frm_r _ _ _ _
theorem wl_in {S : Nat} (h : S < 6) : wIn wRw (69 + 2 * S + 1) 0 = true := by
  match S, h with
  | 0, _ => decide
  | 1, _ => decide
  | 2, _ => decide
  | 3, _ => decide
  | 4, _ => decide
  | 5, _ => decide
theorem rw_fr {mu1 mu2 : Mu} {la1 la2 : La} {s t n : Int32}
    (h1 : (rwOk s t n = true ∧ 0 ≤ n ∧ ∃ S N, S < 6 ∧ N ≤ 60 ∧ s = nI S ∧ n = nI N ∧ mu1 = rowMu mu (69 + 2 * S) t n ∧ la1 = zrJ la (69 + 2 * S + 1) 0 N) ∨ (¬ (rwOk s t n = true ∧ 0 ≤ n) ∧ mu1 = mu ∧ la1 = la))
    (h2 : (rwOk s t n = true ∧ 0 ≤ n ∧ ∃ S N, S < 6 ∧ N ≤ 60 ∧ s = nI S ∧ n = nI N ∧ mu2 = up2 (up2 mu1 107 S (-2 - t)) 108 S n ∧ la2 = zrJ la1 109 (60 * S) (60 * S + 60)) ∨ (¬ (rwOk s t n = true ∧ 0 ≤ n) ∧ mu2 = mu1 ∧ la2 = la1)) : frm wRw mu la ro mu2 la2 ro := by
  have f1 : frm wRw mu la ro mu1 la1 ro := by
    rcases h1 with ⟨a1, a2, S, N, hS, hN, rfl, rfl, rfl, rfl⟩ | ⟨a1, rfl, rfl⟩
    · exact frm_t (frm_s (w := wKpC) (by decide) (st3_fr hS)) (frm_zr (wl_in hS))
    · exact frm_r _ _ _ _
  rcases h2 with ⟨_, _, S', N', hS', hN', e1, e2, rfl, rfl⟩ | ⟨b1, rfl, rfl⟩
  · exact frm_t (frm_t f1 (frm_t (frm_up (k := S') (.inl (by decide))) (frm_up (k := S') (.inl (by decide))))) (frm_zr (by decide))
  · exact f1
def RFlm (mu : Mu) (la : La) (ro : Ro) : Prop := RElm mu la ro ∧ RFm mu
abbrev dFlm : WS := dElm ++ dFm
theorem RFlm_f {w : WS} (h : wDis w dFlm = true) (f : frm w mu la ro mu' la' ro') (q : RFlm mu la ro) : RFlm mu' la' ro' := ⟨RElm_f (wDis_s (by decide) h) f q.1, RFm_f (wDis_s (by decide) h) f q.2⟩
theorem RFm_ini (i1 : ∀ a, a < 111 → ∀ j, j < lnI a → isRf a j = false → mu a j = ini a j) : RFm mu :=
  ⟨0, fun _ => 0, fun _ => 0, by omega, fun i hi => absurd hi (by omega), ⟨i1 11 (by decide) 2 (by decide) rfl, fun i hi => absurd hi (by omega)⟩, i1 81 (by decide) 47 (by decide) rfl, fun i hi => absurd hi (by omega)⟩
end
