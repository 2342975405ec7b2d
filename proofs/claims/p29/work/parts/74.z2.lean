-- ===== by hand: what is kept between the calls
noncomputable def JFm (mu : Mu) : Prop := ∃ F : Nat, F ≤ 40 ∧ mu 81 47 = nI F ∧ (∀ i, i < F → 0 ≤ (mu 102 i).toInt ∧ (mu 102 i).toInt ≤ 400) ∧ (∀ i, i + 1 < F → (mu 102 i).toInt < (mu 102 (i + 1)).toInt)
noncomputable def JCh (mu : Mu) : Prop := ∃ D U : Nat, D + U ≤ 40 ∧ mu 81 12 = nI D ∧ mu 81 13 = nI U ∧ ∀ i, i < D + U → (mu 88 i = 0 ∧ ∃ j, j < 28 ∧ mu 89 i = nI j) ∨ (¬ mu 88 i = 0 ∧ ∃ j, j < 84 ∧ mu 89 i = nI j)
/-- the depth of the pile behind a step; behind n steps -/
noncomputable def dp1 (a w : Int32) (n : Nat) : Option Nat :=
  if a = 1 then (if n < 130 then some (n + 1) else none)
  else if a = 2 then (if n < 130 ∧ ¬ (w < 0 ∨ 6 ≤ w.toNatClampNeg) then some (n + 1) else none)
  else if a = 3 ∨ a = 4 then (if 1 ≤ n then some n else none)
  else (if 2 ≤ n then some (n - 1) else none)
noncomputable def dpt (mu : Mu) : Nat → Nat → Nat → Option Nat
  | 0, _, n => some n
  | k + 1, q, n => (dp1 (mu 92 q) (mu 93 q) n).bind (dpt mu k (q + 1))
/-- a line of a floor: where it begins, its test's end, its end -/
noncomputable def lnOk (mu : Mu) (p a b c : Nat) : Prop := a ≤ b ∧ b ≤ c ∧ c ≤ 130 ∧ (dpt mu (b - a) (130 * p + a) 0).isSome = true ∧ (dpt mu (c - b) (130 * p + b) 0).isSome = true
/-- n lines from line l on, the first begins at a -/
noncomputable def lnsOk (mu : Mu) (p : Nat) : Nat → Nat → Nat → Prop
  | 0, _, _ => True
  | n + 1, l, a => ∃ b c, mu 95 (61 * p + l) = nI b ∧ mu 96 (61 * p + l) = nI c ∧ lnOk mu p a b c ∧ lnsOk mu p n (l + 1) c
noncomputable def JFl (mu : Mu) : Prop := ∀ p, p < 4 → ∃ n, n ≤ 61 ∧ mu 94 p = nI n ∧ lnsOk mu p n 0 0
noncomputable def JB : Jt := fun mu _ _ => JFm mu ∧ JCh mu ∧ JFl mu
section
variable {w D : WS} {mu mu' : Mu} {la la' : La} {ro ro' : Ro}
theorem JFm_f (h : wDis w [(81, 48), (102, 0)] = true) (f : frm w mu la ro mu' la' ro') (j : JFm mu) : JFm mu' := by
  obtain ⟨F, h1, h2, h3, h4⟩ := j
  have e : ∀ i, mu' 102 i = mu 102 i := fun i => dis_r h f (by decide) (by decide)
  refine ⟨F, h1, (dis_f h f (by decide) (by decide)).trans h2, fun i hi => ?_, fun i hi => ?_⟩
  · rw [e]; exact h3 i hi
  · rw [e, e]; exact h4 i hi
theorem JCh_f (h : wDis w [(81, 13), (81, 14), (88, 0), (89, 0)] = true) (f : frm w mu la ro mu' la' ro') (j : JCh mu) : JCh mu' := by
  obtain ⟨D, U, h1, h2, h3, h4⟩ := j
  have e : ∀ i, mu' 88 i = mu 88 i := fun i => dis_r h f (by decide) (by decide)
  have e2 : ∀ i, mu' 89 i = mu 89 i := fun i => dis_r h f (by decide) (by decide)
  refine ⟨D, U, h1, (dis_f h f (by decide) (by decide)).trans h2, (dis_f h f (by decide) (by decide)).trans h3, fun i hi => ?_⟩
  rw [e, e2]
  exact h4 i hi
theorem dpt_e (h1 : ∀ i, mu' 92 i = mu 92 i) (h2 : ∀ i, mu' 93 i = mu 93 i) : ∀ k q n, dpt mu' k q n = dpt mu k q n
  | 0, _, _ => rfl
  | k + 1, q, n => by
    rw [dpt, dpt, h1, h2]
    congr 1
    exact funext fun n => dpt_e h1 h2 k (q + 1) n
theorem lnsOk_e (h1 : ∀ i, mu' 92 i = mu 92 i) (h2 : ∀ i, mu' 93 i = mu 93 i) (h3 : ∀ i, mu' 95 i = mu 95 i) (h4 : ∀ i, mu' 96 i = mu 96 i) {p : Nat} : ∀ n l a, lnsOk mu p n l a → lnsOk mu' p n l a
  | 0, _, _, _ => trivial
  | n + 1, l, a, ⟨b, c, g1, g2, ⟨g3, g4, g5, g6, g7⟩, g8⟩ => ⟨b, c, by rw [h3]; exact g1, by rw [h4]; exact g2, ⟨g3, g4, g5, by rw [dpt_e h1 h2]; exact g6, by rw [dpt_e h1 h2]; exact g7⟩, lnsOk_e h1 h2 h3 h4 n (l + 1) c g8⟩
theorem JFl_f (h : wDis w [(92, 0), (93, 0), (94, 0), (95, 0), (96, 0)] = true) (f : frm w mu la ro mu' la' ro') (j : JFl mu) : JFl mu' := by
  intro p hp
  obtain ⟨n, h1, h2, h3⟩ := j p hp
  exact ⟨n, h1, (dis_r h f (by decide) (by decide)).trans h2, lnsOk_e (fun i => dis_r h f (by decide) (by decide)) (fun i => dis_r h f (by decide) (by decide)) (fun i => dis_r h f (by decide) (by decide)) (fun i => dis_r h f (by decide) (by decide)) n 0 0 h3⟩
theorem wDis_s {D' : WS} (hs : wSub D' D = true) (h : wDis w D = true) : wDis w D' = true := by
  refine List.all_eq_true.mpr fun q hq => ?_
  have := List.all_eq_true.mp h q hq
  rw [Bool.and_eq_true, Bool.not_eq_true'] at this ⊢
  exact ⟨wSub_f hs this.1, this.2⟩
end
theorem JS_B : JS DJ JB := fun _ h _ _ _ _ _ _ f j => ⟨JFm_f (wDis_s (by decide) h) f j.1, JCh_f (wDis_s (by decide) h) f j.2.1, JFl_f (wDis_s (by decide) h) f j.2.2⟩
