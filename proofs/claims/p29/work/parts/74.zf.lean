-- ===== by hand: the reader as functions; what they keep
noncomputable def noF (s : PS) : Bool := match s.2.1 with
  | none => true
  | some _ => false
noncomputable def isMu (b : Int32) : Bool := decide (b = 42 ∨ b = 47 ∨ b = 37)
noncomputable def isSu (b : Int32) : Bool := decide (b = 43 ∨ b = 45)
noncomputable def isCp (b : Int32) : Bool := decide (b = 60 ∨ b = 61 ∨ b = 62)
noncomputable def isBo (b : Int32) : Bool := decide (b = 38)
noncomputable def isEi (b : Int32) : Bool := decide (b = 124)
noncomputable def loopJ (mu : Mu) (sg : Int32 → Bool) (sub : PS → PS) : Nat → PS → PS
  | 0, s => s
  | n + 1, s => if (noF s && sg (bt mu s.1)) = true then loopJ mu sg sub n (adS (sub (hS s)) (bt mu s.1) 0) else s
noncomputable def jn (mu : Mu) (sg : Int32 → Bool) (n : Nat) (sub : PS → PS) (s : PS) : PS := loopJ mu sg sub n (sub s)
noncomputable def lv1 (mu : Mu) (OP : PS → PS) : PS → PS := jn mu isMu 121 OP
noncomputable def lv2 (mu : Mu) (OP : PS → PS) : PS → PS := jn mu isSu 121 (lv1 mu OP)
noncomputable def lv3 (mu : Mu) (OP : PS → PS) : PS → PS := jn mu isCp 1 (lv2 mu OP)
noncomputable def lv4 (mu : Mu) (OP : PS → PS) : PS → PS := jn mu isBo 121 (lv3 mu OP)
noncomputable def lv5 (mu : Mu) (OP : PS → PS) : PS → PS := jn mu isEi 121 (lv4 mu OP)
/-- behind a bracket's inside -/
noncomputable def clS (mu : Mu) (r : PS) : PS := if noF r = true then (if bt mu r.1 = 41 then oS (hS r) (r.2.2.1 - 1) else wrS r) else r
noncomputable def opd (mu : Mu) (E OP : PS → PS) (s : PS) : PS :=
  if 0 ≤ nmF (bt mu s.1) then hS (adS s 2 (nmF (bt mu s.1)))
  else if bt mu s.1 = 33 then (if s.2.2.1 = 6 then wrS s else adS (oS (OP (hS (oS s (s.2.2.1 + 1)))) ((OP (hS (oS s (s.2.2.1 + 1)))).2.2.1 - 1)) 3 0)
  else if bt mu s.1 = 45 then (if s.2.2.1 = 6 then wrS s else adS (oS (OP (hS (oS s (s.2.2.1 + 1)))) ((OP (hS (oS s (s.2.2.1 + 1)))).2.2.1 - 1)) 4 0)
  else if bt mu s.1 = 40 then (if s.2.2.1 = 6 then wrS s else clS mu (E (hS (oS s (s.2.2.1 + 1)))))
  else fgS mu s
noncomputable def opN (mu : Mu) : Nat → PS → PS
  | 0 => fun s => s
  | k + 1 => opd mu (lv5 mu (opN mu k)) (opN mu k)
noncomputable def dpL : List (Int32 × Int32) → Nat → Option Nat
  | [], n => some n
  | p :: l, n => (dp1 p.1 p.2 n).bind (dpL l)
theorem dpL_a : ∀ (l m : List (Int32 × Int32)) (n : Nat), dpL (l ++ m) n = (dpL l n).bind (dpL m)
  | [], _, _ => rfl
  | p :: l, m, n => by
    rw [List.cons_append, dpL, dpL]
    cases dp1 p.1 p.2 n with
    | none => rfl
    | some k => exact dpL_a l m k
abbrev Pre (mu : Mu) (k : Nat) (s : PS) : Prop := noF s = true ∧ s.1 ≤ Tt mu ∧ s.2.2.1 ≤ 6 ∧ s.2.2.2.length ≤ s.1 ∧ 7 ≤ k + s.2.2.1
abbrev Rl (mu : Mu) (s r : PS) : Prop := (s.1 ≤ r.1 ∧ r.1 ≤ Tt mu) ∧ (s.2.2.1 ≤ r.2.2.1 ∧ r.2.2.1 ≤ 6) ∧ (∀ j, r.2.1 = some j → j ≤ Tt mu) ∧ ∃ code, r.2.2.2 = s.2.2.2 ++ code ∧ code.length + s.1 ≤ r.1 + (if noF r = true then 0 else 1) ∧ (noF r = true → r.2.2.1 = s.2.2.1 ∧ s.1 < r.1 ∧ ∀ n, n + code.length ≤ 130 → dpL code n = some (n + 1))
abbrev Gd (mu : Mu) (k : Nat) (sub : PS → PS) : Prop := ∀ s, Pre mu k s → Rl mu s (sub s)
/-- signs that join -/
abbrev sgOk (sg : Int32 → Bool) : Prop := ∀ b, sg b = true → ¬ b = -1 ∧ b.toInt8.toInt32 = b ∧ ¬ b = 1 ∧ ¬ b = 2 ∧ ¬ (b = 3 ∨ b = 4)
theorem sg_Mu : sgOk isMu := fun b h => by rcases of_decide_eq_true h with rfl | rfl | rfl <;> decide
theorem sg_Su : sgOk isSu := fun b h => by rcases of_decide_eq_true h with rfl | rfl <;> decide
theorem sg_Cp : sgOk isCp := fun b h => by rcases of_decide_eq_true h with rfl | rfl | rfl <;> decide
theorem sg_Bo : sgOk isBo := fun b h => by cases of_decide_eq_true h; decide
theorem sg_Ei : sgOk isEi := fun b h => by cases of_decide_eq_true h; decide
section
variable {mu : Mu} {k : Nat} {sub : PS → PS} {sg : Int32 → Bool} {s r : PS}
theorem noF_n (h : noF s = true) : s.2.1 = none := by
  unfold noF at h
  split at h
  · assumption
  · cases h
theorem noF_s {j : Nat} (h : s.2.1 = some j) : noF s = false := by
  unfold noF
  rw [h]
/-- one turn of a loop keeps what is told of it -/
theorem Rl_step (hs : sgOk sg) (hG : Gd mu k sub) (h0 : Pre mu k s) (hr : Rl mu s r) (h1 : noF r = true) (h2 : sg (bt mu r.1) = true) : Pre mu k (hS r) ∧ (sub (hS r)).2.2.2.length ≤ Tt mu ∧ Rl mu s (adS (sub (hS r)) (bt mu r.1) 0) := by
  obtain ⟨q1, q2, q3, q4, q5⟩ := h0
  obtain ⟨⟨r1, r2⟩, ⟨r3, r4⟩, r5, code, r6, r7, r8⟩ := hr
  obtain ⟨r9, r10, r11⟩ := r8 h1
  obtain ⟨b0, b1, b2, b3, b4⟩ := hs _ h2
  have hlt := bt_lt b0
  rw [if_pos h1] at r7
  have hp : Pre mu k (hS r) := by
    refine ⟨h1, by show r.1 + 1 ≤ _; omega, r4, ?_, by show 7 ≤ k + r.2.2.1; omega⟩
    show r.2.2.2.length ≤ r.1 + 1
    rw [r6, List.length_append]
    omega
  obtain ⟨⟨s1, s2⟩, ⟨s3, s4⟩, s5, code2, s6, s7, s8⟩ := hG _ hp
  have e1 : (hS r).1 = r.1 + 1 := rfl
  have e2 : (hS r).2.2.2 = r.2.2.2 := rfl
  have e3 : (hS r).2.2.1 = r.2.2.1 := rfl
  rw [e1] at s1 s7
  rw [e2] at s6
  rw [e3] at s3
  rw [e1, e3] at s8
  have hle : (if noF (sub (hS r)) = true then 0 else 1) ≤ 1 := by split <;> omega
  refine ⟨hp, ?_, ⟨by show s.1 ≤ (sub (hS r)).1; omega, s2⟩, ⟨by show s.2.2.1 ≤ (sub (hS r)).2.2.1; omega, s4⟩, s5, code ++ code2 ++ [(bt mu r.1, 0)], ?_, ?_, fun hn => ?_⟩
  · rw [s6, r6, List.length_append, List.length_append]
    omega
  · show (sub (hS r)).2.2.2 ++ [(bt mu r.1, 0)] = _
    rw [s6, r6, List.append_assoc, List.append_assoc, List.append_assoc]
  · show (code ++ code2 ++ [(bt mu r.1, 0)]).length + s.1 ≤ (sub (hS r)).1 + (if noF (sub (hS r)) = true then 0 else 1)
    rw [List.length_append, List.length_append, List.length_singleton]
    omega
  · obtain ⟨t1, t2, t3⟩ := s8 hn
    refine ⟨by show (sub (hS r)).2.2.1 = _; omega, by show s.1 < (sub (hS r)).1; omega, fun n hl => ?_⟩
    rw [List.length_append, List.length_append, List.length_singleton] at hl
    rw [dpL_a, dpL_a, r11 n (by omega), Option.bind_some, t3 (n + 1) (by omega), Option.bind_some]
    show (dp1 (bt mu r.1) 0 (n + 1 + 1)).bind (dpL []) = _
    unfold dp1
    rw [if_neg b2, if_neg b3, if_neg b4, if_pos (by omega)]
    rfl
theorem Rl_loop (hs : sgOk sg) (hG : Gd mu k sub) (h0 : Pre mu k s) : ∀ (n : Nat) (r : PS), Rl mu s r → Rl mu s (loopJ mu sg sub n r)
  | 0, _, hr => hr
  | n + 1, r, hr => by
    rw [loopJ]
    split
    · rename_i c
      rw [Bool.and_eq_true] at c
      exact Rl_loop hs hG h0 n _ (Rl_step hs hG h0 hr c.1 c.2).2.2
    · exact hr
theorem Gd_jn {n : Nat} (hs : sgOk sg) (hG : Gd mu k sub) : Gd mu k (jn mu sg n sub) := fun s h0 => Rl_loop hs hG h0 n _ (hG s h0)
theorem Gd_lv5 (hG : Gd mu k sub) : Gd mu k (lv1 mu sub) ∧ Gd mu k (lv2 mu sub) ∧ Gd mu k (lv3 mu sub) ∧ Gd mu k (lv4 mu sub) ∧ Gd mu k (lv5 mu sub) := by
  have g1 : Gd mu k (lv1 mu sub) := Gd_jn sg_Mu hG
  have g2 : Gd mu k (lv2 mu sub) := Gd_jn sg_Su g1
  have g3 : Gd mu k (lv3 mu sub) := Gd_jn sg_Cp g2
  have g4 : Gd mu k (lv4 mu sub) := Gd_jn sg_Bo g3
  exact ⟨g1, g2, g3, g4, Gd_jn sg_Ei g4⟩
/-- a fault where nothing was laid -/
theorem Rl_wr (h0 : Pre mu k s) : Rl mu s (wrS s) := by
  obtain ⟨q1, q2, q3, q4, q5⟩ := h0
  have e : (wrS s).2.1 = some s.1 := by unfold wrS; rw [noF_n q1]
  refine ⟨⟨Nat.le_refl _, q2⟩, ⟨Nat.le_refl _, q3⟩, fun j hj => ?_, [], (List.append_nil _).symm, ?_, fun hn => ?_⟩
  · rw [e] at hj; cases hj; exact q2
  · show 0 + s.1 ≤ s.1 + _
    omega
  · rw [noF_s e] at hn; cases hn
theorem wr_noF : noF (wrS s) = false := by
  unfold noF wrS
  cases s.2.1 <;> rfl
theorem nm_in {b : Int32} (h : 0 ≤ nmF b) : (¬ b = -1) ∧ ¬ (nmF b < 0 ∨ 6 ≤ (nmF b).toNatClampNeg) := by
  unfold nmF at h ⊢
  by_cases c1 : b = 119
  · subst c1; decide
  by_cases c2 : b = 118
  · subst c2; decide
  by_cases c3 : b = 115
  · subst c3; decide
  by_cases c4 : b = 112
  · subst c4; decide
  by_cases c5 : b = 113
  · subst c5; decide
  by_cases c6 : b = 105
  · subst c6; decide
  rw [if_neg c1, if_neg c2, if_neg c3, if_neg c4, if_neg c5, if_neg c6] at h
  exact absurd h (by decide)
theorem Rl_fg (h0 : Pre mu k s) (hT : tOK mu) : Rl mu s (fgS mu s) := by
  obtain ⟨q1, q2, q3, q4, q5⟩ := h0
  obtain ⟨a1, a2, a3⟩ := fgL_n (mu := mu) 4 s.1 0 0
  have a4 := a2 q2
  have hT' := Tt_le hT
  unfold fgS
  generalize fgL mu 4 s.1 0 0 = q at *
  obtain ⟨h', v, n⟩ := q
  simp only at a1 a2 a3 a4 ⊢
  have n0 : s.2.1 = none := noF_n q1
  have en : ∀ p : PS, p = ((h', s.2) : PS) → Rl mu s (adS p 1 v) ∨ n = 0 := by
    rintro p rfl
    by_cases c : n = 0
    · exact .inr c
    · refine .inl ⟨⟨by show s.1 ≤ h'; omega, a4⟩, ⟨Nat.le_refl _, q3⟩, fun j hj => ?_, [(1, v)], rfl, ?_, fun _ => ⟨rfl, by show s.1 < h'; omega, fun m hm => ?_⟩⟩
      · have : s.2.1 = some j := hj
        rw [n0] at this; cases this
      · show 1 + s.1 ≤ h' + _
        omega
      · rw [List.length_singleton] at hm
        show (dp1 1 v m).bind (dpL []) = _
        unfold dp1
        rw [if_pos rfl, if_pos (by omega)]
        rfl
  have ew : Rl mu s (adS (wrS ((h', s.2) : PS)) 1 v) := by
    have e : (adS (wrS ((h', s.2) : PS)) 1 v).2.1 = some h' := by
      show (wrS ((h', s.2) : PS)).2.1 = _
      unfold wrS
      show (match s.2.1 with | none => some h' | some k => some k) = _
      rw [n0]
    refine ⟨⟨by show s.1 ≤ h'; omega, a4⟩, ⟨Nat.le_refl _, q3⟩, fun j hj => ?_, [(1, v)], rfl, ?_, fun hn => ?_⟩
    · rw [e] at hj; cases hj; exact a4
    · rw [noF_s e]
      show 1 + s.1 ≤ h' + 1
      omega
    · rw [noF_s e] at hn; cases hn
  unfold fgW
  by_cases c : n = 0
  · rw [if_pos c]; exact ew
  · rw [if_neg c]
    split
    · exact ew
    · rcases en _ rfl with g | g
      · exact g
      · exact absurd g c
end
