-- ===== by hand: acts of bodies: the static rows, traces
def abL : List Int32 := [(-1), 0, 0, 2, 2, 1, 0, 6]
def owL : List Int32 := [1, 10, 11, 2, 20, 0, 0, 0, 0, 30, 0, 0, 0, 41, 40, 0, 0, 0, 0, 50, 60, 0, 61, 0, 0, 0, 70, 0, 0, 80, 0, 81]
/-- what the static rows hold -/
abbrev tEx (X : Tok) : Prop := X 1 = some (8, fun j => abL.getD j 0) ∧ X 2 = some (32, fun j => owL.getD j 0)
theorem R_ialX {X : Tok} {t : UInt32} {d : Nat} {M : MI} {pc n : Nat} {L r : List Value} {h : Hp} {f : Nat → Int32} {j : Int32} (hd : decode M.2.2.1 pc = .ok (.iaload, 1)) (hx : X t = some (n, f)) : Rr X d M pc L (.int j :: .float t :: r) h = if j < 0 ∨ n ≤ j.toNatClampNeg then none else Rr X d M (pc + 1) L (.int (f j.toNatClampNeg) :: r) h := by
  by_cases c : j < 0 ∨ n ≤ j.toNatClampNeg
  · rw [if_pos c]
    refine Rr_no hd ?_
    simp only [ex, g1, if_true, o_ial, hx]
    rw [if_neg (fun q => q.2 c)]
  · rw [if_neg c]
    refine Rr_nx hd ?_
    simp only [ex, g1, if_true, o_ial, hx]
    rw [if_pos ⟨trivial, c⟩]
    rfl
theorem R_lenX {X : Tok} {t : UInt32} {d : Nat} {M : MI} {pc n : Nat} {L r : List Value} {h : Hp} {f : Nat → Int32} (hd : decode M.2.2.1 pc = .ok (.arraylength, 1)) (hx : X t = some (n, f)) : Rr X d M pc L (.float t :: r) h = Rr X d M (pc + 1) L (.int (Int32.ofNat n) :: r) h := by
  refine Rr_nx hd ?_
  simp only [ex, g1, if_true, o_len, hx]
  rfl
/-- a trace: the numbers that ran; how many at field kf of cf, the numbers in cr -/
noncomputable def trG (cf kf cr : Nat) (mu : Mu) (T : List Int32) : Mu := fun c j => if c = cf ∧ j = kf then nI T.length else if c = cr ∧ j < 24 then (match T[j]? with
  | some v => v
  | none => mu cr j) else mu c j
section
variable {cf kf cr : Nat} {mu : Mu} {T : List Int32}
theorem trG_n : trG cf kf cr mu T cf kf = nI T.length := if_pos ⟨rfl, rfl⟩
theorem trG_o {c j : Nat} (h1 : ¬ (c = cf ∧ j = kf)) (h2 : ¬ c = cr) : trG cf kf cr mu T c j = mu c j := by
  unfold trG
  rw [if_neg h1, if_neg (fun q => h2 q.1)]
theorem trG_0 (hc : ¬ cf = cr) : up2 mu cf kf 0 = trG cf kf cr mu [] := by
  refine funext fun c => funext fun j => ?_
  rw [up2_e]
  unfold trG
  by_cases h : c = cf ∧ j = kf
  · rw [if_pos h, if_pos h]; rfl
  · rw [if_neg h, if_neg h]
    split
    · rename_i q
      rw [q.1]
      rfl
    · rfl
theorem trG_a {v : Int32} (hc : ¬ cf = cr) (hl : T.length < 24) : up2 (up2 (trG cf kf cr mu T) cr T.length v) cf kf (nI (T.length + 1)) = trG cf kf cr mu (T ++ [v]) := by
  refine funext fun c => funext fun j => ?_
  rw [up2_e, up2_e]
  unfold trG
  by_cases h : c = cf ∧ j = kf
  · rw [if_pos h, if_pos h, List.length_append]
    rfl
  · rw [if_neg h, if_neg h]
    by_cases h2 : c = cr
    · subst h2
      by_cases h3 : j = T.length
      · subst h3
        rw [if_pos (show c = c ∧ T.length = T.length from ⟨rfl, rfl⟩), if_pos (show c = c ∧ T.length < 24 from ⟨rfl, hl⟩)]
        simp
        intro q
        exact absurd q.symm hc
      · rw [if_neg (fun q => h3 q.2)]
        by_cases h4 : j < 24
        · rw [if_pos ⟨rfl, h4⟩, if_neg h, if_pos ⟨rfl, h4⟩]
          by_cases h5 : j < T.length
          · rw [List.getElem?_append_left h5]
          · rw [List.getElem?_eq_none (by omega), List.getElem?_eq_none (by rw [List.length_append]; simp only [List.length_cons, List.length_nil]; omega)]
        · rw [if_neg (fun q => h4 q.2), if_neg h, if_neg (fun q => h4 q.2)]
    · rw [if_neg (fun q => h2 q.1), if_neg (fun q => h2 q.1), if_neg h, if_neg (fun q => h2 q.1)]
end
