-- ===== taken, on both sides (what stands above what: the static row)
/-- what the static rows hold -/
abbrev tEx (X : Tok) : Prop := X 1 = some (8, fun j => abL.getD j 0) ∧ X 2 = some (32, fun j => owL.getD j 0)
theorem XS_ex {L : Nat} {xs : Nat → Int32} : tEx (XS L xs) := ⟨rfl, rfl⟩
theorem R_ialX {X : Tok} {t : UInt32} {d : Nat} {M : MI} {pc n : Nat} {L r : List Value} {h : Hp} {f : Nat → Int32} {j : Int32} (hd : decode M.2.2.1 pc = .ok (.iaload, 1)) (hx : X t = some (n, f)) : Rr X d M pc L (.int j :: .float t :: r) h = if j < 0 ∨ n ≤ j.toNatClampNeg then none else Rr X d M (pc + 1) L (.int (f j.toNatClampNeg) :: r) h := by
  by_cases c : j < 0 ∨ n ≤ j.toNatClampNeg
  · rw [if_pos c]
    refine Rr_no hd ?_
    simp only [ex, g1, if_true, o_ial, hx]
    rw [if_neg (fun q => q.2 c)]
  · rw [if_neg c]
    refine Rr_nx hd ?_
    simp only [ex, g1, if_true, o_ial, hx]
    rw [if_pos ⟨trivial, c⟩]
    rfl
theorem R_lenX {X : Tok} {t : UInt32} {d : Nat} {M : MI} {pc n : Nat} {L r : List Value} {h : Hp} {f : Nat → Int32} (hd : decode M.2.2.1 pc = .ok (.arraylength, 1)) (hx : X t = some (n, f)) : Rr X d M pc L (.float t :: r) h = Rr X d M (pc + 1) L (.int (Int32.ofNat n) :: r) h := by
  refine Rr_nx hd ?_
  simp only [ex, g1, if_true, o_len, hx]
  rfl
