-- ===== the static rows, the script: as tokens
def XS (L : Nat) (xs : Nat → Int32) : Tok := fun t => if t = 0 then some (L, xs) else if t = 1 then some (8, fun j => abL.getD j 0) else if t = 2 then some (32, fun j => owL.getD j 0) else none
theorem XS_ex {L : Nat} {xs : Nat → Int32} : tEx (XS L xs) := ⟨rfl, rfl⟩
theorem ab_ok : ∀ i, i < 8 → (-1 : Int) ≤ (abL.getD i 0).toInt ∧ (abL.getD i 0).toInt ≤ 6 := by decide
theorem ow_ok : ∀ i, i < 32 → (0 : Int) ≤ (owL.getD i 0).toInt ∧ (owL.getD i 0).toInt ≤ 81 := by decide
theorem XS_ok {L : Nat} {xs : Nat → Int32} : tOk (XS L xs) := by
  intro k hk
  rcases hk with rfl | rfl
  · exact ⟨fun j => abL.getD j 0, rfl, fun i hi => ab_ok i hi⟩
  · exact ⟨fun j => owL.getD j 0, rfl, fun i hi => ow_ok i hi⟩
theorem R_ialS {d : Nat} {M : MI} {pc n : Nat} {L r : List Value} {h : Hp} {f : Nat → Int32} {j : Int32} (hd : decode M.2.2.1 pc = .ok (.iaload, 1)) : Rr (XS n f) d M pc L (.int j :: .float 0 :: r) h = if j < 0 ∨ n ≤ j.toNatClampNeg then none else Rr (XS n f) d M (pc + 1) L (.int (f j.toNatClampNeg) :: r) h := by
  by_cases c : j < 0 ∨ n ≤ j.toNatClampNeg
  · rw [if_pos c]
    refine Rr_no hd ?_
    show g1 1 1 (o_ial (XS n f) 0 _ _ _ _) = none
    show (if 1 = 1 then (if (0 = 0 ∧ ¬ (j < 0 ∨ n ≤ j.toNatClampNeg)) then _ else none) else none) = none
    rw [if_pos rfl, if_neg (fun q => q.2 c)]
  · rw [if_neg c]
    refine Rr_nx hd ?_
    show g1 1 1 (o_ial (XS n f) 0 _ _ _ _) = _
    show (if 1 = 1 then (if (0 = 0 ∧ ¬ (j < 0 ∨ n ≤ j.toNatClampNeg)) then _ else none) else none) = _
    rw [if_pos rfl, if_pos ⟨rfl, c⟩]
    rfl
theorem R_lenS {d : Nat} {M : MI} {pc n : Nat} {L r : List Value} {h : Hp} {f : Nat → Int32} (hd : decode M.2.2.1 pc = .ok (.arraylength, 1)) : Rr (XS n f) d M pc L (.float 0 :: r) h = Rr (XS n f) d M (pc + 1) L (.int (Int32.ofNat n) :: r) h := Rr_nx hd rfl
theorem la_w1 : lw_tbl[944]? = some (.laysStatic "TurnsOneWay$Bodies" "ABOVE" "[I") := by decide +kernel
theorem la_w2 : lw_tbl[949]? = some (.laysStatic "TurnsOneWay$Bodies" "OWN" "[I") := by decide +kernel
theorem la_w3 : lw_tbl[97]? = some (.initialized "TurnsOneWay$Bodies") := by decide +kernel
/-- what the start says of the static rows -/
theorem st_1 {args : Array Value} {s : State} (hgv : (Jvm.Cond.and given_1 narrow_1).before args s = true) : (Cond.arrayOf (.static "TurnsOneWay$Bodies" "ABOVE" "[I") .int).before args s = true ∧ (Term.length (.static "TurnsOneWay$Bodies" "ABOVE" "[I")).eval args s none [] s = some (.int 8) ∧ ∀ j, j < 8 → (Term.elem (.static "TurnsOneWay$Bodies" "ABOVE" "[I") (.int (Int32.ofNat j))).eval args s none [] s = some (.int (abL.getD j 0)) := by
  have hs := flat_of_before _ hgv
  refine ⟨hs _ (by decide +kernel), va_eqt (hs _ (by decide +kernel)), fun j hj => ?_⟩
  match j, hj with
  | 0, _ => exact va_eqt (t := .elem (.static "TurnsOneWay$Bodies" "ABOVE" "[I") (.int 0)) (z := (-1)) (hs _ (by decide +kernel))
  | 1, _ => exact va_eqt (t := .elem (.static "TurnsOneWay$Bodies" "ABOVE" "[I") (.int 1)) (z := 0) (hs _ (by decide +kernel))
  | 2, _ => exact va_eqt (t := .elem (.static "TurnsOneWay$Bodies" "ABOVE" "[I") (.int 2)) (z := 0) (hs _ (by decide +kernel))
  | 3, _ => exact va_eqt (t := .elem (.static "TurnsOneWay$Bodies" "ABOVE" "[I") (.int 3)) (z := 2) (hs _ (by decide +kernel))
  | 4, _ => exact va_eqt (t := .elem (.static "TurnsOneWay$Bodies" "ABOVE" "[I") (.int 4)) (z := 2) (hs _ (by decide +kernel))
  | 5, _ => exact va_eqt (t := .elem (.static "TurnsOneWay$Bodies" "ABOVE" "[I") (.int 5)) (z := 1) (hs _ (by decide +kernel))
  | 6, _ => exact va_eqt (t := .elem (.static "TurnsOneWay$Bodies" "ABOVE" "[I") (.int 6)) (z := 0) (hs _ (by decide +kernel))
  | 7, _ => exact va_eqt (t := .elem (.static "TurnsOneWay$Bodies" "ABOVE" "[I") (.int 7)) (z := 6) (hs _ (by decide +kernel))
  | k + 8, h => exact absurd h (by omega)
theorem st_2 {args : Array Value} {s : State} (hgv : (Jvm.Cond.and given_1 narrow_1).before args s = true) : (Cond.arrayOf (.static "TurnsOneWay$Bodies" "OWN" "[I") .int).before args s = true ∧ (Term.length (.static "TurnsOneWay$Bodies" "OWN" "[I")).eval args s none [] s = some (.int 32) ∧ ∀ j, j < 32 → (Term.elem (.static "TurnsOneWay$Bodies" "OWN" "[I") (.int (Int32.ofNat j))).eval args s none [] s = some (.int (owL.getD j 0)) := by
  have hs := flat_of_before _ hgv
  refine ⟨hs _ (by decide +kernel), va_eqt (hs _ (by decide +kernel)), fun j hj => ?_⟩
  match j, hj with
  | 0, _ => exact va_eqt (t := .elem (.static "TurnsOneWay$Bodies" "OWN" "[I") (.int 0)) (z := 1) (hs _ (by decide +kernel))
  | 1, _ => exact va_eqt (t := .elem (.static "TurnsOneWay$Bodies" "OWN" "[I") (.int 1)) (z := 10) (hs _ (by decide +kernel))
  | 2, _ => exact va_eqt (t := .elem (.static "TurnsOneWay$Bodies" "OWN" "[I") (.int 2)) (z := 11) (hs _ (by decide +kernel))
  | 3, _ => exact va_eqt (t := .elem (.static "TurnsOneWay$Bodies" "OWN" "[I") (.int 3)) (z := 2) (hs _ (by decide +kernel))
  | 4, _ => exact va_eqt (t := .elem (.static "TurnsOneWay$Bodies" "OWN" "[I") (.int 4)) (z := 20) (hs _ (by decide +kernel))
  | 5, _ => exact va_eqt (t := .elem (.static "TurnsOneWay$Bodies" "OWN" "[I") (.int 5)) (z := 0) (hs _ (by decide +kernel))
  | 6, _ => exact va_eqt (t := .elem (.static "TurnsOneWay$Bodies" "OWN" "[I") (.int 6)) (z := 0) (hs _ (by decide +kernel))
  | 7, _ => exact va_eqt (t := .elem (.static "TurnsOneWay$Bodies" "OWN" "[I") (.int 7)) (z := 0) (hs _ (by decide +kernel))
  | 8, _ => exact va_eqt (t := .elem (.static "TurnsOneWay$Bodies" "OWN" "[I") (.int 8)) (z := 0) (hs _ (by decide +kernel))
  | 9, _ => exact va_eqt (t := .elem (.static "TurnsOneWay$Bodies" "OWN" "[I") (.int 9)) (z := 30) (hs _ (by decide +kernel))
  | 10, _ => exact va_eqt (t := .elem (.static "TurnsOneWay$Bodies" "OWN" "[I") (.int 10)) (z := 0) (hs _ (by decide +kernel))
  | 11, _ => exact va_eqt (t := .elem (.static "TurnsOneWay$Bodies" "OWN" "[I") (.int 11)) (z := 0) (hs _ (by decide +kernel))
  | 12, _ => exact va_eqt (t := .elem (.static "TurnsOneWay$Bodies" "OWN" "[I") (.int 12)) (z := 0) (hs _ (by decide +kernel))
  | 13, _ => exact va_eqt (t := .elem (.static "TurnsOneWay$Bodies" "OWN" "[I") (.int 13)) (z := 41) (hs _ (by decide +kernel))
  | 14, _ => exact va_eqt (t := .elem (.static "TurnsOneWay$Bodies" "OWN" "[I") (.int 14)) (z := 40) (hs _ (by decide +kernel))
  | 15, _ => exact va_eqt (t := .elem (.static "TurnsOneWay$Bodies" "OWN" "[I") (.int 15)) (z := 0) (hs _ (by decide +kernel))
  | 16, _ => exact va_eqt (t := .elem (.static "TurnsOneWay$Bodies" "OWN" "[I") (.int 16)) (z := 0) (hs _ (by decide +kernel))
  | 17, _ => exact va_eqt (t := .elem (.static "TurnsOneWay$Bodies" "OWN" "[I") (.int 17)) (z := 0) (hs _ (by decide +kernel))
  | 18, _ => exact va_eqt (t := .elem (.static "TurnsOneWay$Bodies" "OWN" "[I") (.int 18)) (z := 0) (hs _ (by decide +kernel))
  | 19, _ => exact va_eqt (t := .elem (.static "TurnsOneWay$Bodies" "OWN" "[I") (.int 19)) (z := 50) (hs _ (by decide +kernel))
  | 20, _ => exact va_eqt (t := .elem (.static "TurnsOneWay$Bodies" "OWN" "[I") (.int 20)) (z := 60) (hs _ (by decide +kernel))
  | 21, _ => exact va_eqt (t := .elem (.static "TurnsOneWay$Bodies" "OWN" "[I") (.int 21)) (z := 0) (hs _ (by decide +kernel))
  | 22, _ => exact va_eqt (t := .elem (.static "TurnsOneWay$Bodies" "OWN" "[I") (.int 22)) (z := 61) (hs _ (by decide +kernel))
  | 23, _ => exact va_eqt (t := .elem (.static "TurnsOneWay$Bodies" "OWN" "[I") (.int 23)) (z := 0) (hs _ (by decide +kernel))
  | 24, _ => exact va_eqt (t := .elem (.static "TurnsOneWay$Bodies" "OWN" "[I") (.int 24)) (z := 0) (hs _ (by decide +kernel))
  | 25, _ => exact va_eqt (t := .elem (.static "TurnsOneWay$Bodies" "OWN" "[I") (.int 25)) (z := 0) (hs _ (by decide +kernel))
  | 26, _ => exact va_eqt (t := .elem (.static "TurnsOneWay$Bodies" "OWN" "[I") (.int 26)) (z := 70) (hs _ (by decide +kernel))
  | 27, _ => exact va_eqt (t := .elem (.static "TurnsOneWay$Bodies" "OWN" "[I") (.int 27)) (z := 0) (hs _ (by decide +kernel))
  | 28, _ => exact va_eqt (t := .elem (.static "TurnsOneWay$Bodies" "OWN" "[I") (.int 28)) (z := 0) (hs _ (by decide +kernel))
  | 29, _ => exact va_eqt (t := .elem (.static "TurnsOneWay$Bodies" "OWN" "[I") (.int 29)) (z := 80) (hs _ (by decide +kernel))
  | 30, _ => exact va_eqt (t := .elem (.static "TurnsOneWay$Bodies" "OWN" "[I") (.int 30)) (z := 0) (hs _ (by decide +kernel))
  | 31, _ => exact va_eqt (t := .elem (.static "TurnsOneWay$Bodies" "OWN" "[I") (.int 31)) (z := 81) (hs _ (by decide +kernel))
  | k + 32, h => exact absurd h (by omega)
theorem XT_of {L b : Nat} {xs : Nat → Int32} {args : Array Value} {s : State} (hts : ∀ w ∈ lw_tbl, w.before args s = true) (hgv : (Jvm.Cond.and given_1 narrow_1).before args s = true) (hX : va_X b L xs s s.heap) (hbl : b < s.heap.size) : ∃ sb : UInt32 → Addr, sb 0 = b ∧ XT (XS L xs) sb s.heap s := by
  obtain ⟨a1, a2, a3⟩ := st_1 hgv
  obtain ⟨b1, b2, b3⟩ := st_2 hgv
  obtain ⟨t1, e1, T1⟩ := va_Tof (A := fun a : Nat => s.heap.size ≤ a) (N := 8) (f := fun j => .int (abL.getD j 0)) (by decide) a1 a2 a3 (fun a h q => by omega)
  obtain ⟨t2, e2, T2⟩ := va_Tof (A := fun a : Nat => s.heap.size ≤ a) (N := 32) (f := fun j => .int (owL.getD j 0)) (by decide) b1 b2 b3 (fun a h q => by omega)
  have hi := hts _ (List.mem_of_getElem? la_w3)
  have Z1 := va_Zof (A := fun a : Nat => s.heap.size ≤ a) (hts _ (List.mem_of_getElem? la_w1)) hi e1 (fun a h q => by omega)
  have Z2 := va_Zof (A := fun a : Nat => s.heap.size ≤ a) (hts _ (List.mem_of_getElem? la_w2)) hi e2 (fun a h q => by omega)
  refine ⟨fun t => if t = 1 then t1 else if t = 2 then t2 else b, rfl, fun t q ht => ?_, fun t ht => ?_⟩
  · unfold XS at ht
    by_cases h0 : t = 0
    · subst h0
      cases ht
      obtain ⟨cell, c1, c2, c3, c4, c5⟩ := hX
      exact ⟨cell, c1, c2, c3, Nat.le_of_eq c4.symm, (congrArg Nat.toInt32 c4 : _), c5, by show ¬ s.heap.size ≤ b; omega⟩
    · rw [if_neg h0] at ht
      by_cases h1 : t = 1
      · subst h1
        cases ht
        exact T1
      · rw [if_neg h1] at ht
        by_cases h2 : t = 2
        · subst h2
          cases ht
          exact T2
        · rw [if_neg h2] at ht
          cases ht
  · rcases ht with rfl | rfl
    · exact Z1
    · exact Z2
