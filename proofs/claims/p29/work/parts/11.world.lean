abbrev Shp : Type := Nat × Nat × Nat × List (Option (Option Nat))
def shp : Nat → Shp := fun a => match a with
  | 0 => (0, 9, 0, [some (some 1), some (some 3), some (some 4), some (some 5), some (some 6), some (some 7), some (some 11), some (some 14), some (some 16), none, none])
  | 1 => (0, 8, 0, [some (some 2), none, none])
  | 2 => (1, 2, 120, [])
  | 3 => (3, 4, 6, [])
  | 4 => (3, 5, 4, [])
  | 5 => (3, 6, 6, [])
  | 6 => (0, 5, 0, [none, none, none, none, none, some none, none, none, none, none, none, none, none, none, none, none, none])
  | 7 => (0, 4, 0, [some (some 8), some (some 9), some (some 10), none, none, none, none, none, none])
  | 8 => (1, 0, 401, [])
  | 9 => (1, 0, 401, [])
  | 10 => (1, 0, 401, [])
  | 11 => (0, 2, 0, [some (some 12), some (some 13), none])
  | 12 => (1, 0, 40, [])
  | 13 => (1, 0, 40, [])
  | 14 => (0, 1, 0, [some (some 15), none, none])
  | 15 => (1, 0, 160, [])
  | 16 => (0, 0, 0, [some (some 17), some (some 18), none, none, none, none])
  | 17 => (1, 0, 50, [])
  | 18 => (1, 0, 24, [])
  | 19 => (0, 7, 0, [some (some 20), some (some 21), some (some 22), some (some 23), none, none, none, none, none, none, none])
  | 20 => (1, 0, 12, [])
  | 21 => (1, 0, 12, [])
  | 22 => (1, 0, 12, [])
  | 23 => (1, 0, 4, [])
  | 24 => (0, 7, 0, [some (some 25), some (some 26), some (some 27), some (some 28), none, none, none, none, none, none, none])
  | 25 => (1, 0, 12, [])
  | 26 => (1, 0, 12, [])
  | 27 => (1, 0, 12, [])
  | 28 => (1, 0, 4, [])
  | 29 => (0, 7, 0, [some (some 30), some (some 31), some (some 32), some (some 33), none, none, none, none, none, none, none])
  | 30 => (1, 0, 12, [])
  | 31 => (1, 0, 12, [])
  | 32 => (1, 0, 12, [])
  | 33 => (1, 0, 4, [])
  | 34 => (0, 7, 0, [some (some 35), some (some 36), some (some 37), some (some 38), none, none, none, none, none, none, none])
  | 35 => (1, 0, 12, [])
  | 36 => (1, 0, 12, [])
  | 37 => (1, 0, 12, [])
  | 38 => (1, 0, 4, [])
  | 39 => (0, 7, 0, [some (some 40), some (some 41), some (some 42), some (some 43), none, none, none, none, none, none, none])
  | 40 => (1, 0, 12, [])
  | 41 => (1, 0, 12, [])
  | 42 => (1, 0, 12, [])
  | 43 => (1, 0, 4, [])
  | 44 => (0, 7, 0, [some (some 45), some (some 46), some (some 47), some (some 48), none, none, none, none, none, none, none])
  | 45 => (1, 0, 12, [])
  | 46 => (1, 0, 12, [])
  | 47 => (1, 0, 12, [])
  | 48 => (1, 0, 4, [])
  | 49 => (0, 3, 0, [some (some 50), some (some 51), some (some 52), some (some 53), none, none, none, none, none, none, none])
  | 50 => (1, 0, 121, [])
  | 51 => (1, 0, 121, [])
  | 52 => (1, 0, 121, [])
  | 53 => (1, 0, 121, [])
  | 54 => (0, 3, 0, [some (some 55), some (some 56), some (some 57), some (some 58), none, none, none, none, none, none, none])
  | 55 => (1, 0, 121, [])
  | 56 => (1, 0, 121, [])
  | 57 => (1, 0, 121, [])
  | 58 => (1, 0, 121, [])
  | 59 => (0, 3, 0, [some (some 60), some (some 61), some (some 62), some (some 63), none, none, none, none, none, none, none])
  | 60 => (1, 0, 121, [])
  | 61 => (1, 0, 121, [])
  | 62 => (1, 0, 121, [])
  | 63 => (1, 0, 121, [])
  | 64 => (0, 3, 0, [some (some 65), some (some 66), some (some 67), some (some 68), none, none, none, none, none, none, none])
  | 65 => (1, 0, 121, [])
  | 66 => (1, 0, 121, [])
  | 67 => (1, 0, 121, [])
  | 68 => (1, 0, 121, [])
  | 69 => (0, 6, 0, [some (some 70), none, none, none])
  | 70 => (2, 1, 60, [])
  | 71 => (0, 6, 0, [some (some 72), none, none, none])
  | 72 => (2, 1, 60, [])
  | 73 => (0, 6, 0, [some (some 74), none, none, none])
  | 74 => (2, 1, 60, [])
  | 75 => (0, 6, 0, [some (some 76), none, none, none])
  | 76 => (2, 1, 60, [])
  | 77 => (0, 6, 0, [some (some 78), none, none, none])
  | 78 => (2, 1, 60, [])
  | 79 => (0, 6, 0, [some (some 80), none, none, none])
  | 80 => (2, 1, 60, [])
  | 81 => (0, 10, 0, [none, some (some 82), none, none, some (some 83), some (some 84), some (some 85), some (some 86), some (some 87), none, none, none, none, none, some (some 88), some (some 89), some (some 90), some (some 91), none, none, none, none, some (some 92), some (some 93), some (some 94), some (some 95), some (some 96), some (some 97), some (some 98), none, none, none, none, none, none, none, some (some 99), some (some 100), some (some 101), none, none, none, none, none, none, none, none, none, some (some 102), some (some 103), some (some 104), none, some (some 105), none, some (some 106), some (some 107), some (some 108), some (some 109), some (some 110)])
  | 82 => (1, 2, 120, [])
  | 83 => (1, 0, 7, [])
  | 84 => (1, 0, 84, [])
  | 85 => (1, 0, 84, [])
  | 86 => (1, 0, 84, [])
  | 87 => (1, 0, 28, [])
  | 88 => (1, 0, 40, [])
  | 89 => (1, 0, 40, [])
  | 90 => (1, 0, 40, [])
  | 91 => (1, 0, 40, [])
  | 92 => (1, 2, 650, [])
  | 93 => (1, 0, 650, [])
  | 94 => (1, 0, 5, [])
  | 95 => (1, 3, 305, [])
  | 96 => (1, 3, 305, [])
  | 97 => (1, 0, 6, [])
  | 98 => (1, 0, 130, [])
  | 99 => (1, 0, 401, [])
  | 100 => (1, 0, 401, [])
  | 101 => (1, 0, 401, [])
  | 102 => (1, 0, 40, [])
  | 103 => (1, 0, 40, [])
  | 104 => (2, 1, 41, [])
  | 105 => (1, 0, 50, [])
  | 106 => (1, 0, 24, [])
  | 107 => (1, 0, 6, [])
  | 108 => (1, 0, 6, [])
  | 109 => (2, 1, 360, [])
  | 110 => (2, 1, 60, [])
  | _ => (9, 0, 0, [])
def flds : List (Option (Option Nat)) → (Nat → Int32) → (Nat → Option Nat) → Nat → List Value
  | [], _, _, _ => []
  | some (some b) :: l, f, r, k => .ref b :: flds l f r (k + 1)
  | some none :: l, f, r, k => va_rf (r k) :: flds l f r (k + 1)
  | none :: l, f, r, k => .int (f k) :: flds l f r (k + 1)
def cellOf (s : Shp) (f : Nat → Int32) (g : Nat → Int64) (r : Nat → Option Nat) : Option va_E := match s with
  | (0, ci, _, refs) => some (.inr (ci, flds refs f r 0))
  | (1, t, n, _) => some (.inl (t, n, .inl f))
  | (2, _, n, _) => some (.inl (1, n, .inr (.inl g)))
  | (3, t, n, _) => some (.inl (t, n, .inr (.inr (.inr (.inr r)))))
  | _ => none
/-- the world: what its int cells (mu), long cells (la), rows of references (ro) hold; what lies behind (et) -/
def Wd (mu : Nat → Nat → Int32) (la : Nat → Nat → Int64) (ro : Nat → Nat → Option Nat) (et : Nat → Option va_E) : Hp := (111, fun a => if a < 111 then cellOf (shp a) (mu a) (la a) (ro a) else et a)
def fI (e : Option va_E) : Nat → Int32 := match e with
  | some (.inl (_, _, .inl f)) => f
  | some (.inr (_, fs)) => fun k => match fs[k]? with
    | some (.int x) => x
    | _ => 0
  | _ => fun _ => 0
def fJ (e : Option va_E) : Nat → Int64 := match e with
  | some (.inl (_, _, .inr (.inl g))) => g
  | _ => fun _ => 0
def fQ (e : Option va_E) : Nat → Option Nat := match e with
  | some (.inl (_, _, .inr (.inr (.inr (.inr r))))) => r
  | some (.inr (_, fs)) => fun k => match fs[k]? with
    | some (.ref x) => some x
    | _ => none
  | _ => fun _ => none
def ckFs : List (Option (Option Nat)) → List Value → Bool
  | [], [] => true
  | some (some b) :: l, .ref a :: vs => a == b && ckFs l vs
  | some none :: l, .ref _ :: vs => ckFs l vs
  | some none :: l, .null :: vs => ckFs l vs
  | none :: l, .int _ :: vs => ckFs l vs
  | _, _ => false
def ckCell (e : Option va_E) (s : Shp) : Bool := match s, e with
  | (0, ci, _, refs), some (.inr (c, fs)) => c == ci && ckFs refs fs
  | (1, t, n, _), some (.inl (t', n', .inl _)) => t' == t && n' == n
  | (2, _, n, _), some (.inl (t', n', .inr (.inl _))) => t' == 1 && n' == n
  | (3, t, n, _), some (.inl (t', n', .inr (.inr (.inr (.inr _))))) => t' == t && n' == n
  | _, _ => false
theorem ckFs_ok (f : Nat → Int32) (r : Nat → Option Nat) : ∀ (l : List (Option (Option Nat))) (vs : List Value) (k : Nat), ckFs l vs = true → (∀ (j : Nat) (x : Int32), vs[j]? = some (.int x) → f (k + j) = x) → (∀ (j : Nat) (x : Option Nat), vs[j]? = some (va_rf x) → r (k + j) = x) → vs = flds l f r k
  | [], [], _, _, _, _ => rfl
  | some (some b) :: l, .ref a :: vs, k, h, hf, hr => by
    simp only [ckFs, Bool.and_eq_true, beq_iff_eq] at h
    rw [flds, h.1]
    congr 1
    refine ckFs_ok f r l vs (k + 1) h.2 (fun j x hj => ?_) (fun j x hj => ?_)
    · have := hf (j + 1) x hj
      rwa [show k + 1 + j = k + (j + 1) by omega]
    · have := hr (j + 1) x hj
      rwa [show k + 1 + j = k + (j + 1) by omega]
  | some none :: l, .ref a :: vs, k, h, hf, hr => by
    simp only [ckFs] at h
    rw [flds]
    have h0 := hr 0 (some a) rfl
    rw [Nat.add_zero] at h0
    rw [h0]
    show Value.ref a :: vs = Value.ref a :: _
    congr 1
    refine ckFs_ok f r l vs (k + 1) h (fun j x hj => ?_) (fun j x hj => ?_)
    · have := hf (j + 1) x hj
      rwa [show k + 1 + j = k + (j + 1) by omega]
    · have := hr (j + 1) x hj
      rwa [show k + 1 + j = k + (j + 1) by omega]
  | some none :: l, .null :: vs, k, h, hf, hr => by
    simp only [ckFs] at h
    rw [flds]
    have h0 := hr 0 none rfl
    rw [Nat.add_zero] at h0
    rw [h0]
    show Value.null :: vs = Value.null :: _
    congr 1
    refine ckFs_ok f r l vs (k + 1) h (fun j x hj => ?_) (fun j x hj => ?_)
    · have := hf (j + 1) x hj
      rwa [show k + 1 + j = k + (j + 1) by omega]
    · have := hr (j + 1) x hj
      rwa [show k + 1 + j = k + (j + 1) by omega]
  | none :: l, .int y :: vs, k, h, hf, hr => by
    simp only [ckFs] at h
    rw [flds]
    have h0 := hf 0 y rfl
    rw [Nat.add_zero] at h0
    rw [h0]
    congr 1
    refine ckFs_ok f r l vs (k + 1) h (fun j x hj => ?_) (fun j x hj => ?_)
    · have := hf (j + 1) x hj
      rwa [show k + 1 + j = k + (j + 1) by omega]
    · have := hr (j + 1) x hj
      rwa [show k + 1 + j = k + (j + 1) by omega]
theorem ckCell_ok {e : Option va_E} {s : Shp} (h : ckCell e s = true) : e = cellOf s (fI e) (fJ e) (fQ e) := by
  unfold ckCell at h
  split at h
  · rename_i ci z refs c fs
    simp only [Bool.and_eq_true, beq_iff_eq] at h
    obtain ⟨rfl, h2⟩ := h
    show some (Sum.inr (c, fs)) = some (Sum.inr (c, flds refs _ _ 0))
    congr 3
    refine ckFs_ok _ _ refs fs 0 h2 (fun j x hj => ?_) (fun j x hj => ?_)
    · show (match fs[0 + j]? with | some (.int x) => x | _ => 0) = x
      rw [Nat.zero_add, hj]
    · show (match fs[0 + j]? with | some (.ref x) => some x | _ => none) = x
      rw [Nat.zero_add, hj]
      cases x <;> rfl
  · simp only [Bool.and_eq_true, beq_iff_eq] at h
    obtain ⟨rfl, rfl⟩ := h
    rfl
  · simp only [Bool.and_eq_true, beq_iff_eq] at h
    obtain ⟨rfl, rfl⟩ := h
    rfl
  · simp only [Bool.and_eq_true, beq_iff_eq] at h
    obtain ⟨rfl, rfl⟩ := h
    rfl
  · cases h
def ini (a j : Nat) : Int32 := match a with
  | 7 => if j = 3 then -1 else 0
  | 69 => if j = 1 ∨ j = 2 then -1 else 0
  | 71 => if j = 1 ∨ j = 2 then -1 else 0
  | 73 => if j = 1 ∨ j = 2 then -1 else 0
  | 75 => if j = 1 ∨ j = 2 then -1 else 0
  | 77 => if j = 1 ∨ j = 2 then -1 else 0
  | 79 => if j = 1 ∨ j = 2 then -1 else 0
  | 81 => if j = 39 then -1 else 0
  | 107 => -1
  | _ => 0
/-- how many int places a cell has -/
def lnI (a : Nat) : Nat := match shp a with
  | (0, _, _, refs) => refs.length
  | (1, _, n, _) => n
  | _ => 0
def lnJ (a : Nat) : Nat := match shp a with
  | (2, _, n, _) => n
  | _ => 0
def isRf (a j : Nat) : Bool := match shp a with
  | (0, _, _, refs) => match refs[j]? with
    | some (some _) => true
    | _ => false
  | _ => false
/-- the rows of references: where their objects lie -/
def rfs (a j : Nat) : Option Nat := match a with
  | 3 => if j < 6 then some (19 + 5 * j) else none
  | 4 => if j < 4 then some (49 + 5 * j) else none
  | 5 => if j < 6 then some (69 + 2 * j) else none
  | _ => none
def ckW0 (h : Hp) : Bool := h.1 == 111 && (List.range 111).all fun a => ckCell (h.2 a) (shp a) && ((List.range (lnI a)).all fun j => isRf a j || fI (h.2 a) j == ini a j) && ((List.range (lnJ a)).all fun j => fJ (h.2 a) j == 0) && ((List.range 6).all fun j => (rfs a j == none) || (fQ (h.2 a) j == rfs a j))
theorem ckW0_ok {h : Hp} (hc : ckW0 h = true) : ∃ mu la ro et, h = Wd mu la ro et ∧ (∀ a, a < 111 → ∀ j, j < lnI a → isRf a j = false → mu a j = ini a j) ∧ (∀ a, a < 111 → ∀ j, j < lnJ a → la a j = 0) ∧ (∀ a, a < 111 → ∀ j, j < 6 → rfs a j ≠ none → ro a j = rfs a j) := by
  simp only [ckW0, Bool.and_eq_true, beq_iff_eq, List.all_eq_true, List.mem_range, Bool.or_eq_true] at hc
  obtain ⟨h1, h2⟩ := hc
  refine ⟨fun a => fI (h.2 a), fun a => fJ (h.2 a), fun a => fQ (h.2 a), h.2, ?_, fun a ha j hj hr => ?_, fun a ha j hj => (h2 a ha).1.2 j hj, fun a ha j hj hn => ?_⟩
  · refine Prod.ext h1 (funext fun a => ?_)
    show h.2 a = if a < 111 then cellOf (shp a) (fI (h.2 a)) (fJ (h.2 a)) (fQ (h.2 a)) else h.2 a
    split
    · rename_i ha
      exact ckCell_ok (h2 a ha).1.1.1
    · rfl
  · rcases (h2 a ha).1.1.2 j hj with q | q
    · rw [hr] at q; cases q
    · exact q
  · rcases (h2 a ha).2 j hj with q | q
    · exact absurd q hn
    · exact q
def X0 : Tok := fun _ => none
def mN (h : Hp) (ci : Nat) : Hp := nE h (.inr (ci, dfl ci))
def r1 : Res := run X0 4000 299 MTo_init 0 (ent MTo_init [.ref 0]) [] (mN (0, fun _ => none) 9)
def r2 : Res := r1.bind fun q => run X0 4000 299 MRm_init 0 (ent MRm_init [.ref 81]) [] (mN q.2 10)
set_option maxRecDepth 100000 in
theorem r_tri : r1.any (fun q => (q.1 == none && q.2.1 == 81) && (run X0 4000 299 MRm_init 0 (ent MRm_init [.ref 81]) [] (mN q.2 10)).any (fun q => (q.1 == none && ckW0 q.2) && fQ (q.2.2 6) 5 == none)) = true := by decide +kernel
theorem any_l {α : Type} {p q : α → Bool} : ∀ {o : Option α}, o.any (fun x => p x && q x) = true → o.any p = true ∧ o.any q = true
  | none, h => by cases h
  | some x, h => by
    have h : (p x && q x) = true := h
    rw [Bool.and_eq_true] at h
    exact h
theorem any_b {α β : Type} {f : α → Option β} {p : β → Bool} : ∀ {o : Option α}, o.any (fun x => (f x).any p) = true → (o.bind f).any p = true
  | none, h => h
  | some _, h => h
theorem r2_bo : r2.any (fun q => (q.1 == none && ckW0 q.2) && fQ (q.2.2 6) 5 == none) = true := any_b (any_l r_tri).2
theorem r1_ok : r1.any (fun q => q.1 == none && q.2.1 == 81) = true := (any_l r_tri).1
theorem r2_ok : r2.any (fun q => q.1 == none && ckW0 q.2) = true := (any_l r2_bo).1
theorem r2_fl : r2.any (fun q => fQ (q.2.2 6) 5 == none) = true := (any_l r2_bo).2
