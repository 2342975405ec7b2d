-- ===== where the law begins
theorem ial_X0 {X : Tok} {t pc : Nat} {L st : List Value} {h : Hp} {o : Out} (ho : o_ial X0 t L st h pc = some o) : o_ial X t L st h pc = some o := by
  unfold o_ial at ho ⊢
  split at ho
  · exact ho
  · cases ho
  · cases ho
theorem len_X0 {X : Tok} {pc : Nat} {L st : List Value} {h : Hp} {o : Out} (ho : o_len X0 L st h pc = some o) : o_len X L st h pc = some o := by
  unfold o_len at ho ⊢
  split at ho
  · exact ho
  · cases ho
  · cases ho
theorem g1_mk {n : Nat} {r : Option Out} : g1 n n r = r := if_pos rfl
theorem stp_X0 {X : Tok} {d : Nat} {M : MI} {pc : Nat} {L st : List Value} {h : Hp} {o : Out} (ho : stp X0 d M pc L st h = some o) : stp X d M pc L st h = some o := by
  obtain ⟨ins, len, hd, he⟩ := stp_inv ho
  unfold stp
  rw [hd]
  show ex X d M pc ins len L st h = some o
  cases ins
  case iaload => obtain ⟨rfl, hq⟩ := g1_inj he; exact g1_mk.trans (ial_X0 hq)
  case baload => obtain ⟨rfl, hq⟩ := g1_inj he; exact g1_mk.trans (ial_X0 hq)
  case saload => obtain ⟨rfl, hq⟩ := g1_inj he; exact g1_mk.trans (ial_X0 hq)
  case arraylength => obtain ⟨rfl, hq⟩ := g1_inj he; exact g1_mk.trans (len_X0 hq)
  all_goals exact he
theorem run_X0 {X : Tok} : ∀ (f d : Nat) (M : MI) (pc : Nat) (L st : List Value) (h : Hp) (r : Option Value × Hp), run X0 f d M pc L st h = some r → run X f d M pc L st h = some r := by
  intro f
  induction f with
  | zero => intro d M pc L st h r hr; exact absurd hr (by simp [run])
  | succ f ih =>
    intro d M pc L st h r hr
    rw [run] at hr
    cases hs : stp X0 d M pc L st h with
    | none => rw [hs] at hr; exact absurd hr (by simp)
    | some o =>
      rw [hs] at hr
      rw [run, stp_X0 hs]
      rcases o with ⟨pc', L', st', h'⟩ | ⟨M', av, rest⟩ | v
      · exact ih _ _ _ _ _ _ _ hr
      · cases d with
        | zero => exact absurd hr (by simp)
        | succ d' =>
          simp only at hr ⊢
          cases hq : run X0 f d' M' 0 (ent M' av) [] h with
          | none => rw [hq] at hr; exact absurd hr (by simp)
          | some q =>
            rw [hq] at hr
            rw [ih _ _ _ _ _ _ _ hq]
            exact ih _ _ _ _ _ _ _ hr
      · exact hr
theorem ckW0_ex {h : Hp} (hc : ckW0 h = true) : h = Wd (fun a => fI (h.2 a)) (fun a => fJ (h.2 a)) (fun a => fQ (h.2 a)) h.2 ∧ (∀ a, a < 111 → ckCell (h.2 a) (shp a) = true) ∧ (∀ a, a < 111 → ∀ j, j < lnI a → isRf a j = false → fI (h.2 a) j = ini a j) ∧ (∀ a, a < 111 → ∀ j, j < lnJ a → fJ (h.2 a) j = 0) ∧ (∀ a, a < 111 → ∀ j, j < 6 → rfs a j ≠ none → fQ (h.2 a) j = rfs a j) := by
  simp only [ckW0, Bool.and_eq_true, beq_iff_eq, List.all_eq_true, List.mem_range, Bool.or_eq_true] at hc
  obtain ⟨h1, h2⟩ := hc
  refine ⟨?_, fun a ha => (h2 a ha).1.1.1, fun a ha j hj hr => ?_, fun a ha j hj => (h2 a ha).1.2 j hj, fun a ha j hj hn => ?_⟩
  · refine Prod.ext h1 (funext fun a => ?_)
    show h.2 a = if a < 111 then cellOf (shp a) (fI (h.2 a)) (fJ (h.2 a)) (fQ (h.2 a)) else h.2 a
    split
    · rename_i ha
      exact ckCell_ok (h2 a ha).1.1.1
    · rfl
  · rcases (h2 a ha).1.1.2 j hj with q | q
    · rw [hr] at q; cases q
    · exact q
  · rcases (h2 a ha).2 j hj with q | q
    · exact absurd q hn
    · exact q
theorem ivL_or (a j : Nat) : ∀ iv : IVs, ivL iv a j = (iLo, iHi) ∨ ∃ lo hi, (a, j, lo, hi) ∈ iv ∧ ivL iv a j = (lo, hi)
  | [] => .inl rfl
  | (b, k, q) :: iv => by
    rw [ivL_c]
    by_cases c : (Nat.beq b a && Nat.beq k j) = true
    · rw [if_pos c]
      rw [Bool.and_eq_true, Nat.beq_eq, Nat.beq_eq] at c
      obtain ⟨rfl, rfl⟩ := c
      exact .inr ⟨q.1, q.2, List.mem_cons_self, rfl⟩
    · rw [if_neg c]
      rcases ivL_or a j iv with h | ⟨lo, hi, h1, h2⟩
      · exact .inl h
      · exact .inr ⟨lo, hi, List.mem_cons_of_mem _ h1, h2⟩
theorem gOk_of {iv : IVs} {mu : Mu} (h0 : ∀ a lo hi, (a, 0, lo, hi) ∈ iv → ∀ k, lo ≤ (mu a k).toInt ∧ (mu a k).toInt ≤ hi) (h1 : ∀ a k lo hi, (a, k + 1, lo, hi) ∈ iv → lo ≤ (mu a k).toInt ∧ (mu a k).toInt ≤ hi) : gOk iv mu := by
  intro a k
  constructor
  · rcases ivL_or a 0 iv with h | ⟨lo, hi, h2, h3⟩
    · rw [h]; exact top_ok _
    · rw [h3]; exact h0 a lo hi h2 k
  · rcases ivL_or a (k + 1) iv with h | ⟨lo, hi, h2, h3⟩
    · rw [h]; exact top_ok _
    · rw [h3]; exact h1 a k lo hi h2
/-- a row of ints, all its places -/
theorem row_all {h : Hp} {a n : Nat} (hz : Zh h) (hc : ckCell (h.2 a) (shp a) = true) (hs : ∃ t z, shp a = (1, t, n, z)) (hi : ∀ j, j < n → fI (h.2 a) j = ini a j) (k : Nat) : fI (h.2 a) k = if k < n then ini a k else 0 := by
  obtain ⟨t, z, hs⟩ := hs
  rw [hs] at hc
  cases e : h.2 a with
  | none => rw [e] at hc; cases hc
  | some x =>
    rw [e] at hc hi
    rcases x with ⟨t', n', f | f⟩ | x
    · simp only [ckCell, Bool.and_eq_true, beq_iff_eq] at hc
      obtain ⟨rfl, rfl⟩ := hc
      split
      · rename_i c; exact hi k c
      · exact hz _ _ _ _ e k (by omega)
    · cases hc
    · cases hc
theorem Zh_0 : Zh ((0, fun _ => none) : Hp) := fun a t n f h => by cases h
theorem law_to18 {L : Nat} {xs : Nat → Int32} : ∃ mu la ro et, (gOk ivG mu ∧ rOk ro ∧ JB mu la ro) ∧ (∀ a, a < 111 → ∀ j, j < lnI a → isRf a j = false → mu a j = ini a j) ∧ (∀ a, a < 111 → ∀ j, j < lnJ a → la a j = 0) ∧ Rr (XS L xs) 300 MLa_law 0 (ent MLa_law [.float 0]) [] (0, fun _ => none) = Rr (XS L xs) 300 MLa_law 18 [.float 0, .ref 0, .ref 81, .int 0] [] (Wd mu la ro et) := by
  have hr1 := r1_ok
  have hr2 := r2_ok
  have hr3 := r2_fl
  unfold r2 at hr2 hr3
  cases e1 : r1 with
  | none => rw [e1] at hr1; cases hr1
  | some q =>
    rw [e1] at hr1 hr2 hr3
    obtain ⟨v1, h1⟩ := q
    simp only [Option.any_some, Bool.and_eq_true, beq_iff_eq] at hr1
    obtain ⟨rfl, hz1⟩ := hr1
    simp only [Option.bind_some] at hr2 hr3
    cases e2 : run X0 4000 299 MRm_init 0 (ent MRm_init [.ref 81]) [] (mN h1 10) with
    | none => rw [e2] at hr2; cases hr2
    | some q =>
      rw [e2] at hr2 hr3
      obtain ⟨v2, h2⟩ := q
      simp only [Option.any_some, Bool.and_eq_true, beq_iff_eq] at hr2 hr3
      obtain ⟨rfl, hw⟩ := hr2
      have Z1 : Zh h1 := run_Z _ _ _ _ _ _ _ _ _ (show run X0 4000 299 MTo_init 0 (ent MTo_init [.ref 0]) [] (mN (0, fun _ => none) 9) = some (none, h1) from e1) (Zh_o Zh_0)
      have Z2 : Zh h2 := run_Z _ _ _ _ _ _ _ _ _ e2 (Zh_o Z1)
      obtain ⟨w1, w2, w3, w4, w5⟩ := ckW0_ex hw
      have hin : ∀ a j, a < 111 → j < lnI a → isRf a j = false → fI (h2.2 a) j = ini a j := fun a j ha hj hr => w3 a ha j hj hr
      refine ⟨fun a => fI (h2.2 a), fun a => fJ (h2.2 a), fun a => fQ (h2.2 a), h2.2, ⟨gOk_of ?_ ?_, ⟨?_, ?_, ?_, ?_⟩, ⟨?_, ?_, ?_⟩⟩, w3, w4, ?_⟩
      · intro a lo hi hm k
        simp only [ivG, List.mem_cons, Prod.mk.injEq, List.not_mem_nil, or_false, Nat.reduceEqDiff, false_and, and_false, false_or, true_and, reduceCtorEq] at hm
        rcases hm with ⟨rfl, rfl, rfl⟩ | ⟨rfl, rfl, rfl⟩ | ⟨rfl, rfl, rfl⟩ | ⟨rfl, rfl, rfl⟩ | ⟨rfl, rfl, rfl⟩
        · rw [row_all Z2 (w2 17 (by decide)) ⟨_, _, rfl⟩ (fun j hj => hin 17 j (by decide) hj (by rfl))]
          split <;> (show (0 : Int) ≤ 0 ∧ (0 : Int) ≤ 7; decide)
        · rw [row_all Z2 (w2 83 (by decide)) ⟨_, _, rfl⟩ (fun j hj => hin 83 j (by decide) hj (by rfl))]
          split <;> (show (0 : Int) ≤ 0 ∧ (0 : Int) ≤ 12; decide)
        · rw [row_all Z2 (w2 105 (by decide)) ⟨_, _, rfl⟩ (fun j hj => hin 105 j (by decide) hj (by rfl))]
          split <;> (show (0 : Int) ≤ 0 ∧ (0 : Int) ≤ 7; decide)
        · rw [row_all Z2 (w2 107 (by decide)) ⟨_, _, rfl⟩ (fun j hj => hin 107 j (by decide) hj (by rfl))]
          split
          · show (-6 : Int) ≤ (-1 : Int32).toInt ∧ (-1 : Int32).toInt ≤ 49; decide
          · show (-6 : Int) ≤ 0 ∧ (0 : Int) ≤ 49; decide
        · rw [row_all Z2 (w2 108 (by decide)) ⟨_, _, rfl⟩ (fun j hj => hin 108 j (by decide) hj (by rfl))]
          split <;> (show (0 : Int) ≤ 0 ∧ (0 : Int) ≤ 60; decide)
      · intro a k lo hi hm
        have f0 : ∀ a k (x : Int32), a < 111 → k < lnI a → isRf a k = false → ini a k = x → fI (h2.2 a) k = x := fun a k x h1 h2 h3 h4 => (hin a k h1 h2 h3).trans h4
        simp only [ivG, List.mem_cons, Prod.mk.injEq, List.not_mem_nil, or_false, Nat.reduceEqDiff, false_and, and_false, false_or, true_and, reduceCtorEq, Nat.add_one_ne_zero] at hm
        rcases hm with ⟨rfl, rfl, rfl, rfl⟩ | ⟨rfl, rfl, rfl, rfl⟩ | ⟨rfl, rfl, rfl, rfl⟩ | ⟨rfl, rfl, rfl, rfl⟩ | ⟨rfl, rfl, rfl, rfl⟩ | ⟨rfl, rfl, rfl, rfl⟩ | ⟨rfl, rfl, rfl, rfl⟩ | ⟨rfl, rfl, rfl, rfl⟩ | ⟨rfl, rfl, rfl, rfl⟩ | ⟨rfl, rfl, rfl, rfl⟩ | ⟨rfl, rfl, rfl, rfl⟩ | ⟨rfl, rfl, rfl, rfl⟩ | ⟨rfl, rfl, rfl, rfl⟩ | ⟨rfl, rfl, rfl, rfl⟩ | ⟨rfl, rfl, rfl, rfl⟩
        · rw [f0 0 9 0 (by decide) (by decide) rfl rfl]; decide
        · rw [f0 0 10 0 (by decide) (by decide) rfl rfl]; decide
        · rw [f0 69 3 0 (by decide) (by decide) rfl rfl]; decide
        · rw [f0 71 3 0 (by decide) (by decide) rfl rfl]; decide
        · rw [f0 73 3 0 (by decide) (by decide) rfl rfl]; decide
        · rw [f0 75 3 0 (by decide) (by decide) rfl rfl]; decide
        · rw [f0 77 3 0 (by decide) (by decide) rfl rfl]; decide
        · rw [f0 79 3 0 (by decide) (by decide) rfl rfl]; decide
        · rw [f0 81 2 0 (by decide) (by decide) rfl rfl]; decide
        · rw [f0 81 3 0 (by decide) (by decide) rfl rfl]; decide
        · rw [f0 81 18 0 (by decide) (by decide) rfl rfl]; decide
        · rw [f0 81 29 0 (by decide) (by decide) rfl rfl]; decide
        · rw [f0 81 39 (-1) (by decide) (by decide) rfl rfl]; decide
        · rw [f0 81 47 0 (by decide) (by decide) rfl rfl]; decide
        · rw [f0 81 51 0 (by decide) (by decide) rfl rfl]; decide
      · intro k hk
        exact (w5 3 (by decide) k hk (by show (if k < 6 then some (19 + 5 * k) else none) ≠ none; rw [if_pos hk]; simp)).trans (if_pos hk)
      · intro k hk
        exact (w5 4 (by decide) k (by omega) (by show (if k < 4 then some (49 + 5 * k) else none) ≠ none; rw [if_pos hk]; simp)).trans (if_pos hk)
      · intro k hk
        exact (w5 5 (by decide) k hk (by show (if k < 6 then some (69 + 2 * k) else none) ≠ none; rw [if_pos hk]; simp)).trans (if_pos hk)
      · exact .inl hr3
      · exact ⟨0, by omega, hin 81 47 (by decide) (by decide) rfl, fun i hi => absurd hi (by omega), fun i hi => absurd hi (by omega)⟩
      · exact ⟨0, 0, by omega, hin 81 12 (by decide) (by decide) rfl, hin 81 13 (by decide) (by decide) rfl, fun i hi => absurd hi (by omega)⟩
      · intro p hp
        refine ⟨0, by omega, ?_, trivial⟩
        exact hin 94 p (by decide) (by show p < 5; omega) rfl
      have g1' : Rr (XS L xs) 299 MTo_init 0 (ent MTo_init [.ref 0]) [] (mN (0, fun _ => none) 9) = some (none, h1) := (Rr_iff _).mpr ⟨4000, run_X0 _ _ _ _ _ _ _ _ e1⟩
      have g2' : Rr (XS L xs) 299 MRm_init 0 (ent MRm_init [.ref 81]) [] (mN h1 10) = some (none, h2) := (Rr_iff _).mpr ⟨4000, run_X0 _ _ _ _ _ _ _ _ e2⟩
      rw [← w1]
      refine (Rr_nx (pc' := 3) (L' := [.float 0, mkU, mkU, mkU]) (st' := [.ref 0]) (h' := mN (0, fun _ => none) 9) d_MLa_law_0 rfl).trans ?_
      refine (Rr_nx (pc' := 4) (L' := [.float 0, mkU, mkU, mkU]) (st' := [.ref 0, .ref 0]) (h' := mN (0, fun _ => none) 9) d_MLa_law_3 rfl).trans ?_
      refine (Rr_cl (d := 299) (M' := MTo_init) (av := [.ref 0]) (rest := [.ref 0]) d_MLa_law_4 rfl).trans ?_
      rw [g1', Option.bind_some]
      refine (Rr_nx (pc' := 8) (L' := [.float 0, .ref 0, mkU, mkU]) (st' := []) (h' := h1) d_MLa_law_7 rfl).trans ?_
      refine (Rr_nx (pc' := 11) (L' := [.float 0, .ref 0, mkU, mkU]) (st' := [.ref h1.1]) (h' := mN h1 10) d_MLa_law_8 rfl).trans ?_
      rw [hz1]
      refine (Rr_nx (pc' := 12) (L' := [.float 0, .ref 0, mkU, mkU]) (st' := [.ref 81, .ref 81]) (h' := mN h1 10) d_MLa_law_11 rfl).trans ?_
      refine (Rr_cl (d := 299) (M' := MRm_init) (av := [.ref 81]) (rest := [.ref 81]) d_MLa_law_12 rfl).trans ?_
      rw [g2', Option.bind_some]
      refine (Rr_nx (pc' := 16) (L' := [.float 0, .ref 0, .ref 81, mkU]) (st' := []) (h' := h2) d_MLa_law_15 rfl).trans ?_
      refine (Rr_nx (pc' := 17) (L' := [.float 0, .ref 0, .ref 81, mkU]) (st' := [.int 0]) (h' := h2) d_MLa_law_16 rfl).trans ?_
      exact Rr_nx (pc' := 18) (L' := [.float 0, .ref 0, .ref 81, .int 0]) (st' := []) (h' := h2) d_MLa_law_17 rfl
