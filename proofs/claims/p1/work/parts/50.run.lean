theorem ial_X0 {X : Tok} {t pc : Nat} {L st : List Value} {h : Hp} {o : Out} (ho : o_ial X0 t L st h pc = some o) : o_ial X t L st h pc = some o := by
  unfold o_ial at ho ⊢
  split at ho
  · exact ho
  · cases ho
  · cases ho
theorem len_X0 {X : Tok} {pc : Nat} {L st : List Value} {h : Hp} {o : Out} (ho : o_len X0 L st h pc = some o) : o_len X L st h pc = some o := by
  unfold o_len at ho ⊢
  split at ho
  · exact ho
  · cases ho
  · cases ho
theorem g1_mk {n : Nat} {r : Option Out} : g1 n n r = r := if_pos rfl
theorem stp_X0 {X : Tok} {d : Nat} {M : MI} {pc : Nat} {L st : List Value} {h : Hp} {o : Out} (ho : stp X0 d M pc L st h = some o) : stp X d M pc L st h = some o := by
  obtain ⟨ins, len, hd, he⟩ := stp_inv ho
  unfold stp
  rw [hd]
  show ex X d M pc ins len L st h = some o
  cases ins
  case iaload => obtain ⟨rfl, hq⟩ := g1_inj he; exact g1_mk.trans (ial_X0 hq)
  case baload => obtain ⟨rfl, hq⟩ := g1_inj he; exact g1_mk.trans (ial_X0 hq)
  case saload => obtain ⟨rfl, hq⟩ := g1_inj he; exact g1_mk.trans (ial_X0 hq)
  case arraylength => obtain ⟨rfl, hq⟩ := g1_inj he; exact g1_mk.trans (len_X0 hq)
  all_goals exact he
theorem run_X0 {X : Tok} : ∀ (f d : Nat) (M : MI) (pc : Nat) (L st : List Value) (h : Hp) (r : Option Value × Hp), run X0 f d M pc L st h = some r → run X f d M pc L st h = some r := by
  intro f
  induction f with
  | zero => intro d M pc L st h r hr; exact absurd hr (by simp [run])
  | succ f ih =>
    intro d M pc L st h r hr
    rw [run] at hr
    cases hs : stp X0 d M pc L st h with
    | none => rw [hs] at hr; exact absurd hr (by simp)
    | some o =>
      rw [hs] at hr
      rw [run, stp_X0 hs]
      rcases o with ⟨pc', L', st', h'⟩ | ⟨M', av, rest⟩ | v
      · exact ih _ _ _ _ _ _ _ hr
      · cases d with
        | zero => exact absurd hr (by simp)
        | succ d' =>
          simp only at hr ⊢
          cases hq : run X0 f d' M' 0 (ent M' av) [] h with
          | none => rw [hq] at hr; exact absurd hr (by simp)
          | some q =>
            rw [hq] at hr
            rw [ih _ _ _ _ _ _ _ hq]
            exact ih _ _ _ _ _ _ _ hr
      · exact hr
theorem law_to18 {L : Nat} {xs : Nat → Int32} : ∃ mu la ro et, Fr mu la ro ∧ Rr (XL L xs) 300 MLa_law 0 (ent MLa_law [.float 0]) [] (0, fun _ => none) = Rr (XL L xs) 300 MLa_law 18 [.float 0, .ref 0, .ref 81, .int 0] [] (Wd mu la ro et) := by
  have hr1 := r1_ok
  have hr2 := r2_ok
  unfold r2 at hr2
  cases e1 : r1 with
  | none => rw [e1] at hr1; cases hr1
  | some q =>
    rw [e1] at hr1 hr2
    obtain ⟨v1, h1⟩ := q
    simp only [Option.any_some, Bool.and_eq_true, beq_iff_eq] at hr1
    obtain ⟨rfl, hz1⟩ := hr1
    simp only [Option.bind_some] at hr2
    cases e2 : run X0 4000 299 MRm_init 0 (ent MRm_init [.ref 81]) [] (mN h1 10) with
    | none => rw [e2] at hr2; cases hr2
    | some q =>
      rw [e2] at hr2
      obtain ⟨v2, h2⟩ := q
      simp only [Option.any_some, Bool.and_eq_true, beq_iff_eq] at hr2
      obtain ⟨rfl, hw⟩ := hr2
      obtain ⟨mu, la, ro, et, rfl, f1, f2, f3⟩ := ckW0_ok hw
      refine ⟨mu, la, ro, et, ⟨f1, f2, f3⟩, ?_⟩
      have g1' : Rr (XL L xs) 299 MTo_init 0 (ent MTo_init [.ref 0]) [] (mN (0, fun _ => none) 9) = some (none, h1) := (Rr_iff _).mpr ⟨4000, run_X0 _ _ _ _ _ _ _ _ e1⟩
      have g2' : Rr (XL L xs) 299 MRm_init 0 (ent MRm_init [.ref 81]) [] (mN h1 10) = some (none, Wd mu la ro et) := (Rr_iff _).mpr ⟨4000, run_X0 _ _ _ _ _ _ _ _ e2⟩
      refine (Rr_nx (pc' := 3) (L' := [.float 0, mkU, mkU, mkU]) (st' := [.ref 0]) (h' := mN (0, fun _ => none) 9) d_MLa_law_0 rfl).trans ?_
      refine (Rr_nx (pc' := 4) (L' := [.float 0, mkU, mkU, mkU]) (st' := [.ref 0, .ref 0]) (h' := mN (0, fun _ => none) 9) d_MLa_law_3 rfl).trans ?_
      refine (Rr_cl (d := 299) (M' := MTo_init) (av := [.ref 0]) (rest := [.ref 0]) d_MLa_law_4 rfl).trans ?_
      rw [g1', Option.bind_some]
      refine (Rr_nx (pc' := 8) (L' := [.float 0, .ref 0, mkU, mkU]) (st' := []) (h' := h1) d_MLa_law_7 rfl).trans ?_
      refine (Rr_nx (pc' := 11) (L' := [.float 0, .ref 0, mkU, mkU]) (st' := [.ref h1.1]) (h' := mN h1 10) d_MLa_law_8 rfl).trans ?_
      rw [hz1]
      refine (Rr_nx (pc' := 12) (L' := [.float 0, .ref 0, mkU, mkU]) (st' := [.ref 81, .ref 81]) (h' := mN h1 10) d_MLa_law_11 rfl).trans ?_
      refine (Rr_cl (d := 299) (M' := MRm_init) (av := [.ref 81]) (rest := [.ref 81]) d_MLa_law_12 rfl).trans ?_
      rw [g2', Option.bind_some]
      refine (Rr_nx (pc' := 16) (L' := [.float 0, .ref 0, .ref 81, mkU]) (st' := []) (h' := Wd mu la ro et) d_MLa_law_15 rfl).trans ?_
      refine (Rr_nx (pc' := 17) (L' := [.float 0, .ref 0, .ref 81, mkU]) (st' := [.int 0]) (h' := Wd mu la ro et) d_MLa_law_16 rfl).trans ?_
      exact Rr_nx (pc' := 18) (L' := [.float 0, .ref 0, .ref 81, .int 0]) (st' := []) (h' := Wd mu la ro et) d_MLa_law_17 rfl
theorem law_run {L : Nat} {xs : Nat → Int32} (hL : L ≤ 6) : ∃ (f : Nat) (h' : Hp), run (XL L xs) f 300 MLa_law 0 (ent MLa_law [.float 0]) [] (0, fun _ => none) = some (some (.int 1), h') ∧ h'.1 ≤ 10000 := by
  obtain ⟨mu, la, ro, et, hF, e⟩ := law_to18 (L := L) (xs := xs)
  rcases Nat.lt_or_ge L 6 with h | h
  · obtain ⟨h', e2, hz⟩ := l_headS (xs := xs) (mu := mu) (la := la) (ro := ro) (et := et) h
    obtain ⟨f, hf⟩ := (Rr_iff _).mp (e.trans e2)
    exact ⟨f, h', hf, hz⟩
  · have : L = 6 := by omega
    subst this
    obtain ⟨h', e2, hz⟩ := l_head6 (xs := xs) (et := et) hF
    obtain ⟨f, hf⟩ := (Rr_iff _).mp (e.trans e2)
    exact ⟨f, h', hf, hz⟩
