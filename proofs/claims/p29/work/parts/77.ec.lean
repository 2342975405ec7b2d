-- ===== the floor of the class: its parts, what they are worth
/-- code, left, right, and of a number its value -/
abbrev Pt : Type := Int32 × Int32 × Int32 × Option Int32
noncomputable def fm (mu : Mu) (a : Nat) (P : List Pt) : Mu := fun c j =>
  if c = a then (if j = 4 then nI P.length else mu c j)
  else if c = a + 1 then (match P[j]? with
    | some p => p.1
    | none => mu c j)
  else if c = a + 2 then (match P[j]? with
    | some p => p.2.1
    | none => mu c j)
  else if c = a + 3 then (match P[j]? with
    | some p => p.2.2.1
    | none => mu c j)
  else if c = a + 4 then (match P[j]? with
    | some p => p.2.2.2.getD (mu c j)
    | none => mu c j)
  else mu c j
abbrev flA (a : Nat) : Prop := (qO a 3 = true ∧ qI a 3 4 = true ∧ 49 ≤ a) ∧ ((qR a 3 0).isSome = true ∧ qRd a 3 0 = a + 1 ∧ (qA (a + 1) 0).isSome = true ∧ qAd (a + 1) 0 = 121) ∧ ((qR a 3 1).isSome = true ∧ qRd a 3 1 = a + 2 ∧ (qA (a + 2) 0).isSome = true ∧ qAd (a + 2) 0 = 121) ∧ ((qR a 3 2).isSome = true ∧ qRd a 3 2 = a + 3 ∧ (qA (a + 3) 0).isSome = true ∧ qAd (a + 3) 0 = 121) ∧ ((qR a 3 3).isSome = true ∧ qRd a 3 3 = a + 4 ∧ (qA (a + 4) 0).isSome = true ∧ qAd (a + 4) 0 = 121)
theorem flA_of {F : Nat} (h : F < 4) : flA (49 + 5 * F) := by
  match F, h with
  | 0, _ => decide
  | 1, _ => decide
  | 2, _ => decide
  | 3, _ => decide
-- what code and parts are worth
noncomputable def rsF (e : Nat → Int32) (c l r : Int32) : Int32 :=
  if 0 ≤ nmF c then e (nmF c).toNatClampNeg else if c = 33 then (if l = 0 then 1 else 0) else if c = 2 then -l else twF c l r
noncomputable def mst (e : Nat → Int32) (st : List Int32) (p : Int32 × Int32) : List Int32 :=
  if p.1 = 1 then p.2 :: st
  else if p.1 = 2 then e p.2.toNatClampNeg :: st
  else if p.1 = 3 then (match st with
    | x :: t => (if x = 0 then 1 else 0) :: t
    | [] => [])
  else if p.1 = 4 then (match st with
    | x :: t => (-x) :: t
    | [] => [])
  else (match st with
    | y :: x :: t => twF p.1 x y :: t
    | _ => [])
noncomputable def mev (e : Nat → Int32) (code : List (Int32 × Int32)) (st : List Int32) : List Int32 := code.foldl (mst e) st
noncomputable def gtV (V : Nat → Int32) (x : Int32) : Int32 := if 0 ≤ x ∧ x < 121 then V x.toNatClampNeg else 0
noncomputable def cev (e : Nat → Int32) : List Pt → Nat → (Nat → Int32) → (Nat → Int32)
  | [], _, V => V
  | p :: N, n, V => cev e N (n + 1) (if p.1 = 1 then V else upd V n (rsF e p.1 (gtV V p.2.1) (gtV V p.2.2.1)))
/-- the numbers of parts stand -/
def NumOk (N : List Pt) (n : Nat) (V : Nat → Int32) : Prop := ∀ i p v, N[i]? = some p → p.2.2.2 = some v → V (n + i) = v
/-- code and parts are worth the same -/
abbrev siK (c : Int32) : Prop := c = 37 ∨ c = 38 ∨ c = 42 ∨ c = 43 ∨ c = 45 ∨ c = 47 ∨ c = 60 ∨ c = 61 ∨ c = 62 ∨ c = 124
/-- a part within a line -/
def PlP (p : Pt) : Prop := (¬ p.1 = 3 ∧ ¬ p.1 = 4) ∧ (∀ v, p.2.2.2 = some v → p.1 = 1) ∧ (p.1 = 1 ∨ p.1 = 2 ∨ p.1 = 33 ∨ 0 ≤ nmF p.1 ∨ siK p.1)
def PlN (N : List Pt) : Prop := ∀ p, p ∈ N → PlP p
def Sem (code : List (Int32 × Int32)) (N : List Pt) (n q : Nat) : Prop := PlN N ∧ ∃ f : (Nat → Int32) → Int32, (∀ e st, mev e code st = f e :: st) ∧ (n ≤ q ∧ q < n + N.length) ∧ ∀ e V, NumOk N n V → cev e N n V q = f e
section
variable {e : Nat → Int32} {N N1 N2 : List Pt} {n q q1 q2 : Nat} {V : Nat → Int32} {code code1 code2 : List (Int32 × Int32)} {c : Int32}
theorem upd_e {f : Nat → Int32} {k j : Nat} {v : Int32} : upd f k v j = if j = k then v else f j := rfl
theorem cev_a : ∀ (N1 N2 : List Pt) (n : Nat) (V : Nat → Int32), cev e (N1 ++ N2) n V = cev e N2 (n + N1.length) (cev e N1 n V)
  | [], N2, n, V => rfl
  | p :: N1, N2, n, V => by
    rw [List.cons_append, cev, cev, cev_a N1 N2, List.length_cons]
    congr 1
    omega
theorem cev_lt : ∀ (N : List Pt) (n : Nat) (V : Nat → Int32) (j : Nat), j < n → cev e N n V j = V j
  | [], _, _, _, _ => rfl
  | p :: N, n, V, j, h => by
    rw [cev, cev_lt N _ _ _ (by omega)]
    split
    · rfl
    · rw [upd_e, if_neg (by omega)]
theorem cev_ge : ∀ (N : List Pt) (n : Nat) (V : Nat → Int32) (j : Nat), n + N.length ≤ j → cev e N n V j = V j
  | [], _, _, _, _ => rfl
  | p :: N, n, V, j, h => by
    rw [List.length_cons] at h
    rw [cev, cev_ge N _ _ _ (by omega)]
    split
    · rfl
    · rw [upd_e, if_neg (by omega)]
theorem mev_a {st : List Int32} : mev e (code1 ++ code2) st = mev e code2 (mev e code1 st) := List.foldl_append
theorem gt_n {k : Nat} (h : k < 121) : gtV V (nI k) = V k := by
  unfold gtV
  rw [if_pos ⟨nI_pos' (by omega), nI_lt (a := k) (b := 121) h (by omega)⟩, nI_clamp (by omega)]
theorem Num_a (h : NumOk (N1 ++ N2) n V) : NumOk N1 n V ∧ NumOk N2 (n + N1.length) V := by
  refine ⟨fun i p v h1 h2 => ?_, fun i p v h1 h2 => ?_⟩
  · have hi : i < N1.length := (List.getElem?_eq_some_iff.mp h1).1
    exact h i p v (by rw [List.getElem?_append_left hi]; exact h1) h2
  · have := h (N1.length + i) p v (by rw [List.getElem?_append_right (by omega), Nat.add_sub_cancel_left]; exact h1) h2
    rw [← Nat.add_assoc] at this
    exact this
theorem Num_c (h : NumOk N (n + N1.length) V) : NumOk N (n + N1.length) (cev e N1 n V) := fun i p v h1 h2 => by
  rw [cev_ge _ _ _ _ (by omega)]
  exact h i p v h1 h2
theorem PlN_1 {p : Pt} (h : PlP p) : PlN [p] := fun x hx => by
  rw [List.mem_singleton] at hx
  rw [hx]
  exact h
theorem PlN_a (h1 : PlN N1) (h2 : PlN N2) : PlN (N1 ++ N2) := fun x hx => by
  rcases List.mem_append.mp hx with h | h
  · exact h1 x h
  · exact h2 x h
theorem Sem_num {v : Int32} : Sem [(1, v)] [(1, -1, -1, some v)] n n :=
  ⟨PlN_1 ⟨⟨show ¬ (1 : Int32) = 3 by decide, show ¬ (1 : Int32) = 4 by decide⟩, fun _ _ => rfl, .inl rfl⟩, fun _ => v, fun e st => rfl, ⟨Nat.le_refl _, by simp⟩, fun e V h => h 0 _ v rfl rfl⟩
theorem nm_ne {c : Int32} (h : 0 ≤ nmF c) : ¬ c = 1 := fun q => by
  subst q
  exact absurd h (by decide)
theorem Sem_name (h : 0 ≤ nmF c) : Sem [(2, nmF c)] [(c, -1, -1, none)] n n := by
  have h3 : ¬ c = 3 := fun q => by subst q; exact absurd h (by decide)
  have h4 : ¬ c = 4 := fun q => by subst q; exact absurd h (by decide)
  refine ⟨PlN_1 ⟨⟨h3, h4⟩, (fun _ q => by cases q), .inr (.inr (.inr (.inl h)))⟩, fun e => e (nmF c).toNatClampNeg, fun e st => rfl, ⟨Nat.le_refl _, by simp⟩, fun e V _ => ?_⟩
  rw [cev, cev]
  dsimp only
  rw [if_neg (nm_ne h), upd_e, if_pos rfl]
  unfold rsF
  rw [if_pos h]
/-- one part more, behind those of N -/
theorem cev_1 {x : Pt} (hx : ¬ x.1 = 1) : cev e (N ++ [x]) n V (n + N.length) = rsF e x.1 (gtV (cev e N n V) x.2.1) (gtV (cev e N n V) x.2.2.1) := by
  rw [cev_a, cev, cev, if_neg hx, upd_e, if_pos rfl]
theorem Sem_not (hn : n + N.length ≤ 121) (h : Sem code N n q) : Sem (code ++ [(3, 0)]) (N ++ [(33, nI q, -1, none)]) n (n + N.length) := by
  obtain ⟨h0, f, h1, h2, h3⟩ := h
  refine ⟨PlN_a h0 (PlN_1 ⟨⟨show ¬ (33 : Int32) = 3 by decide, show ¬ (33 : Int32) = 4 by decide⟩, (fun _ q => by cases q), .inr (.inr (.inl rfl))⟩), fun e => if f e = 0 then 1 else 0, fun e st => ?_, ⟨by omega, by rw [List.length_append]; simp⟩, fun e V hv => ?_⟩
  · rw [mev_a, h1]
    rfl
  · rw [cev_1 (show ¬ (33 : Int32) = 1 by decide)]
    dsimp only
    rw [gt_n (by omega), h3 e V (Num_a hv).1]
    rfl
theorem Sem_neg (hn : n + N.length ≤ 121) (h : Sem code N n q) : Sem (code ++ [(4, 0)]) (N ++ [(2, nI q, -1, none)]) n (n + N.length) := by
  obtain ⟨h0, f, h1, h2, h3⟩ := h
  refine ⟨PlN_a h0 (PlN_1 ⟨⟨show ¬ (2 : Int32) = 3 by decide, show ¬ (2 : Int32) = 4 by decide⟩, (fun _ q => by cases q), .inr (.inl rfl)⟩), fun e => -f e, fun e st => ?_, ⟨by omega, by rw [List.length_append]; simp⟩, fun e V hv => ?_⟩
  · rw [mev_a, h1]
    rfl
  · rw [cev_1 (show ¬ (2 : Int32) = 1 by decide)]
    dsimp only
    rw [gt_n (by omega), h3 e V (Num_a hv).1]
    rfl
/-- a sign that joins two -/
abbrev bi (c : Int32) : Prop := (¬ c = 1 ∧ ¬ c = 2 ∧ ¬ c = 3 ∧ ¬ c = 4) ∧ ¬ 0 ≤ nmF c ∧ ¬ c = 33 ∧ siK c
theorem bi_rs {l r : Int32} (h : bi c) : rsF e c l r = twF c l r := by
  unfold rsF
  rw [if_neg h.2.1, if_neg h.2.2.1, if_neg h.1.2.1]
theorem Sem_bin (hc : bi c) (hn : n + N1.length + N2.length ≤ 121) (h1 : Sem code1 N1 n q1) (h2 : Sem code2 N2 (n + N1.length) q2) : Sem (code1 ++ code2 ++ [(c, 0)]) (N1 ++ N2 ++ [(c, nI q1, nI q2, none)]) n (n + (N1 ++ N2).length) := by
  obtain ⟨f0, f, f1, f2, f3⟩ := h1
  obtain ⟨g0, g, g1, g2, g3⟩ := h2
  refine ⟨PlN_a (PlN_a f0 g0) (PlN_1 ⟨⟨hc.1.2.2.1, hc.1.2.2.2⟩, (fun _ q => by cases q), .inr (.inr (.inr (.inr hc.2.2.2)))⟩), fun e => twF c (f e) (g e), fun e st => ?_, ⟨by omega, by rw [List.length_append (as := N1 ++ N2)]; simp⟩, fun e V hv => ?_⟩
  · rw [mev_a, mev_a, f1, g1]
    show [(c, (0 : Int32))].foldl (mst e) (g e :: f e :: st) = _
    rw [List.foldl_cons, List.foldl_nil]
    unfold mst
    dsimp only
    rw [if_neg hc.1.1, if_neg hc.1.2.1, if_neg hc.1.2.2.1, if_neg hc.1.2.2.2]
  · obtain ⟨v1, v2⟩ := Num_a hv
    obtain ⟨v3, v4⟩ := Num_a v1
    rw [cev_1 (x := (c, nI q1, nI q2, none)) hc.1.1, bi_rs hc]
    dsimp only
    rw [gt_n (by omega), gt_n (by omega), cev_a, cev_lt N2 _ _ _ f2.2, f3 e V v3, g3 e _ (Num_c v4)]
end
section
variable {X : Tok} {d : Nat} {mu mu' : Mu} {la la' : La} {ro ro' : Ro} {et : Nat → Option va_E} {a h : Nat} {P : List Pt} {x l r : Int32} {w : Hp}
theorem ap_get (P : List Pt) (x : Pt) (j : Nat) : (P ++ [x])[j]? = if j = P.length then some x else P[j]? := by
  by_cases c : j = P.length
  · subst c
    rw [if_pos rfl]
    simp
  · rw [if_neg c]
    by_cases c2 : j < P.length
    · rw [List.getElem?_append_left c2]
    · rw [List.getElem?_eq_none (by rw [List.length_append]; simp only [List.length_cons, List.length_nil]; omega), List.getElem?_eq_none (by omega)]
theorem fm_len (ha : 49 ≤ a) : tp (fm mu a P) h a 4 = nI P.length := by
  unfold tp fm
  rw [up2_a (by omega), if_pos rfl, if_pos rfl]
theorem up_app (ha : 49 ≤ a) : up2 (up2 (up2 (up2 (tp (fm mu a P) h) (a + 1) P.length x) (a + 2) P.length l) (a + 3) P.length r) a 4 (nI (P.length + 1)) = tp (fm mu a (P ++ [(x, l, r, none)])) h := by
  refine funext fun c => funext fun j => ?_
  have a0 : ¬ a = 0 := by omega
  have a1 : ¬ a = 1 := by omega
  simp only [up2_e, tp, fm, ap_get]
  rcases (by omega : c = a ∨ c = a + 1 ∨ c = a + 2 ∨ c = a + 3 ∨ c = a + 4 ∨ (¬ c = a ∧ ¬ c = a + 1 ∧ ¬ c = a + 2 ∧ ¬ c = a + 3 ∧ ¬ c = a + 4)) with rfl | rfl | rfl | rfl | rfl | ⟨h0, h1, h2, h3, h4⟩
  · by_cases j4 : j = 4
    · simp [j4, a1]
    · simp [j4, a1]
  · by_cases hj : j = P.length
    · simp [hj, a0]
    · simp [hj, a0]
  · by_cases hj : j = P.length
    · simp [hj, a0]
    · simp [hj, a0]
  · by_cases hj : j = P.length
    · simp [hj, a0]
    · simp [hj, a0]
  · by_cases hj : j = P.length
    · simp [hj, a0]
    · simp [hj, a0]
  · simp [h0, h1, h2, h3, h4]
theorem up_num (ha : 49 ≤ a) {v : Int32} : up2 (tp (fm mu a (P ++ [(x, l, r, none)])) h) (a + 4) P.length v = tp (fm mu a (P ++ [(x, l, r, some v)])) h := by
  refine funext fun c => funext fun j => ?_
  have a0 : ¬ a = 0 := by omega
  have a1 : ¬ a = 1 := by omega
  simp only [up2_e, tp, fm, ap_get]
  rcases (by omega : c = a ∨ c = a + 1 ∨ c = a + 2 ∨ c = a + 3 ∨ c = a + 4 ∨ (¬ c = a ∧ ¬ c = a + 1 ∧ ¬ c = a + 2 ∧ ¬ c = a + 3 ∧ ¬ c = a + 4)) with rfl | rfl | rfl | rfl | rfl | ⟨h0, h1, h2, h3, h4⟩
  · simp
  · by_cases hj : j = P.length
    · simp [hj]
    · simp [hj]
  · by_cases hj : j = P.length
    · simp [hj]
    · simp [hj]
  · by_cases hj : j = P.length
    · simp [hj]
    · simp [hj]
  · by_cases hj : j = P.length
    · simp [hj, a0]
    · simp [hj, a0]
  · simp [h0, h1, h2, h3, h4]
theorem e_app (q : flA a) (hl : P.length < 121) : Rr X d MFl_append 0 [.ref a, .int x, .int l, .int r] [] (Wd (tp (fm mu a P) h) la ro et) = some (some (.int (nI P.length)), Wd (tp (fm mu a (P ++ [(x, l, r, none)])) h) la ro et) := by
  obtain ⟨⟨f1, f2, f3⟩, ⟨g1, g2, g3, g4⟩, ⟨i1, i2, i3, i4⟩, ⟨k1, k2, k3, k4⟩, _⟩ := q
  have n0 : ¬ nI P.length < 0 := nI_pos (by omega)
  have n1 : nI P.length < 121 := nI_lt (a := P.length) (b := 121) hl (by omega)
  have cP : (nI P.length).toNatClampNeg = P.length := nI_clamp (by omega)
  have iP : ¬ 121 ≤ P.length := by omega
  have l0 := fm_len (mu := mu) (P := P) (h := h) f3
  have l1 : up2 (tp (fm mu a P) h) (a + 1) P.length x a 4 = nI P.length := (up2_a (by omega)).trans l0
  have l2 : up2 (up2 (tp (fm mu a P) h) (a + 1) P.length x) (a + 2) P.length l a 4 = nI P.length := (up2_a (by omega)).trans l1
  have l3 : up2 (up2 (up2 (tp (fm mu a P) h) (a + 1) P.length x) (a + 2) P.length l) (a + 3) P.length r a 4 = nI P.length := (up2_a (by omega)).trans l2
  have l4 : tp (fm mu a (P ++ [(x, l, r, none)])) h a 4 = nI (P.length + 1) := (fm_len f3).trans (by rw [List.length_append]; rfl)
  simp only [r_MFl_append_0, r_MFl_append_1, r_MFl_append_4, r_MFl_append_7, r_MFl_append_8, r_MFl_append_11, r_MFl_append_13, r_MFl_append_16, r_MFl_append_17, r_MFl_append_18, r_MFl_append_19, r_MFl_append_22, r_MFl_append_23, r_MFl_append_26, r_MFl_append_27, r_MFl_append_28, r_MFl_append_29, r_MFl_append_32, r_MFl_append_33, r_MFl_append_36, r_MFl_append_37, r_MFl_append_38, r_MFl_append_39, r_MFl_append_42, r_MFl_append_43, r_MFl_append_46, r_MFl_append_47, r_MFl_append_48, r_MFl_append_49, r_MFl_append_49i, r_MFl_append_50, r_MFl_append_53, r_MFl_append_54, r_MFl_append_55, r_MFl_append_58, r_MFl_append_59, r_MFl_append_62, r_MFl_append_63, r_MFl_append_64, sL_0, sL_1, sL_2, mk_i, mk_r, mk_f, mk_n, mk_u, mk_l, List.set_cons_succ, List.set_cons_zero, Nat.reduceAdd, ckS_0, ckS_1, ckS_2, ckS_3, ckS_4, Option.bind_some, Option.isSome_some, psh, if_true, if_false, i10, not_true_eq_false, not_false_eq_true, Bool.false_eq_true, and_self, and_true, true_and, eq_self, f1, f2, g1, g2, g3, g4, i1, i2, i3, i4, k1, k2, k3, k4, l0, l1, l2, l3, n0, n1, cP, iP, nI_1, up_app f3, l4, nI_pred, or_self]
theorem e_appNum (q : flA a) (hl : P.length < 121) {v : Int32} : Rr X (d + 1) MFl_appendNumber 0 [.ref a, .int v, mkU] [] (Wd (tp (fm mu a P) h) la ro et) = some (some (.int (nI P.length)), Wd (tp (fm mu a (P ++ [(1, -1, -1, some v)])) h) la ro et) := by
  have ea := e_app (X := X) (d := d) (mu := mu) (la := la) (ro := ro) (et := et) (h := h) (x := 1) (l := -1) (r := -1) q hl
  obtain ⟨⟨f1, f2, f3⟩, _, _, _, ⟨k1, k2, k3, k4⟩⟩ := q
  have n0 : ¬ nI P.length < 0 := nI_pos (by omega)
  have n1 : ¬ 121 ≤ nI P.length := nI_ge (a := P.length) (b := 121) hl (by omega)
  have cP : (nI P.length).toNatClampNeg = P.length := nI_clamp (by omega)
  have iP : ¬ 121 ≤ P.length := by omega
  simp only [r_MFl_appendNumber_0, r_MFl_appendNumber_1, r_MFl_appendNumber_2, r_MFl_appendNumber_3, r_MFl_appendNumber_4, r_MFl_appendNumber_7, r_MFl_appendNumber_8, r_MFl_appendNumber_9, r_MFl_appendNumber_12, r_MFl_appendNumber_13, r_MFl_appendNumber_15, r_MFl_appendNumber_18, r_MFl_appendNumber_19, r_MFl_appendNumber_22, r_MFl_appendNumber_23, r_MFl_appendNumber_24, r_MFl_appendNumber_25, r_MFl_appendNumber_26, sL_0, sL_1, sL_2, mk_i, mk_r, mk_f, mk_n, mk_u, mk_l, List.set_cons_succ, List.set_cons_zero, Nat.reduceAdd, ckS_0, ckS_1, ckS_2, ckS_3, ckS_4, Option.bind_some, Option.isSome_some, psh, if_true, if_false, i10, not_true_eq_false, not_false_eq_true, Bool.false_eq_true, and_self, and_true, true_and, eq_self, f1, ea, n0, n1, k1, k2, k3, k4, cP, iP, up_num f3, or_self]
-- which level a sign joins
noncomputable def lvF (b : Int32) : Int32 :=
  if b = 37 then 4 else if b = 38 then 1 else if b = 42 then 4 else if b = 43 then 3 else if b = 45 then 3 else if b = 47 then 4 else if b = 60 then 2 else if b = 61 then 2 else if b = 62 then 2 else if b = 124 then 0 else -1
theorem ne_t {x K : Int32} {k : Int} (hK : K.toInt = k) (h : ¬ x = K) : ¬ k = x.toInt := fun q => h (Int32.toInt_inj.mp (by rw [hK]; exact q.symm))
theorem e_levelOf {b : Int32} : Rr X d MFl_levelOf 0 [.int b] [] w = some (some (.int (lvF b)), w) := by
  rw [r_MFl_levelOf_0]
  by_cases c37 : b = 37
  · subst c37; rw [r_MFl_levelOf_1_37]; simp only [r_MFl_levelOf_92, r_MFl_levelOf_93, r_MFl_levelOf_94, r_MFl_levelOf_95, r_MFl_levelOf_96, r_MFl_levelOf_97, r_MFl_levelOf_98, r_MFl_levelOf_99, r_MFl_levelOf_100, r_MFl_levelOf_101, r_MFl_levelOf_102, r_MFl_levelOf_103]; rfl
  by_cases c38 : b = 38
  · subst c38; rw [r_MFl_levelOf_1_38]; simp only [r_MFl_levelOf_92, r_MFl_levelOf_93, r_MFl_levelOf_94, r_MFl_levelOf_95, r_MFl_levelOf_96, r_MFl_levelOf_97, r_MFl_levelOf_98, r_MFl_levelOf_99, r_MFl_levelOf_100, r_MFl_levelOf_101, r_MFl_levelOf_102, r_MFl_levelOf_103]; rfl
  by_cases c42 : b = 42
  · subst c42; rw [r_MFl_levelOf_1_42]; simp only [r_MFl_levelOf_92, r_MFl_levelOf_93, r_MFl_levelOf_94, r_MFl_levelOf_95, r_MFl_levelOf_96, r_MFl_levelOf_97, r_MFl_levelOf_98, r_MFl_levelOf_99, r_MFl_levelOf_100, r_MFl_levelOf_101, r_MFl_levelOf_102, r_MFl_levelOf_103]; rfl
  by_cases c43 : b = 43
  · subst c43; rw [r_MFl_levelOf_1_43]; simp only [r_MFl_levelOf_92, r_MFl_levelOf_93, r_MFl_levelOf_94, r_MFl_levelOf_95, r_MFl_levelOf_96, r_MFl_levelOf_97, r_MFl_levelOf_98, r_MFl_levelOf_99, r_MFl_levelOf_100, r_MFl_levelOf_101, r_MFl_levelOf_102, r_MFl_levelOf_103]; rfl
  by_cases c45 : b = 45
  · subst c45; rw [r_MFl_levelOf_1_45]; simp only [r_MFl_levelOf_92, r_MFl_levelOf_93, r_MFl_levelOf_94, r_MFl_levelOf_95, r_MFl_levelOf_96, r_MFl_levelOf_97, r_MFl_levelOf_98, r_MFl_levelOf_99, r_MFl_levelOf_100, r_MFl_levelOf_101, r_MFl_levelOf_102, r_MFl_levelOf_103]; rfl
  by_cases c47 : b = 47
  · subst c47; rw [r_MFl_levelOf_1_47]; simp only [r_MFl_levelOf_92, r_MFl_levelOf_93, r_MFl_levelOf_94, r_MFl_levelOf_95, r_MFl_levelOf_96, r_MFl_levelOf_97, r_MFl_levelOf_98, r_MFl_levelOf_99, r_MFl_levelOf_100, r_MFl_levelOf_101, r_MFl_levelOf_102, r_MFl_levelOf_103]; rfl
  by_cases c60 : b = 60
  · subst c60; rw [r_MFl_levelOf_1_60]; simp only [r_MFl_levelOf_92, r_MFl_levelOf_93, r_MFl_levelOf_94, r_MFl_levelOf_95, r_MFl_levelOf_96, r_MFl_levelOf_97, r_MFl_levelOf_98, r_MFl_levelOf_99, r_MFl_levelOf_100, r_MFl_levelOf_101, r_MFl_levelOf_102, r_MFl_levelOf_103]; rfl
  by_cases c61 : b = 61
  · subst c61; rw [r_MFl_levelOf_1_61]; simp only [r_MFl_levelOf_92, r_MFl_levelOf_93, r_MFl_levelOf_94, r_MFl_levelOf_95, r_MFl_levelOf_96, r_MFl_levelOf_97, r_MFl_levelOf_98, r_MFl_levelOf_99, r_MFl_levelOf_100, r_MFl_levelOf_101, r_MFl_levelOf_102, r_MFl_levelOf_103]; rfl
  by_cases c62 : b = 62
  · subst c62; rw [r_MFl_levelOf_1_62]; simp only [r_MFl_levelOf_92, r_MFl_levelOf_93, r_MFl_levelOf_94, r_MFl_levelOf_95, r_MFl_levelOf_96, r_MFl_levelOf_97, r_MFl_levelOf_98, r_MFl_levelOf_99, r_MFl_levelOf_100, r_MFl_levelOf_101, r_MFl_levelOf_102, r_MFl_levelOf_103]; rfl
  by_cases c124 : b = 124
  · subst c124; rw [r_MFl_levelOf_1_124]; simp only [r_MFl_levelOf_92, r_MFl_levelOf_93, r_MFl_levelOf_94, r_MFl_levelOf_95, r_MFl_levelOf_96, r_MFl_levelOf_97, r_MFl_levelOf_98, r_MFl_levelOf_99, r_MFl_levelOf_100, r_MFl_levelOf_101, r_MFl_levelOf_102, r_MFl_levelOf_103]; rfl
  rw [r_MFl_levelOf_1D (by
    rw [Op.lookupswitch.offset_cons, if_neg (ne_t (K := 37) (k := 37) rfl c37), Op.lookupswitch.offset_cons, if_neg (ne_t (K := 38) (k := 38) rfl c38), Op.lookupswitch.offset_cons, if_neg (ne_t (K := 42) (k := 42) rfl c42), Op.lookupswitch.offset_cons, if_neg (ne_t (K := 43) (k := 43) rfl c43), Op.lookupswitch.offset_cons, if_neg (ne_t (K := 45) (k := 45) rfl c45), Op.lookupswitch.offset_cons, if_neg (ne_t (K := 47) (k := 47) rfl c47), Op.lookupswitch.offset_cons, if_neg (ne_t (K := 60) (k := 60) rfl c60), Op.lookupswitch.offset_cons, if_neg (ne_t (K := 61) (k := 61) rfl c61), Op.lookupswitch.offset_cons, if_neg (ne_t (K := 62) (k := 62) rfl c62), Op.lookupswitch.offset_cons, if_neg (ne_t (K := 124) (k := 124) rfl c124), Op.lookupswitch.offset_nil])]
  unfold lvF
  rw [if_neg c37, if_neg c38, if_neg c42, if_neg c43, if_neg c45, if_neg c47, if_neg c60, if_neg c61, if_neg c62, if_neg c124]
  simp only [r_MFl_levelOf_92, r_MFl_levelOf_93, r_MFl_levelOf_94, r_MFl_levelOf_95, r_MFl_levelOf_96, r_MFl_levelOf_97, r_MFl_levelOf_98, r_MFl_levelOf_99, r_MFl_levelOf_100, r_MFl_levelOf_101, r_MFl_levelOf_102, r_MFl_levelOf_103]
theorem lv_cases (c : Int32) : (c = 37 ∨ c = 38 ∨ c = 42 ∨ c = 43 ∨ c = 45 ∨ c = 47 ∨ c = 60 ∨ c = 61 ∨ c = 62 ∨ c = 124) ∨ (lvF c = -1 ∧ ¬ c = 37 ∧ ¬ c = 38 ∧ ¬ c = 42 ∧ ¬ c = 43 ∧ ¬ c = 45 ∧ ¬ c = 47 ∧ ¬ c = 60 ∧ ¬ c = 61 ∧ ¬ c = 62 ∧ ¬ c = 124) := by
  by_cases h : c = 37 ∨ c = 38 ∨ c = 42 ∨ c = 43 ∨ c = 45 ∨ c = 47 ∨ c = 60 ∨ c = 61 ∨ c = 62 ∨ c = 124
  · exact .inl h
  · simp only [not_or] at h
    obtain ⟨h1, h2, h3, h4, h5, h6, h7, h8, h9, h10⟩ := h
    refine .inr ⟨?_, h1, h2, h3, h4, h5, h6, h7, h8, h9, h10⟩
    unfold lvF
    rw [if_neg h1, if_neg h2, if_neg h3, if_neg h4, if_neg h5, if_neg h6, if_neg h7, if_neg h8, if_neg h9, if_neg h10]
theorem lv_4 {c : Int32} : lvF c = 4 ↔ (c = 42 ∨ c = 47 ∨ c = 37) := by
  rcases lv_cases c with (rfl | rfl | rfl | rfl | rfl | rfl | rfl | rfl | rfl | rfl) | ⟨h, n1, n2, n3, n4, n5, n6, n7, n8, n9, n10⟩
  all_goals first | decide | skip
  rw [h]
  exact ⟨fun q => absurd q (by decide), fun q => q.elim (fun q => absurd q n3) (fun q => q.elim (fun q => absurd q n6) (fun q => absurd q n1))⟩
theorem lv_3 {c : Int32} : lvF c = 3 ↔ (c = 43 ∨ c = 45) := by
  rcases lv_cases c with (rfl | rfl | rfl | rfl | rfl | rfl | rfl | rfl | rfl | rfl) | ⟨h, n1, n2, n3, n4, n5, n6, n7, n8, n9, n10⟩
  all_goals first | decide | skip
  rw [h]
  exact ⟨fun q => absurd q (by decide), fun q => q.elim (fun q => absurd q n4) (fun q => absurd q n5)⟩
theorem lv_2 {c : Int32} : lvF c = 2 ↔ (c = 60 ∨ c = 61 ∨ c = 62) := by
  rcases lv_cases c with (rfl | rfl | rfl | rfl | rfl | rfl | rfl | rfl | rfl | rfl) | ⟨h, n1, n2, n3, n4, n5, n6, n7, n8, n9, n10⟩
  all_goals first | decide | skip
  rw [h]
  exact ⟨fun q => absurd q (by decide), fun q => q.elim (fun q => absurd q n7) (fun q => q.elim (fun q => absurd q n8) (fun q => absurd q n9))⟩
theorem lv_1 {c : Int32} : lvF c = 1 ↔ c = 38 := by
  rcases lv_cases c with (rfl | rfl | rfl | rfl | rfl | rfl | rfl | rfl | rfl | rfl) | ⟨h, n1, n2, n3, n4, n5, n6, n7, n8, n9, n10⟩
  all_goals first | decide | skip
  rw [h]
  exact ⟨fun q => absurd q (by decide), fun q => absurd q n2⟩
theorem lv_0 {c : Int32} : lvF c = 0 ↔ c = 124 := by
  rcases lv_cases c with (rfl | rfl | rfl | rfl | rfl | rfl | rfl | rfl | rfl | rfl) | ⟨h, n1, n2, n3, n4, n5, n6, n7, n8, n9, n10⟩
  all_goals first | decide | skip
  rw [h]
  exact ⟨fun q => absurd q (by decide), fun q => absurd q n10⟩
/-- the level of a place's sign, and the model's test -/
theorem lv_sg (hR : RT mu) : (lvF (cb mu h) = nI 4 ↔ isMu (bt mu h) = true) ∧ (lvF (cb mu h) = nI 3 ↔ isSu (bt mu h) = true) ∧ (lvF (cb mu h) = nI 2 ↔ isCp (bt mu h) = true) ∧ (lvF (cb mu h) = nI 1 ↔ isBo (bt mu h) = true) ∧ (lvF (cb mu h) = nI 0 ↔ isEi (bt mu h) = true) := by
  have k := fun (k : Int32) (hk : 0 ≤ k.toInt ∧ k.toInt ≤ 127) => cb_k (h := h) hR hk
  unfold isMu isSu isCp isBo isEi
  simp only [decide_eq_true_eq]
  refine ⟨lv_4.trans ?_, lv_3.trans ?_, lv_2.trans ?_, lv_1.trans ?_, lv_0.trans ?_⟩
  · rw [k 42 (by decide), k 47 (by decide), k 37 (by decide)]
  · rw [k 43 (by decide), k 45 (by decide)]
  · rw [k 60 (by decide), k 61 (by decide), k 62 (by decide)]
  · rw [k 38 (by decide)]
  · rw [k 124 (by decide)]
theorem lv_dig {b : Int32} (h : isD b = true) : lvF b = -1 := by
  have q := of_decide_eq_true h
  rcases lv_cases b with (rfl | rfl | rfl | rfl | rfl | rfl | rfl | rfl | rfl | rfl) | ⟨e, _⟩
  all_goals first | exact e | exact absurd q (by decide)
end
