-- ===== what a floor takes: the class's parts, the model's steps
/-- what is taken of size, out of what a floor gives -/
noncomputable def hd0 (size l : Int32) : Int32 := if 0 < (if l < size then l else size) then (if l < size then l else size) else 0
noncomputable def wv (e : Nat → Int32) (code : List (Int32 × Int32)) : Int32 := (mev e code []).headD 0
/-- what lines give -/
noncomputable def gvL (e : Nat → Int32) : List Ln → Int32
  | [] => 0
  | x :: r => if x.2.1 = 0 then wv e x.1 else if wv e (x.1.take x.2.1) = 0 then gvL e r else wv e (x.1.drop x.2.1)
noncomputable def tkF (e : Nat → Int32) (size : Int32) : List Pt → Nat → Bool → (Nat → Int32) → Int32 × (Nat → Int32)
  | [], _, _, V => (0, V)
  | p :: N, n, b, V =>
    if p.1 = 4 then (if b = true then tkF e size N (n + 1) false V else (hd0 size (gtV V p.2.1), V))
    else if b = true then tkF e size N (n + 1) true V
    else if p.1 = 3 then tkF e size N (n + 1) (decide (gtV V p.2.1 = 0)) V
    else if p.1 = 1 then tkF e size N (n + 1) false V
    else tkF e size N (n + 1) false (upd V n (rsF e p.1 (gtV V p.2.1) (gtV V p.2.2.1)))
/-- a part of a floor -/
def PtP (p : Pt) : Prop := p.1 = 3 ∨ p.1 = 4 ∨ PlP p
/-- numbers of parts are put once -/
def NmP (P : List Pt) : Prop := ∀ p, p ∈ P → PtP p ∧ ∀ v, p.2.2.2 = some v → p.1 = 1
section
variable {e : Nat → Int32} {N N1 N2 R P : List Pt} {n q q1 q2 : Nat} {V : Nat → Int32} {code code1 code2 c1 c2 : List (Int32 × Int32)} {c size l : Int32} {x : Ln}
theorem Sem_wv (h : Sem code N n q) : (∀ st, mev e code st = wv e code :: st) ∧ ∀ V, NumOk N n V → cev e N n V q = wv e code := by
  obtain ⟨_, f, h1, h2, h3⟩ := h
  have ew : wv e code = f e := by
    unfold wv
    rw [h1]
    rfl
  rw [ew]
  exact ⟨h1 e, h3 e⟩
theorem tk_pl : ∀ (N : List Pt) (n : Nat) (V : Nat → Int32), PlN N → tkF e size (N ++ R) n false V = tkF e size R (n + N.length) false (cev e N n V)
  | [], n, V, _ => rfl
  | p :: N, n, V, h => by
    have hp := h p List.mem_cons_self
    have ih := fun V => tk_pl N (n + 1) V (fun x hx => h x (List.mem_cons_of_mem _ hx))
    rw [List.cons_append, tkF, cev, if_neg hp.1.2, if_neg (by decide), if_neg hp.1.1, List.length_cons, show n + (N.length + 1) = n + 1 + N.length by omega]
    by_cases c : p.1 = 1
    · rw [if_pos c, if_pos c, ih]
    · rw [if_neg c, if_neg c, ih]
theorem tk_sk : ∀ (N : List Pt) (n : Nat) (V : Nat → Int32), PlN N → tkF e size (N ++ R) n true V = tkF e size R (n + N.length) true V
  | [], n, V, _ => rfl
  | p :: N, n, V, h => by
    have hp := h p List.mem_cons_self
    have ih := fun V => tk_sk N (n + 1) V (fun x hx => h x (List.mem_cons_of_mem _ hx))
    rw [List.cons_append, tkF, if_neg hp.1.2, if_pos rfl, List.length_cons, show n + (N.length + 1) = n + 1 + N.length by omega, ih]
theorem Num_l {k : Nat} (h : NumOk N k V) (hk : n + N1.length ≤ k) : NumOk N k (cev e N1 n V) := fun i p v h1 h2 => by
  rw [cev_ge _ _ _ _ (by omega)]
  exact h i p v h1 h2
theorem Num_t {p : Pt} (h : NumOk (p :: N) n V) : NumOk N (n + 1) V := fun i x v h1 h2 => by
  have := h (i + 1) x v (by simpa using h1) h2
  rw [show n + 1 + i = n + (i + 1) by omega]
  exact this
theorem take_l {α : Type} (a b : List α) : (a ++ b).take a.length = a := by simp
theorem drop_l {α : Type} (a b : List α) : (a ++ b).drop a.length = b := by simp
theorem hd_0 (h : 0 < size) : hd0 size 0 = 0 := by
  unfold hd0
  rw [if_pos h, if_neg (by decide)]
theorem Sem_q (h : Sem code N n q) : n ≤ q ∧ q < n + N.length := by
  obtain ⟨_, f, h1, h2, h3⟩ := h
  exact h2
theorem tk_gv (hz : 0 < size) : ∀ (ls : List Ln) (n : Nat) (V : Nat → Int32), lnsOkC n ls → n + (ptL ls).length ≤ 121 → NumOk (ptL ls) n V → (tkF e size (ptL ls) n false V).1 = hd0 size (gvL e ls)
  | [], _, _, _, _, _ => (hd_0 hz).symm
  | x :: r, n, V, ⟨k1, k2⟩, hn, hv => by
    rw [ptL] at hn hv ⊢
    rw [List.length_append] at hn
    obtain ⟨v1, v2⟩ := Num_a hv
    rw [gvL]
    rcases k1 with ⟨t0, N1, q, eN, hs⟩ | ⟨tp, c1, c2, N1, N2, q1, q2, ec, et, eN, hs1, hs2⟩
    · rw [if_pos t0]
      rw [eN] at v1 hn ⊢
      rw [List.length_append, List.length_singleton] at hn
      obtain ⟨u1, _⟩ := Num_a v1
      have w := (Sem_wv (e := e) hs).2 V u1
      have hq := Sem_q hs
      rw [List.append_assoc, tk_pl _ _ _ hs.1, List.singleton_append, tkF, if_pos rfl, if_neg (by decide)]
      show hd0 size (gtV (cev e N1 n V) (nI q)) = _
      rw [gt_n (by omega), w]
    · have tn : ¬ x.2.1 = 0 := by omega
      rw [if_neg tn, ec, et, take_l, drop_l]
      rw [eN] at v1 hn ⊢
      simp only [List.length_append, List.length_singleton] at hn
      obtain ⟨a1, _⟩ := Num_a v1
      obtain ⟨a2, a3⟩ := Num_a a1
      obtain ⟨a4, _⟩ := Num_a a2
      have w1 := (Sem_wv (e := e) hs1).2 V a4
      have hq1 := Sem_q hs1
      have hq2 := Sem_q hs2
      rw [List.length_append, List.length_singleton] at a3
      have eA : N1 ++ [(3, nI q1, -1, none)] ++ N2 ++ [(4, nI q2, -1, none)] ++ ptL r = N1 ++ ((3, nI q1, -1, none) :: (N2 ++ ((4, nI q2, -1, none) :: ptL r))) := by simp only [List.append_assoc, List.singleton_append, List.cons_append, List.nil_append]
      rw [eA, tk_pl _ _ _ hs1.1, tkF]
      dsimp only
      rw [if_neg (show ¬ (3 : Int32) = 4 by decide), if_neg (show ¬ false = true by decide), if_pos rfl]
      have g1 : gtV (cev e N1 n V) (nI q1) = wv e c1 := by rw [gt_n (by omega), w1]
      rw [g1]
      by_cases z : wv e c1 = 0
      · rw [if_pos z, decide_eq_true z, tk_sk _ _ _ hs2.1, tkF, if_pos rfl, if_pos rfl]
        have el : n + x.2.2.length = n + N1.length + 1 + N2.length + 1 := by
          rw [eN]
          simp only [List.length_append, List.length_singleton]
          omega
        rw [el] at k2 v2
        exact tk_gv hz r _ _ k2 (by omega) (Num_l v2 (by omega))
      · rw [if_neg z, decide_eq_false z, tk_pl _ _ _ hs2.1, tkF, if_pos rfl, if_neg (by decide)]
        dsimp only
        rw [show n + N1.length + 1 = n + (N1.length + 1) by omega]
        have w2 := (Sem_wv (e := e) hs2).2 (cev e N1 n V) (Num_l a3 (by omega))
        rw [gt_n (by omega), w2]
/-- numbers stand -/
theorem tk_num : ∀ (P : List Pt) (n : Nat) (b : Bool) (V : Nat → Int32), NmP P → ∀ j, (j < n ∨ n + P.length ≤ j ∨ ∃ p v, P[j - n]? = some p ∧ p.2.2.2 = some v) → (tkF e size P n b V).2 j = V j
  | [], _, _, _, _, _, _ => rfl
  | p :: N, n, b, V, h, j, hj => by
    have hp := h p List.mem_cons_self
    have hj' : j < n + 1 ∨ n + 1 + N.length ≤ j ∨ ∃ p v, N[j - (n + 1)]? = some p ∧ p.2.2.2 = some v := by
      rcases hj with q | q | ⟨x, v, q1, q2⟩
      · exact .inl (by omega)
      · rw [List.length_cons] at q; exact .inr (.inl (by omega))
      · by_cases c : j ≤ n
        · exact .inl (by omega)
        · refine .inr (.inr ⟨x, v, ?_, q2⟩)
          rw [show j - n = j - (n + 1) + 1 by omega] at q1
          simpa using q1
    have ih := fun b V => tk_num N (n + 1) b V (fun x hx => h x (List.mem_cons_of_mem _ hx)) j hj'
    rw [tkF]
    split
    · split
      · exact ih _ _
      · rfl
    · split
      · exact ih _ _
      · split
        · exact ih _ _
        · split
          · exact ih _ _
          · rename_i n1
            rw [ih, upd_e]
            split
            · rename_i q
              subst q
              rcases hj with q | q | ⟨x, v, q1, q2⟩
              · omega
              · rw [List.length_cons] at q; omega
              · rw [Nat.sub_self] at q1
                have : p = x := by simpa using q1
                subst this
                exact absurd (hp.2 v q2) n1
            · rfl
theorem NmP_pl (h : PlN N) : NmP N := fun p hp => ⟨.inr (.inr (h p hp)), (h p hp).2.1⟩
theorem NmP_a (h1 : NmP N1) (h2 : NmP N2) : NmP (N1 ++ N2) := fun p hp => by
  rcases List.mem_append.mp hp with h | h
  · exact h1 p h
  · exact h2 p h
theorem NmP_1 {p : Pt} (h : p.1 = 3 ∨ p.1 = 4) (h2 : p.2.2.2 = none) : NmP [p] := fun x hx => by
  rw [List.mem_singleton] at hx
  subst hx
  refine ⟨h.elim .inl (fun q => .inr (.inl q)), fun v q => ?_⟩
  rw [h2] at q
  cases q
theorem NmP_ls : ∀ (ls : List Ln) (n : Nat), lnsOkC n ls → NmP (ptL ls)
  | [], _, _ => fun p hp => by cases hp
  | x :: r, n, ⟨k1, k2⟩ => by
    rw [ptL]
    refine NmP_a ?_ (NmP_ls r _ k2)
    rcases k1 with ⟨t0, N1, q, eN, hs⟩ | ⟨tp, c1, c2, N1, N2, q1, q2, ec, et, eN, hs1, hs2⟩
    · rw [eN]
      exact NmP_a (NmP_pl hs.1) (NmP_1 (.inr rfl) rfl)
    · rw [eN]
      exact NmP_a (NmP_a (NmP_a (NmP_pl hs1.1) (NmP_1 (.inl rfl) rfl)) (NmP_pl hs2.1)) (NmP_1 (.inr rfl) rfl)
end
section
variable {X : Tok} {d : Nat} {mu m m' mu' : Mu} {la la' : La} {ro ro' : Ro} {et : Nat → Option va_E} {a F n k q : Nat} {P : List Pt} {w v c l r x size : Int32} {st : List Int32} {e : Nat → Int32} {code : List (Int32 × Int32)} {ls : List Ln}
-- the class
abbrev flB (a : Nat) : Prop := qI a 3 5 = true ∧ qI a 3 6 = true ∧ qI a 3 7 = true ∧ qI a 3 8 = true ∧ qI a 3 9 = true ∧ qI a 3 10 = true
theorem flB_of {F : Nat} (h : F < 4) : flB (49 + 5 * F) := by
  match F, h with
  | 0, _ => decide
  | 1, _ => decide
  | 2, _ => decide
  | 3, _ => decide
noncomputable def enC (m : Mu) (a : Nat) : Nat → Int32 := fun k => m a (5 + k)
theorem dv_m1 (x : Int32) : x / -1 = -x := Int32.toInt_inj.mp (by rw [Int32.toInt_div, show (-1 : Int32).toInt = -1 from rfl, Int.tdiv_neg, Int.tdiv_one, Int32.toInt_neg])
theorem nm_ca (h : 0 ≤ nmF c) : c = 119 ∨ c = 118 ∨ c = 115 ∨ c = 112 ∨ c = 113 ∨ c = 105 := by
  unfold nmF at h
  by_cases h1 : c = 119
  · exact .inl h1
  by_cases h2 : c = 118
  · exact .inr (.inl h2)
  by_cases h3 : c = 115
  · exact .inr (.inr (.inl h3))
  by_cases h4 : c = 112
  · exact .inr (.inr (.inr (.inl h4)))
  by_cases h5 : c = 113
  · exact .inr (.inr (.inr (.inr (.inl h5))))
  by_cases h6 : c = 105
  · exact .inr (.inr (.inr (.inr (.inr h6))))
  rw [if_neg h1, if_neg h2, if_neg h3, if_neg h4, if_neg h5, if_neg h6] at h
  exact absurd h (by decide)
theorem rs_n : rsF e 119 l r = e 0 ∧ rsF e 118 l r = e 1 ∧ rsF e 115 l r = e 2 ∧ rsF e 112 l r = e 3 ∧ rsF e 113 l r = e 4 ∧ rsF e 105 l r = e 5 := ⟨rfl, rfl, rfl, rfl, rfl, rfl⟩
theorem rs_s (h : siK c) : rsF e c l r = twF c l r := by
  unfold rsF
  rcases h with rfl | rfl | rfl | rfl | rfl | rfl | rfl | rfl | rfl | rfl <;> rfl
set_option maxHeartbeats 4000000 in
theorem e_result (qa : flA a) (qb : flB a) (he : ∀ k, k < 6 → m a (5 + k) = e k) (h : c = 2 ∨ c = 33 ∨ 0 ≤ nmF c ∨ siK c) : Rr X d MFl_result 0 [.ref a, .int c, .int l, .int r] [] (Wd m la ro et) = some (some (.int (rsF e c l r)), Wd m la ro et) := by
  obtain ⟨b5, b6, b7, b8, b9, b10⟩ := qb
  rcases h with rfl | rfl | h | h
  · have e9 : rsF e 2 l r = -l := rfl
    rw [e9]
    simp only [r_MFl_result_0, r_MFl_result_1_2, r_MFl_result_1_33, r_MFl_result_1_37, r_MFl_result_1_38, r_MFl_result_1_42, r_MFl_result_1_43, r_MFl_result_1_45, r_MFl_result_1_47, r_MFl_result_1_60, r_MFl_result_1_61, r_MFl_result_1_62, r_MFl_result_1_105, r_MFl_result_1_112, r_MFl_result_1_113, r_MFl_result_1_115, r_MFl_result_1_118, r_MFl_result_1_119, r_MFl_result_1_124, r_MFl_result_1_m1, r_MFl_result_156, r_MFl_result_157, r_MFl_result_160, r_MFl_result_161, r_MFl_result_162, r_MFl_result_165, r_MFl_result_166, r_MFl_result_167, r_MFl_result_170, r_MFl_result_171, r_MFl_result_172, r_MFl_result_175, r_MFl_result_176, r_MFl_result_177, r_MFl_result_180, r_MFl_result_181, r_MFl_result_182, r_MFl_result_185, r_MFl_result_186, r_MFl_result_187, r_MFl_result_190, r_MFl_result_191, r_MFl_result_194, r_MFl_result_195, r_MFl_result_196, r_MFl_result_197, r_MFl_result_198, r_MFl_result_199, r_MFl_result_200, r_MFl_result_201, r_MFl_result_202, r_MFl_result_203, r_MFl_result_204, r_MFl_result_205, r_MFl_result_206, r_MFl_result_207, r_MFl_result_208, r_MFl_result_209, r_MFl_result_210, r_MFl_result_211, r_MFl_result_212, r_MFl_result_215, r_MFl_result_216, r_MFl_result_219, r_MFl_result_220, r_MFl_result_221, r_MFl_result_222, r_MFl_result_223, r_MFl_result_224, r_MFl_result_227, r_MFl_result_228, r_MFl_result_231, r_MFl_result_232, r_MFl_result_233, r_MFl_result_234, r_MFl_result_235, r_MFl_result_236, r_MFl_result_237, r_MFl_result_240, r_MFl_result_241, r_MFl_result_244, r_MFl_result_245, r_MFl_result_246, r_MFl_result_247, r_MFl_result_248, r_MFl_result_251, r_MFl_result_252, r_MFl_result_255, r_MFl_result_256, r_MFl_result_257, r_MFl_result_258, r_MFl_result_259, r_MFl_result_262, r_MFl_result_263, r_MFl_result_266, r_MFl_result_267, r_MFl_result_268, r_MFl_result_269, r_MFl_result_272, r_MFl_result_273, r_MFl_result_276, r_MFl_result_277, r_MFl_result_280, r_MFl_result_281, r_MFl_result_282, r_MFl_result_283, r_MFl_result_286, r_MFl_result_287, r_MFl_result_290, r_MFl_result_291, r_MFl_result_294, r_MFl_result_295, r_MFl_result_296, r_MFl_result_297, sL_0, sL_1, sL_2, mk_i, mk_r, mk_f, mk_n, mk_u, mk_l, List.set_cons_succ, List.set_cons_zero, Nat.reduceAdd, ckS_0, ckS_1, ckS_2, ckS_3, ckS_4, Option.bind_some, Option.isSome_some, psh, if_true, if_false, i10, not_true_eq_false, not_false_eq_true, Bool.false_eq_true, and_self, and_true, true_and, eq_self]
  · have e9 : rsF e 33 l r = if l = 0 then 1 else 0 := rfl
    rw [e9]
    by_cases c : l = 0
    · simp only [r_MFl_result_0, r_MFl_result_1_2, r_MFl_result_1_33, r_MFl_result_1_37, r_MFl_result_1_38, r_MFl_result_1_42, r_MFl_result_1_43, r_MFl_result_1_45, r_MFl_result_1_47, r_MFl_result_1_60, r_MFl_result_1_61, r_MFl_result_1_62, r_MFl_result_1_105, r_MFl_result_1_112, r_MFl_result_1_113, r_MFl_result_1_115, r_MFl_result_1_118, r_MFl_result_1_119, r_MFl_result_1_124, r_MFl_result_1_m1, r_MFl_result_156, r_MFl_result_157, r_MFl_result_160, r_MFl_result_161, r_MFl_result_162, r_MFl_result_165, r_MFl_result_166, r_MFl_result_167, r_MFl_result_170, r_MFl_result_171, r_MFl_result_172, r_MFl_result_175, r_MFl_result_176, r_MFl_result_177, r_MFl_result_180, r_MFl_result_181, r_MFl_result_182, r_MFl_result_185, r_MFl_result_186, r_MFl_result_187, r_MFl_result_190, r_MFl_result_191, r_MFl_result_194, r_MFl_result_195, r_MFl_result_196, r_MFl_result_197, r_MFl_result_198, r_MFl_result_199, r_MFl_result_200, r_MFl_result_201, r_MFl_result_202, r_MFl_result_203, r_MFl_result_204, r_MFl_result_205, r_MFl_result_206, r_MFl_result_207, r_MFl_result_208, r_MFl_result_209, r_MFl_result_210, r_MFl_result_211, r_MFl_result_212, r_MFl_result_215, r_MFl_result_216, r_MFl_result_219, r_MFl_result_220, r_MFl_result_221, r_MFl_result_222, r_MFl_result_223, r_MFl_result_224, r_MFl_result_227, r_MFl_result_228, r_MFl_result_231, r_MFl_result_232, r_MFl_result_233, r_MFl_result_234, r_MFl_result_235, r_MFl_result_236, r_MFl_result_237, r_MFl_result_240, r_MFl_result_241, r_MFl_result_244, r_MFl_result_245, r_MFl_result_246, r_MFl_result_247, r_MFl_result_248, r_MFl_result_251, r_MFl_result_252, r_MFl_result_255, r_MFl_result_256, r_MFl_result_257, r_MFl_result_258, r_MFl_result_259, r_MFl_result_262, r_MFl_result_263, r_MFl_result_266, r_MFl_result_267, r_MFl_result_268, r_MFl_result_269, r_MFl_result_272, r_MFl_result_273, r_MFl_result_276, r_MFl_result_277, r_MFl_result_280, r_MFl_result_281, r_MFl_result_282, r_MFl_result_283, r_MFl_result_286, r_MFl_result_287, r_MFl_result_290, r_MFl_result_291, r_MFl_result_294, r_MFl_result_295, r_MFl_result_296, r_MFl_result_297, sL_0, sL_1, sL_2, mk_i, mk_r, mk_f, mk_n, mk_u, mk_l, List.set_cons_succ, List.set_cons_zero, Nat.reduceAdd, ckS_0, ckS_1, ckS_2, ckS_3, ckS_4, Option.bind_some, Option.isSome_some, psh, if_true, if_false, i10, not_true_eq_false, not_false_eq_true, Bool.false_eq_true, and_self, and_true, true_and, eq_self, c]
    · simp only [r_MFl_result_0, r_MFl_result_1_2, r_MFl_result_1_33, r_MFl_result_1_37, r_MFl_result_1_38, r_MFl_result_1_42, r_MFl_result_1_43, r_MFl_result_1_45, r_MFl_result_1_47, r_MFl_result_1_60, r_MFl_result_1_61, r_MFl_result_1_62, r_MFl_result_1_105, r_MFl_result_1_112, r_MFl_result_1_113, r_MFl_result_1_115, r_MFl_result_1_118, r_MFl_result_1_119, r_MFl_result_1_124, r_MFl_result_1_m1, r_MFl_result_156, r_MFl_result_157, r_MFl_result_160, r_MFl_result_161, r_MFl_result_162, r_MFl_result_165, r_MFl_result_166, r_MFl_result_167, r_MFl_result_170, r_MFl_result_171, r_MFl_result_172, r_MFl_result_175, r_MFl_result_176, r_MFl_result_177, r_MFl_result_180, r_MFl_result_181, r_MFl_result_182, r_MFl_result_185, r_MFl_result_186, r_MFl_result_187, r_MFl_result_190, r_MFl_result_191, r_MFl_result_194, r_MFl_result_195, r_MFl_result_196, r_MFl_result_197, r_MFl_result_198, r_MFl_result_199, r_MFl_result_200, r_MFl_result_201, r_MFl_result_202, r_MFl_result_203, r_MFl_result_204, r_MFl_result_205, r_MFl_result_206, r_MFl_result_207, r_MFl_result_208, r_MFl_result_209, r_MFl_result_210, r_MFl_result_211, r_MFl_result_212, r_MFl_result_215, r_MFl_result_216, r_MFl_result_219, r_MFl_result_220, r_MFl_result_221, r_MFl_result_222, r_MFl_result_223, r_MFl_result_224, r_MFl_result_227, r_MFl_result_228, r_MFl_result_231, r_MFl_result_232, r_MFl_result_233, r_MFl_result_234, r_MFl_result_235, r_MFl_result_236, r_MFl_result_237, r_MFl_result_240, r_MFl_result_241, r_MFl_result_244, r_MFl_result_245, r_MFl_result_246, r_MFl_result_247, r_MFl_result_248, r_MFl_result_251, r_MFl_result_252, r_MFl_result_255, r_MFl_result_256, r_MFl_result_257, r_MFl_result_258, r_MFl_result_259, r_MFl_result_262, r_MFl_result_263, r_MFl_result_266, r_MFl_result_267, r_MFl_result_268, r_MFl_result_269, r_MFl_result_272, r_MFl_result_273, r_MFl_result_276, r_MFl_result_277, r_MFl_result_280, r_MFl_result_281, r_MFl_result_282, r_MFl_result_283, r_MFl_result_286, r_MFl_result_287, r_MFl_result_290, r_MFl_result_291, r_MFl_result_294, r_MFl_result_295, r_MFl_result_296, r_MFl_result_297, sL_0, sL_1, sL_2, mk_i, mk_r, mk_f, mk_n, mk_u, mk_l, List.set_cons_succ, List.set_cons_zero, Nat.reduceAdd, ckS_0, ckS_1, ckS_2, ckS_3, ckS_4, Option.bind_some, Option.isSome_some, psh, if_true, if_false, i10, not_true_eq_false, not_false_eq_true, Bool.false_eq_true, and_self, and_true, true_and, eq_self, c]
  · obtain ⟨n1, n2, n3, n4, n5, n6⟩ := rs_n (e := e) (l := l) (r := r)
    have u0 : m a 5 = e 0 := he 0 (by omega)
    have u1 : m a 6 = e 1 := he 1 (by omega)
    have u2 : m a 7 = e 2 := he 2 (by omega)
    have u3 : m a 8 = e 3 := he 3 (by omega)
    have u4 : m a 9 = e 4 := he 4 (by omega)
    have u5 : m a 10 = e 5 := he 5 (by omega)
    rcases nm_ca h with rfl | rfl | rfl | rfl | rfl | rfl
    · rw [n1]; simp only [r_MFl_result_0, r_MFl_result_1_2, r_MFl_result_1_33, r_MFl_result_1_37, r_MFl_result_1_38, r_MFl_result_1_42, r_MFl_result_1_43, r_MFl_result_1_45, r_MFl_result_1_47, r_MFl_result_1_60, r_MFl_result_1_61, r_MFl_result_1_62, r_MFl_result_1_105, r_MFl_result_1_112, r_MFl_result_1_113, r_MFl_result_1_115, r_MFl_result_1_118, r_MFl_result_1_119, r_MFl_result_1_124, r_MFl_result_1_m1, r_MFl_result_156, r_MFl_result_157, r_MFl_result_160, r_MFl_result_161, r_MFl_result_162, r_MFl_result_165, r_MFl_result_166, r_MFl_result_167, r_MFl_result_170, r_MFl_result_171, r_MFl_result_172, r_MFl_result_175, r_MFl_result_176, r_MFl_result_177, r_MFl_result_180, r_MFl_result_181, r_MFl_result_182, r_MFl_result_185, r_MFl_result_186, r_MFl_result_187, r_MFl_result_190, r_MFl_result_191, r_MFl_result_194, r_MFl_result_195, r_MFl_result_196, r_MFl_result_197, r_MFl_result_198, r_MFl_result_199, r_MFl_result_200, r_MFl_result_201, r_MFl_result_202, r_MFl_result_203, r_MFl_result_204, r_MFl_result_205, r_MFl_result_206, r_MFl_result_207, r_MFl_result_208, r_MFl_result_209, r_MFl_result_210, r_MFl_result_211, r_MFl_result_212, r_MFl_result_215, r_MFl_result_216, r_MFl_result_219, r_MFl_result_220, r_MFl_result_221, r_MFl_result_222, r_MFl_result_223, r_MFl_result_224, r_MFl_result_227, r_MFl_result_228, r_MFl_result_231, r_MFl_result_232, r_MFl_result_233, r_MFl_result_234, r_MFl_result_235, r_MFl_result_236, r_MFl_result_237, r_MFl_result_240, r_MFl_result_241, r_MFl_result_244, r_MFl_result_245, r_MFl_result_246, r_MFl_result_247, r_MFl_result_248, r_MFl_result_251, r_MFl_result_252, r_MFl_result_255, r_MFl_result_256, r_MFl_result_257, r_MFl_result_258, r_MFl_result_259, r_MFl_result_262, r_MFl_result_263, r_MFl_result_266, r_MFl_result_267, r_MFl_result_268, r_MFl_result_269, r_MFl_result_272, r_MFl_result_273, r_MFl_result_276, r_MFl_result_277, r_MFl_result_280, r_MFl_result_281, r_MFl_result_282, r_MFl_result_283, r_MFl_result_286, r_MFl_result_287, r_MFl_result_290, r_MFl_result_291, r_MFl_result_294, r_MFl_result_295, r_MFl_result_296, r_MFl_result_297, sL_0, sL_1, sL_2, mk_i, mk_r, mk_f, mk_n, mk_u, mk_l, List.set_cons_succ, List.set_cons_zero, Nat.reduceAdd, ckS_0, ckS_1, ckS_2, ckS_3, ckS_4, Option.bind_some, Option.isSome_some, psh, if_true, if_false, i10, not_true_eq_false, not_false_eq_true, Bool.false_eq_true, and_self, and_true, true_and, eq_self, b5, u0]
    · rw [n2]; simp only [r_MFl_result_0, r_MFl_result_1_2, r_MFl_result_1_33, r_MFl_result_1_37, r_MFl_result_1_38, r_MFl_result_1_42, r_MFl_result_1_43, r_MFl_result_1_45, r_MFl_result_1_47, r_MFl_result_1_60, r_MFl_result_1_61, r_MFl_result_1_62, r_MFl_result_1_105, r_MFl_result_1_112, r_MFl_result_1_113, r_MFl_result_1_115, r_MFl_result_1_118, r_MFl_result_1_119, r_MFl_result_1_124, r_MFl_result_1_m1, r_MFl_result_156, r_MFl_result_157, r_MFl_result_160, r_MFl_result_161, r_MFl_result_162, r_MFl_result_165, r_MFl_result_166, r_MFl_result_167, r_MFl_result_170, r_MFl_result_171, r_MFl_result_172, r_MFl_result_175, r_MFl_result_176, r_MFl_result_177, r_MFl_result_180, r_MFl_result_181, r_MFl_result_182, r_MFl_result_185, r_MFl_result_186, r_MFl_result_187, r_MFl_result_190, r_MFl_result_191, r_MFl_result_194, r_MFl_result_195, r_MFl_result_196, r_MFl_result_197, r_MFl_result_198, r_MFl_result_199, r_MFl_result_200, r_MFl_result_201, r_MFl_result_202, r_MFl_result_203, r_MFl_result_204, r_MFl_result_205, r_MFl_result_206, r_MFl_result_207, r_MFl_result_208, r_MFl_result_209, r_MFl_result_210, r_MFl_result_211, r_MFl_result_212, r_MFl_result_215, r_MFl_result_216, r_MFl_result_219, r_MFl_result_220, r_MFl_result_221, r_MFl_result_222, r_MFl_result_223, r_MFl_result_224, r_MFl_result_227, r_MFl_result_228, r_MFl_result_231, r_MFl_result_232, r_MFl_result_233, r_MFl_result_234, r_MFl_result_235, r_MFl_result_236, r_MFl_result_237, r_MFl_result_240, r_MFl_result_241, r_MFl_result_244, r_MFl_result_245, r_MFl_result_246, r_MFl_result_247, r_MFl_result_248, r_MFl_result_251, r_MFl_result_252, r_MFl_result_255, r_MFl_result_256, r_MFl_result_257, r_MFl_result_258, r_MFl_result_259, r_MFl_result_262, r_MFl_result_263, r_MFl_result_266, r_MFl_result_267, r_MFl_result_268, r_MFl_result_269, r_MFl_result_272, r_MFl_result_273, r_MFl_result_276, r_MFl_result_277, r_MFl_result_280, r_MFl_result_281, r_MFl_result_282, r_MFl_result_283, r_MFl_result_286, r_MFl_result_287, r_MFl_result_290, r_MFl_result_291, r_MFl_result_294, r_MFl_result_295, r_MFl_result_296, r_MFl_result_297, sL_0, sL_1, sL_2, mk_i, mk_r, mk_f, mk_n, mk_u, mk_l, List.set_cons_succ, List.set_cons_zero, Nat.reduceAdd, ckS_0, ckS_1, ckS_2, ckS_3, ckS_4, Option.bind_some, Option.isSome_some, psh, if_true, if_false, i10, not_true_eq_false, not_false_eq_true, Bool.false_eq_true, and_self, and_true, true_and, eq_self, b6, u1]
    · rw [n3]; simp only [r_MFl_result_0, r_MFl_result_1_2, r_MFl_result_1_33, r_MFl_result_1_37, r_MFl_result_1_38, r_MFl_result_1_42, r_MFl_result_1_43, r_MFl_result_1_45, r_MFl_result_1_47, r_MFl_result_1_60, r_MFl_result_1_61, r_MFl_result_1_62, r_MFl_result_1_105, r_MFl_result_1_112, r_MFl_result_1_113, r_MFl_result_1_115, r_MFl_result_1_118, r_MFl_result_1_119, r_MFl_result_1_124, r_MFl_result_1_m1, r_MFl_result_156, r_MFl_result_157, r_MFl_result_160, r_MFl_result_161, r_MFl_result_162, r_MFl_result_165, r_MFl_result_166, r_MFl_result_167, r_MFl_result_170, r_MFl_result_171, r_MFl_result_172, r_MFl_result_175, r_MFl_result_176, r_MFl_result_177, r_MFl_result_180, r_MFl_result_181, r_MFl_result_182, r_MFl_result_185, r_MFl_result_186, r_MFl_result_187, r_MFl_result_190, r_MFl_result_191, r_MFl_result_194, r_MFl_result_195, r_MFl_result_196, r_MFl_result_197, r_MFl_result_198, r_MFl_result_199, r_MFl_result_200, r_MFl_result_201, r_MFl_result_202, r_MFl_result_203, r_MFl_result_204, r_MFl_result_205, r_MFl_result_206, r_MFl_result_207, r_MFl_result_208, r_MFl_result_209, r_MFl_result_210, r_MFl_result_211, r_MFl_result_212, r_MFl_result_215, r_MFl_result_216, r_MFl_result_219, r_MFl_result_220, r_MFl_result_221, r_MFl_result_222, r_MFl_result_223, r_MFl_result_224, r_MFl_result_227, r_MFl_result_228, r_MFl_result_231, r_MFl_result_232, r_MFl_result_233, r_MFl_result_234, r_MFl_result_235, r_MFl_result_236, r_MFl_result_237, r_MFl_result_240, r_MFl_result_241, r_MFl_result_244, r_MFl_result_245, r_MFl_result_246, r_MFl_result_247, r_MFl_result_248, r_MFl_result_251, r_MFl_result_252, r_MFl_result_255, r_MFl_result_256, r_MFl_result_257, r_MFl_result_258, r_MFl_result_259, r_MFl_result_262, r_MFl_result_263, r_MFl_result_266, r_MFl_result_267, r_MFl_result_268, r_MFl_result_269, r_MFl_result_272, r_MFl_result_273, r_MFl_result_276, r_MFl_result_277, r_MFl_result_280, r_MFl_result_281, r_MFl_result_282, r_MFl_result_283, r_MFl_result_286, r_MFl_result_287, r_MFl_result_290, r_MFl_result_291, r_MFl_result_294, r_MFl_result_295, r_MFl_result_296, r_MFl_result_297, sL_0, sL_1, sL_2, mk_i, mk_r, mk_f, mk_n, mk_u, mk_l, List.set_cons_succ, List.set_cons_zero, Nat.reduceAdd, ckS_0, ckS_1, ckS_2, ckS_3, ckS_4, Option.bind_some, Option.isSome_some, psh, if_true, if_false, i10, not_true_eq_false, not_false_eq_true, Bool.false_eq_true, and_self, and_true, true_and, eq_self, b7, u2]
    · rw [n4]; simp only [r_MFl_result_0, r_MFl_result_1_2, r_MFl_result_1_33, r_MFl_result_1_37, r_MFl_result_1_38, r_MFl_result_1_42, r_MFl_result_1_43, r_MFl_result_1_45, r_MFl_result_1_47, r_MFl_result_1_60, r_MFl_result_1_61, r_MFl_result_1_62, r_MFl_result_1_105, r_MFl_result_1_112, r_MFl_result_1_113, r_MFl_result_1_115, r_MFl_result_1_118, r_MFl_result_1_119, r_MFl_result_1_124, r_MFl_result_1_m1, r_MFl_result_156, r_MFl_result_157, r_MFl_result_160, r_MFl_result_161, r_MFl_result_162, r_MFl_result_165, r_MFl_result_166, r_MFl_result_167, r_MFl_result_170, r_MFl_result_171, r_MFl_result_172, r_MFl_result_175, r_MFl_result_176, r_MFl_result_177, r_MFl_result_180, r_MFl_result_181, r_MFl_result_182, r_MFl_result_185, r_MFl_result_186, r_MFl_result_187, r_MFl_result_190, r_MFl_result_191, r_MFl_result_194, r_MFl_result_195, r_MFl_result_196, r_MFl_result_197, r_MFl_result_198, r_MFl_result_199, r_MFl_result_200, r_MFl_result_201, r_MFl_result_202, r_MFl_result_203, r_MFl_result_204, r_MFl_result_205, r_MFl_result_206, r_MFl_result_207, r_MFl_result_208, r_MFl_result_209, r_MFl_result_210, r_MFl_result_211, r_MFl_result_212, r_MFl_result_215, r_MFl_result_216, r_MFl_result_219, r_MFl_result_220, r_MFl_result_221, r_MFl_result_222, r_MFl_result_223, r_MFl_result_224, r_MFl_result_227, r_MFl_result_228, r_MFl_result_231, r_MFl_result_232, r_MFl_result_233, r_MFl_result_234, r_MFl_result_235, r_MFl_result_236, r_MFl_result_237, r_MFl_result_240, r_MFl_result_241, r_MFl_result_244, r_MFl_result_245, r_MFl_result_246, r_MFl_result_247, r_MFl_result_248, r_MFl_result_251, r_MFl_result_252, r_MFl_result_255, r_MFl_result_256, r_MFl_result_257, r_MFl_result_258, r_MFl_result_259, r_MFl_result_262, r_MFl_result_263, r_MFl_result_266, r_MFl_result_267, r_MFl_result_268, r_MFl_result_269, r_MFl_result_272, r_MFl_result_273, r_MFl_result_276, r_MFl_result_277, r_MFl_result_280, r_MFl_result_281, r_MFl_result_282, r_MFl_result_283, r_MFl_result_286, r_MFl_result_287, r_MFl_result_290, r_MFl_result_291, r_MFl_result_294, r_MFl_result_295, r_MFl_result_296, r_MFl_result_297, sL_0, sL_1, sL_2, mk_i, mk_r, mk_f, mk_n, mk_u, mk_l, List.set_cons_succ, List.set_cons_zero, Nat.reduceAdd, ckS_0, ckS_1, ckS_2, ckS_3, ckS_4, Option.bind_some, Option.isSome_some, psh, if_true, if_false, i10, not_true_eq_false, not_false_eq_true, Bool.false_eq_true, and_self, and_true, true_and, eq_self, b8, u3]
    · rw [n5]; simp only [r_MFl_result_0, r_MFl_result_1_2, r_MFl_result_1_33, r_MFl_result_1_37, r_MFl_result_1_38, r_MFl_result_1_42, r_MFl_result_1_43, r_MFl_result_1_45, r_MFl_result_1_47, r_MFl_result_1_60, r_MFl_result_1_61, r_MFl_result_1_62, r_MFl_result_1_105, r_MFl_result_1_112, r_MFl_result_1_113, r_MFl_result_1_115, r_MFl_result_1_118, r_MFl_result_1_119, r_MFl_result_1_124, r_MFl_result_1_m1, r_MFl_result_156, r_MFl_result_157, r_MFl_result_160, r_MFl_result_161, r_MFl_result_162, r_MFl_result_165, r_MFl_result_166, r_MFl_result_167, r_MFl_result_170, r_MFl_result_171, r_MFl_result_172, r_MFl_result_175, r_MFl_result_176, r_MFl_result_177, r_MFl_result_180, r_MFl_result_181, r_MFl_result_182, r_MFl_result_185, r_MFl_result_186, r_MFl_result_187, r_MFl_result_190, r_MFl_result_191, r_MFl_result_194, r_MFl_result_195, r_MFl_result_196, r_MFl_result_197, r_MFl_result_198, r_MFl_result_199, r_MFl_result_200, r_MFl_result_201, r_MFl_result_202, r_MFl_result_203, r_MFl_result_204, r_MFl_result_205, r_MFl_result_206, r_MFl_result_207, r_MFl_result_208, r_MFl_result_209, r_MFl_result_210, r_MFl_result_211, r_MFl_result_212, r_MFl_result_215, r_MFl_result_216, r_MFl_result_219, r_MFl_result_220, r_MFl_result_221, r_MFl_result_222, r_MFl_result_223, r_MFl_result_224, r_MFl_result_227, r_MFl_result_228, r_MFl_result_231, r_MFl_result_232, r_MFl_result_233, r_MFl_result_234, r_MFl_result_235, r_MFl_result_236, r_MFl_result_237, r_MFl_result_240, r_MFl_result_241, r_MFl_result_244, r_MFl_result_245, r_MFl_result_246, r_MFl_result_247, r_MFl_result_248, r_MFl_result_251, r_MFl_result_252, r_MFl_result_255, r_MFl_result_256, r_MFl_result_257, r_MFl_result_258, r_MFl_result_259, r_MFl_result_262, r_MFl_result_263, r_MFl_result_266, r_MFl_result_267, r_MFl_result_268, r_MFl_result_269, r_MFl_result_272, r_MFl_result_273, r_MFl_result_276, r_MFl_result_277, r_MFl_result_280, r_MFl_result_281, r_MFl_result_282, r_MFl_result_283, r_MFl_result_286, r_MFl_result_287, r_MFl_result_290, r_MFl_result_291, r_MFl_result_294, r_MFl_result_295, r_MFl_result_296, r_MFl_result_297, sL_0, sL_1, sL_2, mk_i, mk_r, mk_f, mk_n, mk_u, mk_l, List.set_cons_succ, List.set_cons_zero, Nat.reduceAdd, ckS_0, ckS_1, ckS_2, ckS_3, ckS_4, Option.bind_some, Option.isSome_some, psh, if_true, if_false, i10, not_true_eq_false, not_false_eq_true, Bool.false_eq_true, and_self, and_true, true_and, eq_self, b9, u4]
    · rw [n6]; simp only [r_MFl_result_0, r_MFl_result_1_2, r_MFl_result_1_33, r_MFl_result_1_37, r_MFl_result_1_38, r_MFl_result_1_42, r_MFl_result_1_43, r_MFl_result_1_45, r_MFl_result_1_47, r_MFl_result_1_60, r_MFl_result_1_61, r_MFl_result_1_62, r_MFl_result_1_105, r_MFl_result_1_112, r_MFl_result_1_113, r_MFl_result_1_115, r_MFl_result_1_118, r_MFl_result_1_119, r_MFl_result_1_124, r_MFl_result_1_m1, r_MFl_result_156, r_MFl_result_157, r_MFl_result_160, r_MFl_result_161, r_MFl_result_162, r_MFl_result_165, r_MFl_result_166, r_MFl_result_167, r_MFl_result_170, r_MFl_result_171, r_MFl_result_172, r_MFl_result_175, r_MFl_result_176, r_MFl_result_177, r_MFl_result_180, r_MFl_result_181, r_MFl_result_182, r_MFl_result_185, r_MFl_result_186, r_MFl_result_187, r_MFl_result_190, r_MFl_result_191, r_MFl_result_194, r_MFl_result_195, r_MFl_result_196, r_MFl_result_197, r_MFl_result_198, r_MFl_result_199, r_MFl_result_200, r_MFl_result_201, r_MFl_result_202, r_MFl_result_203, r_MFl_result_204, r_MFl_result_205, r_MFl_result_206, r_MFl_result_207, r_MFl_result_208, r_MFl_result_209, r_MFl_result_210, r_MFl_result_211, r_MFl_result_212, r_MFl_result_215, r_MFl_result_216, r_MFl_result_219, r_MFl_result_220, r_MFl_result_221, r_MFl_result_222, r_MFl_result_223, r_MFl_result_224, r_MFl_result_227, r_MFl_result_228, r_MFl_result_231, r_MFl_result_232, r_MFl_result_233, r_MFl_result_234, r_MFl_result_235, r_MFl_result_236, r_MFl_result_237, r_MFl_result_240, r_MFl_result_241, r_MFl_result_244, r_MFl_result_245, r_MFl_result_246, r_MFl_result_247, r_MFl_result_248, r_MFl_result_251, r_MFl_result_252, r_MFl_result_255, r_MFl_result_256, r_MFl_result_257, r_MFl_result_258, r_MFl_result_259, r_MFl_result_262, r_MFl_result_263, r_MFl_result_266, r_MFl_result_267, r_MFl_result_268, r_MFl_result_269, r_MFl_result_272, r_MFl_result_273, r_MFl_result_276, r_MFl_result_277, r_MFl_result_280, r_MFl_result_281, r_MFl_result_282, r_MFl_result_283, r_MFl_result_286, r_MFl_result_287, r_MFl_result_290, r_MFl_result_291, r_MFl_result_294, r_MFl_result_295, r_MFl_result_296, r_MFl_result_297, sL_0, sL_1, sL_2, mk_i, mk_r, mk_f, mk_n, mk_u, mk_l, List.set_cons_succ, List.set_cons_zero, Nat.reduceAdd, ckS_0, ckS_1, ckS_2, ckS_3, ckS_4, Option.bind_some, Option.isSome_some, psh, if_true, if_false, i10, not_true_eq_false, not_false_eq_true, Bool.false_eq_true, and_self, and_true, true_and, eq_self, b10, u5]
  · rw [rs_s h]
    rcases h with rfl | rfl | rfl | rfl | rfl | rfl | rfl | rfl | rfl | rfl
    · have e9 : twF 37 l r = if r = 0 then 0 else if r = -1 then 0 else l - l / r * r := rfl
      rw [e9]
      by_cases c : r = 0
      · simp only [r_MFl_result_0, r_MFl_result_1_2, r_MFl_result_1_33, r_MFl_result_1_37, r_MFl_result_1_38, r_MFl_result_1_42, r_MFl_result_1_43, r_MFl_result_1_45, r_MFl_result_1_47, r_MFl_result_1_60, r_MFl_result_1_61, r_MFl_result_1_62, r_MFl_result_1_105, r_MFl_result_1_112, r_MFl_result_1_113, r_MFl_result_1_115, r_MFl_result_1_118, r_MFl_result_1_119, r_MFl_result_1_124, r_MFl_result_1_m1, r_MFl_result_156, r_MFl_result_157, r_MFl_result_160, r_MFl_result_161, r_MFl_result_162, r_MFl_result_165, r_MFl_result_166, r_MFl_result_167, r_MFl_result_170, r_MFl_result_171, r_MFl_result_172, r_MFl_result_175, r_MFl_result_176, r_MFl_result_177, r_MFl_result_180, r_MFl_result_181, r_MFl_result_182, r_MFl_result_185, r_MFl_result_186, r_MFl_result_187, r_MFl_result_190, r_MFl_result_191, r_MFl_result_194, r_MFl_result_195, r_MFl_result_196, r_MFl_result_197, r_MFl_result_198, r_MFl_result_199, r_MFl_result_200, r_MFl_result_201, r_MFl_result_202, r_MFl_result_203, r_MFl_result_204, r_MFl_result_205, r_MFl_result_206, r_MFl_result_207, r_MFl_result_208, r_MFl_result_209, r_MFl_result_210, r_MFl_result_211, r_MFl_result_212, r_MFl_result_215, r_MFl_result_216, r_MFl_result_219, r_MFl_result_220, r_MFl_result_221, r_MFl_result_222, r_MFl_result_223, r_MFl_result_224, r_MFl_result_227, r_MFl_result_228, r_MFl_result_231, r_MFl_result_232, r_MFl_result_233, r_MFl_result_234, r_MFl_result_235, r_MFl_result_236, r_MFl_result_237, r_MFl_result_240, r_MFl_result_241, r_MFl_result_244, r_MFl_result_245, r_MFl_result_246, r_MFl_result_247, r_MFl_result_248, r_MFl_result_251, r_MFl_result_252, r_MFl_result_255, r_MFl_result_256, r_MFl_result_257, r_MFl_result_258, r_MFl_result_259, r_MFl_result_262, r_MFl_result_263, r_MFl_result_266, r_MFl_result_267, r_MFl_result_268, r_MFl_result_269, r_MFl_result_272, r_MFl_result_273, r_MFl_result_276, r_MFl_result_277, r_MFl_result_280, r_MFl_result_281, r_MFl_result_282, r_MFl_result_283, r_MFl_result_286, r_MFl_result_287, r_MFl_result_290, r_MFl_result_291, r_MFl_result_294, r_MFl_result_295, r_MFl_result_296, r_MFl_result_297, sL_0, sL_1, sL_2, mk_i, mk_r, mk_f, mk_n, mk_u, mk_l, List.set_cons_succ, List.set_cons_zero, Nat.reduceAdd, ckS_0, ckS_1, ckS_2, ckS_3, ckS_4, Option.bind_some, Option.isSome_some, psh, if_true, if_false, i10, not_true_eq_false, not_false_eq_true, Bool.false_eq_true, and_self, and_true, true_and, eq_self, c]
      · by_cases c1 : r = -1
        · have z : l - l / -1 * -1 = 0 := by rw [dv_m1, Int32.neg_mul_neg, Int32.mul_one, Int32.sub_self]
          subst c1
          have z0 : ((-1 : Int32) = 0) = False := eq_false (by decide)
          simp only [r_MFl_result_0, r_MFl_result_1_2, r_MFl_result_1_33, r_MFl_result_1_37, r_MFl_result_1_38, r_MFl_result_1_42, r_MFl_result_1_43, r_MFl_result_1_45, r_MFl_result_1_47, r_MFl_result_1_60, r_MFl_result_1_61, r_MFl_result_1_62, r_MFl_result_1_105, r_MFl_result_1_112, r_MFl_result_1_113, r_MFl_result_1_115, r_MFl_result_1_118, r_MFl_result_1_119, r_MFl_result_1_124, r_MFl_result_1_m1, r_MFl_result_156, r_MFl_result_157, r_MFl_result_160, r_MFl_result_161, r_MFl_result_162, r_MFl_result_165, r_MFl_result_166, r_MFl_result_167, r_MFl_result_170, r_MFl_result_171, r_MFl_result_172, r_MFl_result_175, r_MFl_result_176, r_MFl_result_177, r_MFl_result_180, r_MFl_result_181, r_MFl_result_182, r_MFl_result_185, r_MFl_result_186, r_MFl_result_187, r_MFl_result_190, r_MFl_result_191, r_MFl_result_194, r_MFl_result_195, r_MFl_result_196, r_MFl_result_197, r_MFl_result_198, r_MFl_result_199, r_MFl_result_200, r_MFl_result_201, r_MFl_result_202, r_MFl_result_203, r_MFl_result_204, r_MFl_result_205, r_MFl_result_206, r_MFl_result_207, r_MFl_result_208, r_MFl_result_209, r_MFl_result_210, r_MFl_result_211, r_MFl_result_212, r_MFl_result_215, r_MFl_result_216, r_MFl_result_219, r_MFl_result_220, r_MFl_result_221, r_MFl_result_222, r_MFl_result_223, r_MFl_result_224, r_MFl_result_227, r_MFl_result_228, r_MFl_result_231, r_MFl_result_232, r_MFl_result_233, r_MFl_result_234, r_MFl_result_235, r_MFl_result_236, r_MFl_result_237, r_MFl_result_240, r_MFl_result_241, r_MFl_result_244, r_MFl_result_245, r_MFl_result_246, r_MFl_result_247, r_MFl_result_248, r_MFl_result_251, r_MFl_result_252, r_MFl_result_255, r_MFl_result_256, r_MFl_result_257, r_MFl_result_258, r_MFl_result_259, r_MFl_result_262, r_MFl_result_263, r_MFl_result_266, r_MFl_result_267, r_MFl_result_268, r_MFl_result_269, r_MFl_result_272, r_MFl_result_273, r_MFl_result_276, r_MFl_result_277, r_MFl_result_280, r_MFl_result_281, r_MFl_result_282, r_MFl_result_283, r_MFl_result_286, r_MFl_result_287, r_MFl_result_290, r_MFl_result_291, r_MFl_result_294, r_MFl_result_295, r_MFl_result_296, r_MFl_result_297, sL_0, sL_1, sL_2, mk_i, mk_r, mk_f, mk_n, mk_u, mk_l, List.set_cons_succ, List.set_cons_zero, Nat.reduceAdd, ckS_0, ckS_1, ckS_2, ckS_3, ckS_4, Option.bind_some, Option.isSome_some, psh, if_true, if_false, i10, not_true_eq_false, not_false_eq_true, Bool.false_eq_true, and_self, and_true, true_and, eq_self, z0, z]
        · simp only [r_MFl_result_0, r_MFl_result_1_2, r_MFl_result_1_33, r_MFl_result_1_37, r_MFl_result_1_38, r_MFl_result_1_42, r_MFl_result_1_43, r_MFl_result_1_45, r_MFl_result_1_47, r_MFl_result_1_60, r_MFl_result_1_61, r_MFl_result_1_62, r_MFl_result_1_105, r_MFl_result_1_112, r_MFl_result_1_113, r_MFl_result_1_115, r_MFl_result_1_118, r_MFl_result_1_119, r_MFl_result_1_124, r_MFl_result_1_m1, r_MFl_result_156, r_MFl_result_157, r_MFl_result_160, r_MFl_result_161, r_MFl_result_162, r_MFl_result_165, r_MFl_result_166, r_MFl_result_167, r_MFl_result_170, r_MFl_result_171, r_MFl_result_172, r_MFl_result_175, r_MFl_result_176, r_MFl_result_177, r_MFl_result_180, r_MFl_result_181, r_MFl_result_182, r_MFl_result_185, r_MFl_result_186, r_MFl_result_187, r_MFl_result_190, r_MFl_result_191, r_MFl_result_194, r_MFl_result_195, r_MFl_result_196, r_MFl_result_197, r_MFl_result_198, r_MFl_result_199, r_MFl_result_200, r_MFl_result_201, r_MFl_result_202, r_MFl_result_203, r_MFl_result_204, r_MFl_result_205, r_MFl_result_206, r_MFl_result_207, r_MFl_result_208, r_MFl_result_209, r_MFl_result_210, r_MFl_result_211, r_MFl_result_212, r_MFl_result_215, r_MFl_result_216, r_MFl_result_219, r_MFl_result_220, r_MFl_result_221, r_MFl_result_222, r_MFl_result_223, r_MFl_result_224, r_MFl_result_227, r_MFl_result_228, r_MFl_result_231, r_MFl_result_232, r_MFl_result_233, r_MFl_result_234, r_MFl_result_235, r_MFl_result_236, r_MFl_result_237, r_MFl_result_240, r_MFl_result_241, r_MFl_result_244, r_MFl_result_245, r_MFl_result_246, r_MFl_result_247, r_MFl_result_248, r_MFl_result_251, r_MFl_result_252, r_MFl_result_255, r_MFl_result_256, r_MFl_result_257, r_MFl_result_258, r_MFl_result_259, r_MFl_result_262, r_MFl_result_263, r_MFl_result_266, r_MFl_result_267, r_MFl_result_268, r_MFl_result_269, r_MFl_result_272, r_MFl_result_273, r_MFl_result_276, r_MFl_result_277, r_MFl_result_280, r_MFl_result_281, r_MFl_result_282, r_MFl_result_283, r_MFl_result_286, r_MFl_result_287, r_MFl_result_290, r_MFl_result_291, r_MFl_result_294, r_MFl_result_295, r_MFl_result_296, r_MFl_result_297, sL_0, sL_1, sL_2, mk_i, mk_r, mk_f, mk_n, mk_u, mk_l, List.set_cons_succ, List.set_cons_zero, Nat.reduceAdd, ckS_0, ckS_1, ckS_2, ckS_3, ckS_4, Option.bind_some, Option.isSome_some, psh, if_true, if_false, i10, not_true_eq_false, not_false_eq_true, Bool.false_eq_true, and_self, and_true, true_and, eq_self, c, c1]
    · have e9 : twF 38 l r = if l = 0 then 0 else if r = 0 then 0 else 1 := rfl
      rw [e9]
      by_cases c : l = 0
      · simp only [r_MFl_result_0, r_MFl_result_1_2, r_MFl_result_1_33, r_MFl_result_1_37, r_MFl_result_1_38, r_MFl_result_1_42, r_MFl_result_1_43, r_MFl_result_1_45, r_MFl_result_1_47, r_MFl_result_1_60, r_MFl_result_1_61, r_MFl_result_1_62, r_MFl_result_1_105, r_MFl_result_1_112, r_MFl_result_1_113, r_MFl_result_1_115, r_MFl_result_1_118, r_MFl_result_1_119, r_MFl_result_1_124, r_MFl_result_1_m1, r_MFl_result_156, r_MFl_result_157, r_MFl_result_160, r_MFl_result_161, r_MFl_result_162, r_MFl_result_165, r_MFl_result_166, r_MFl_result_167, r_MFl_result_170, r_MFl_result_171, r_MFl_result_172, r_MFl_result_175, r_MFl_result_176, r_MFl_result_177, r_MFl_result_180, r_MFl_result_181, r_MFl_result_182, r_MFl_result_185, r_MFl_result_186, r_MFl_result_187, r_MFl_result_190, r_MFl_result_191, r_MFl_result_194, r_MFl_result_195, r_MFl_result_196, r_MFl_result_197, r_MFl_result_198, r_MFl_result_199, r_MFl_result_200, r_MFl_result_201, r_MFl_result_202, r_MFl_result_203, r_MFl_result_204, r_MFl_result_205, r_MFl_result_206, r_MFl_result_207, r_MFl_result_208, r_MFl_result_209, r_MFl_result_210, r_MFl_result_211, r_MFl_result_212, r_MFl_result_215, r_MFl_result_216, r_MFl_result_219, r_MFl_result_220, r_MFl_result_221, r_MFl_result_222, r_MFl_result_223, r_MFl_result_224, r_MFl_result_227, r_MFl_result_228, r_MFl_result_231, r_MFl_result_232, r_MFl_result_233, r_MFl_result_234, r_MFl_result_235, r_MFl_result_236, r_MFl_result_237, r_MFl_result_240, r_MFl_result_241, r_MFl_result_244, r_MFl_result_245, r_MFl_result_246, r_MFl_result_247, r_MFl_result_248, r_MFl_result_251, r_MFl_result_252, r_MFl_result_255, r_MFl_result_256, r_MFl_result_257, r_MFl_result_258, r_MFl_result_259, r_MFl_result_262, r_MFl_result_263, r_MFl_result_266, r_MFl_result_267, r_MFl_result_268, r_MFl_result_269, r_MFl_result_272, r_MFl_result_273, r_MFl_result_276, r_MFl_result_277, r_MFl_result_280, r_MFl_result_281, r_MFl_result_282, r_MFl_result_283, r_MFl_result_286, r_MFl_result_287, r_MFl_result_290, r_MFl_result_291, r_MFl_result_294, r_MFl_result_295, r_MFl_result_296, r_MFl_result_297, sL_0, sL_1, sL_2, mk_i, mk_r, mk_f, mk_n, mk_u, mk_l, List.set_cons_succ, List.set_cons_zero, Nat.reduceAdd, ckS_0, ckS_1, ckS_2, ckS_3, ckS_4, Option.bind_some, Option.isSome_some, psh, if_true, if_false, i10, not_true_eq_false, not_false_eq_true, Bool.false_eq_true, and_self, and_true, true_and, eq_self, c]
      · by_cases c1 : r = 0
        · simp only [r_MFl_result_0, r_MFl_result_1_2, r_MFl_result_1_33, r_MFl_result_1_37, r_MFl_result_1_38, r_MFl_result_1_42, r_MFl_result_1_43, r_MFl_result_1_45, r_MFl_result_1_47, r_MFl_result_1_60, r_MFl_result_1_61, r_MFl_result_1_62, r_MFl_result_1_105, r_MFl_result_1_112, r_MFl_result_1_113, r_MFl_result_1_115, r_MFl_result_1_118, r_MFl_result_1_119, r_MFl_result_1_124, r_MFl_result_1_m1, r_MFl_result_156, r_MFl_result_157, r_MFl_result_160, r_MFl_result_161, r_MFl_result_162, r_MFl_result_165, r_MFl_result_166, r_MFl_result_167, r_MFl_result_170, r_MFl_result_171, r_MFl_result_172, r_MFl_result_175, r_MFl_result_176, r_MFl_result_177, r_MFl_result_180, r_MFl_result_181, r_MFl_result_182, r_MFl_result_185, r_MFl_result_186, r_MFl_result_187, r_MFl_result_190, r_MFl_result_191, r_MFl_result_194, r_MFl_result_195, r_MFl_result_196, r_MFl_result_197, r_MFl_result_198, r_MFl_result_199, r_MFl_result_200, r_MFl_result_201, r_MFl_result_202, r_MFl_result_203, r_MFl_result_204, r_MFl_result_205, r_MFl_result_206, r_MFl_result_207, r_MFl_result_208, r_MFl_result_209, r_MFl_result_210, r_MFl_result_211, r_MFl_result_212, r_MFl_result_215, r_MFl_result_216, r_MFl_result_219, r_MFl_result_220, r_MFl_result_221, r_MFl_result_222, r_MFl_result_223, r_MFl_result_224, r_MFl_result_227, r_MFl_result_228, r_MFl_result_231, r_MFl_result_232, r_MFl_result_233, r_MFl_result_234, r_MFl_result_235, r_MFl_result_236, r_MFl_result_237, r_MFl_result_240, r_MFl_result_241, r_MFl_result_244, r_MFl_result_245, r_MFl_result_246, r_MFl_result_247, r_MFl_result_248, r_MFl_result_251, r_MFl_result_252, r_MFl_result_255, r_MFl_result_256, r_MFl_result_257, r_MFl_result_258, r_MFl_result_259, r_MFl_result_262, r_MFl_result_263, r_MFl_result_266, r_MFl_result_267, r_MFl_result_268, r_MFl_result_269, r_MFl_result_272, r_MFl_result_273, r_MFl_result_276, r_MFl_result_277, r_MFl_result_280, r_MFl_result_281, r_MFl_result_282, r_MFl_result_283, r_MFl_result_286, r_MFl_result_287, r_MFl_result_290, r_MFl_result_291, r_MFl_result_294, r_MFl_result_295, r_MFl_result_296, r_MFl_result_297, sL_0, sL_1, sL_2, mk_i, mk_r, mk_f, mk_n, mk_u, mk_l, List.set_cons_succ, List.set_cons_zero, Nat.reduceAdd, ckS_0, ckS_1, ckS_2, ckS_3, ckS_4, Option.bind_some, Option.isSome_some, psh, if_true, if_false, i10, not_true_eq_false, not_false_eq_true, Bool.false_eq_true, and_self, and_true, true_and, eq_self, c, c1]
        · simp only [r_MFl_result_0, r_MFl_result_1_2, r_MFl_result_1_33, r_MFl_result_1_37, r_MFl_result_1_38, r_MFl_result_1_42, r_MFl_result_1_43, r_MFl_result_1_45, r_MFl_result_1_47, r_MFl_result_1_60, r_MFl_result_1_61, r_MFl_result_1_62, r_MFl_result_1_105, r_MFl_result_1_112, r_MFl_result_1_113, r_MFl_result_1_115, r_MFl_result_1_118, r_MFl_result_1_119, r_MFl_result_1_124, r_MFl_result_1_m1, r_MFl_result_156, r_MFl_result_157, r_MFl_result_160, r_MFl_result_161, r_MFl_result_162, r_MFl_result_165, r_MFl_result_166, r_MFl_result_167, r_MFl_result_170, r_MFl_result_171, r_MFl_result_172, r_MFl_result_175, r_MFl_result_176, r_MFl_result_177, r_MFl_result_180, r_MFl_result_181, r_MFl_result_182, r_MFl_result_185, r_MFl_result_186, r_MFl_result_187, r_MFl_result_190, r_MFl_result_191, r_MFl_result_194, r_MFl_result_195, r_MFl_result_196, r_MFl_result_197, r_MFl_result_198, r_MFl_result_199, r_MFl_result_200, r_MFl_result_201, r_MFl_result_202, r_MFl_result_203, r_MFl_result_204, r_MFl_result_205, r_MFl_result_206, r_MFl_result_207, r_MFl_result_208, r_MFl_result_209, r_MFl_result_210, r_MFl_result_211, r_MFl_result_212, r_MFl_result_215, r_MFl_result_216, r_MFl_result_219, r_MFl_result_220, r_MFl_result_221, r_MFl_result_222, r_MFl_result_223, r_MFl_result_224, r_MFl_result_227, r_MFl_result_228, r_MFl_result_231, r_MFl_result_232, r_MFl_result_233, r_MFl_result_234, r_MFl_result_235, r_MFl_result_236, r_MFl_result_237, r_MFl_result_240, r_MFl_result_241, r_MFl_result_244, r_MFl_result_245, r_MFl_result_246, r_MFl_result_247, r_MFl_result_248, r_MFl_result_251, r_MFl_result_252, r_MFl_result_255, r_MFl_result_256, r_MFl_result_257, r_MFl_result_258, r_MFl_result_259, r_MFl_result_262, r_MFl_result_263, r_MFl_result_266, r_MFl_result_267, r_MFl_result_268, r_MFl_result_269, r_MFl_result_272, r_MFl_result_273, r_MFl_result_276, r_MFl_result_277, r_MFl_result_280, r_MFl_result_281, r_MFl_result_282, r_MFl_result_283, r_MFl_result_286, r_MFl_result_287, r_MFl_result_290, r_MFl_result_291, r_MFl_result_294, r_MFl_result_295, r_MFl_result_296, r_MFl_result_297, sL_0, sL_1, sL_2, mk_i, mk_r, mk_f, mk_n, mk_u, mk_l, List.set_cons_succ, List.set_cons_zero, Nat.reduceAdd, ckS_0, ckS_1, ckS_2, ckS_3, ckS_4, Option.bind_some, Option.isSome_some, psh, if_true, if_false, i10, not_true_eq_false, not_false_eq_true, Bool.false_eq_true, and_self, and_true, true_and, eq_self, c, c1]
    · have e9 : twF 42 l r = l * r := rfl
      rw [e9]
      simp only [r_MFl_result_0, r_MFl_result_1_2, r_MFl_result_1_33, r_MFl_result_1_37, r_MFl_result_1_38, r_MFl_result_1_42, r_MFl_result_1_43, r_MFl_result_1_45, r_MFl_result_1_47, r_MFl_result_1_60, r_MFl_result_1_61, r_MFl_result_1_62, r_MFl_result_1_105, r_MFl_result_1_112, r_MFl_result_1_113, r_MFl_result_1_115, r_MFl_result_1_118, r_MFl_result_1_119, r_MFl_result_1_124, r_MFl_result_1_m1, r_MFl_result_156, r_MFl_result_157, r_MFl_result_160, r_MFl_result_161, r_MFl_result_162, r_MFl_result_165, r_MFl_result_166, r_MFl_result_167, r_MFl_result_170, r_MFl_result_171, r_MFl_result_172, r_MFl_result_175, r_MFl_result_176, r_MFl_result_177, r_MFl_result_180, r_MFl_result_181, r_MFl_result_182, r_MFl_result_185, r_MFl_result_186, r_MFl_result_187, r_MFl_result_190, r_MFl_result_191, r_MFl_result_194, r_MFl_result_195, r_MFl_result_196, r_MFl_result_197, r_MFl_result_198, r_MFl_result_199, r_MFl_result_200, r_MFl_result_201, r_MFl_result_202, r_MFl_result_203, r_MFl_result_204, r_MFl_result_205, r_MFl_result_206, r_MFl_result_207, r_MFl_result_208, r_MFl_result_209, r_MFl_result_210, r_MFl_result_211, r_MFl_result_212, r_MFl_result_215, r_MFl_result_216, r_MFl_result_219, r_MFl_result_220, r_MFl_result_221, r_MFl_result_222, r_MFl_result_223, r_MFl_result_224, r_MFl_result_227, r_MFl_result_228, r_MFl_result_231, r_MFl_result_232, r_MFl_result_233, r_MFl_result_234, r_MFl_result_235, r_MFl_result_236, r_MFl_result_237, r_MFl_result_240, r_MFl_result_241, r_MFl_result_244, r_MFl_result_245, r_MFl_result_246, r_MFl_result_247, r_MFl_result_248, r_MFl_result_251, r_MFl_result_252, r_MFl_result_255, r_MFl_result_256, r_MFl_result_257, r_MFl_result_258, r_MFl_result_259, r_MFl_result_262, r_MFl_result_263, r_MFl_result_266, r_MFl_result_267, r_MFl_result_268, r_MFl_result_269, r_MFl_result_272, r_MFl_result_273, r_MFl_result_276, r_MFl_result_277, r_MFl_result_280, r_MFl_result_281, r_MFl_result_282, r_MFl_result_283, r_MFl_result_286, r_MFl_result_287, r_MFl_result_290, r_MFl_result_291, r_MFl_result_294, r_MFl_result_295, r_MFl_result_296, r_MFl_result_297, sL_0, sL_1, sL_2, mk_i, mk_r, mk_f, mk_n, mk_u, mk_l, List.set_cons_succ, List.set_cons_zero, Nat.reduceAdd, ckS_0, ckS_1, ckS_2, ckS_3, ckS_4, Option.bind_some, Option.isSome_some, psh, if_true, if_false, i10, not_true_eq_false, not_false_eq_true, Bool.false_eq_true, and_self, and_true, true_and, eq_self]
    · have e9 : twF 43 l r = l + r := rfl
      rw [e9]
      simp only [r_MFl_result_0, r_MFl_result_1_2, r_MFl_result_1_33, r_MFl_result_1_37, r_MFl_result_1_38, r_MFl_result_1_42, r_MFl_result_1_43, r_MFl_result_1_45, r_MFl_result_1_47, r_MFl_result_1_60, r_MFl_result_1_61, r_MFl_result_1_62, r_MFl_result_1_105, r_MFl_result_1_112, r_MFl_result_1_113, r_MFl_result_1_115, r_MFl_result_1_118, r_MFl_result_1_119, r_MFl_result_1_124, r_MFl_result_1_m1, r_MFl_result_156, r_MFl_result_157, r_MFl_result_160, r_MFl_result_161, r_MFl_result_162, r_MFl_result_165, r_MFl_result_166, r_MFl_result_167, r_MFl_result_170, r_MFl_result_171, r_MFl_result_172, r_MFl_result_175, r_MFl_result_176, r_MFl_result_177, r_MFl_result_180, r_MFl_result_181, r_MFl_result_182, r_MFl_result_185, r_MFl_result_186, r_MFl_result_187, r_MFl_result_190, r_MFl_result_191, r_MFl_result_194, r_MFl_result_195, r_MFl_result_196, r_MFl_result_197, r_MFl_result_198, r_MFl_result_199, r_MFl_result_200, r_MFl_result_201, r_MFl_result_202, r_MFl_result_203, r_MFl_result_204, r_MFl_result_205, r_MFl_result_206, r_MFl_result_207, r_MFl_result_208, r_MFl_result_209, r_MFl_result_210, r_MFl_result_211, r_MFl_result_212, r_MFl_result_215, r_MFl_result_216, r_MFl_result_219, r_MFl_result_220, r_MFl_result_221, r_MFl_result_222, r_MFl_result_223, r_MFl_result_224, r_MFl_result_227, r_MFl_result_228, r_MFl_result_231, r_MFl_result_232, r_MFl_result_233, r_MFl_result_234, r_MFl_result_235, r_MFl_result_236, r_MFl_result_237, r_MFl_result_240, r_MFl_result_241, r_MFl_result_244, r_MFl_result_245, r_MFl_result_246, r_MFl_result_247, r_MFl_result_248, r_MFl_result_251, r_MFl_result_252, r_MFl_result_255, r_MFl_result_256, r_MFl_result_257, r_MFl_result_258, r_MFl_result_259, r_MFl_result_262, r_MFl_result_263, r_MFl_result_266, r_MFl_result_267, r_MFl_result_268, r_MFl_result_269, r_MFl_result_272, r_MFl_result_273, r_MFl_result_276, r_MFl_result_277, r_MFl_result_280, r_MFl_result_281, r_MFl_result_282, r_MFl_result_283, r_MFl_result_286, r_MFl_result_287, r_MFl_result_290, r_MFl_result_291, r_MFl_result_294, r_MFl_result_295, r_MFl_result_296, r_MFl_result_297, sL_0, sL_1, sL_2, mk_i, mk_r, mk_f, mk_n, mk_u, mk_l, List.set_cons_succ, List.set_cons_zero, Nat.reduceAdd, ckS_0, ckS_1, ckS_2, ckS_3, ckS_4, Option.bind_some, Option.isSome_some, psh, if_true, if_false, i10, not_true_eq_false, not_false_eq_true, Bool.false_eq_true, and_self, and_true, true_and, eq_self]
    · have e9 : twF 45 l r = l - r := rfl
      rw [e9]
      simp only [r_MFl_result_0, r_MFl_result_1_2, r_MFl_result_1_33, r_MFl_result_1_37, r_MFl_result_1_38, r_MFl_result_1_42, r_MFl_result_1_43, r_MFl_result_1_45, r_MFl_result_1_47, r_MFl_result_1_60, r_MFl_result_1_61, r_MFl_result_1_62, r_MFl_result_1_105, r_MFl_result_1_112, r_MFl_result_1_113, r_MFl_result_1_115, r_MFl_result_1_118, r_MFl_result_1_119, r_MFl_result_1_124, r_MFl_result_1_m1, r_MFl_result_156, r_MFl_result_157, r_MFl_result_160, r_MFl_result_161, r_MFl_result_162, r_MFl_result_165, r_MFl_result_166, r_MFl_result_167, r_MFl_result_170, r_MFl_result_171, r_MFl_result_172, r_MFl_result_175, r_MFl_result_176, r_MFl_result_177, r_MFl_result_180, r_MFl_result_181, r_MFl_result_182, r_MFl_result_185, r_MFl_result_186, r_MFl_result_187, r_MFl_result_190, r_MFl_result_191, r_MFl_result_194, r_MFl_result_195, r_MFl_result_196, r_MFl_result_197, r_MFl_result_198, r_MFl_result_199, r_MFl_result_200, r_MFl_result_201, r_MFl_result_202, r_MFl_result_203, r_MFl_result_204, r_MFl_result_205, r_MFl_result_206, r_MFl_result_207, r_MFl_result_208, r_MFl_result_209, r_MFl_result_210, r_MFl_result_211, r_MFl_result_212, r_MFl_result_215, r_MFl_result_216, r_MFl_result_219, r_MFl_result_220, r_MFl_result_221, r_MFl_result_222, r_MFl_result_223, r_MFl_result_224, r_MFl_result_227, r_MFl_result_228, r_MFl_result_231, r_MFl_result_232, r_MFl_result_233, r_MFl_result_234, r_MFl_result_235, r_MFl_result_236, r_MFl_result_237, r_MFl_result_240, r_MFl_result_241, r_MFl_result_244, r_MFl_result_245, r_MFl_result_246, r_MFl_result_247, r_MFl_result_248, r_MFl_result_251, r_MFl_result_252, r_MFl_result_255, r_MFl_result_256, r_MFl_result_257, r_MFl_result_258, r_MFl_result_259, r_MFl_result_262, r_MFl_result_263, r_MFl_result_266, r_MFl_result_267, r_MFl_result_268, r_MFl_result_269, r_MFl_result_272, r_MFl_result_273, r_MFl_result_276, r_MFl_result_277, r_MFl_result_280, r_MFl_result_281, r_MFl_result_282, r_MFl_result_283, r_MFl_result_286, r_MFl_result_287, r_MFl_result_290, r_MFl_result_291, r_MFl_result_294, r_MFl_result_295, r_MFl_result_296, r_MFl_result_297, sL_0, sL_1, sL_2, mk_i, mk_r, mk_f, mk_n, mk_u, mk_l, List.set_cons_succ, List.set_cons_zero, Nat.reduceAdd, ckS_0, ckS_1, ckS_2, ckS_3, ckS_4, Option.bind_some, Option.isSome_some, psh, if_true, if_false, i10, not_true_eq_false, not_false_eq_true, Bool.false_eq_true, and_self, and_true, true_and, eq_self]
    · have e9 : twF 47 l r = if r = 0 then 0 else if r = -1 then -l else l / r := rfl
      rw [e9]
      by_cases c : r = 0
      · simp only [r_MFl_result_0, r_MFl_result_1_2, r_MFl_result_1_33, r_MFl_result_1_37, r_MFl_result_1_38, r_MFl_result_1_42, r_MFl_result_1_43, r_MFl_result_1_45, r_MFl_result_1_47, r_MFl_result_1_60, r_MFl_result_1_61, r_MFl_result_1_62, r_MFl_result_1_105, r_MFl_result_1_112, r_MFl_result_1_113, r_MFl_result_1_115, r_MFl_result_1_118, r_MFl_result_1_119, r_MFl_result_1_124, r_MFl_result_1_m1, r_MFl_result_156, r_MFl_result_157, r_MFl_result_160, r_MFl_result_161, r_MFl_result_162, r_MFl_result_165, r_MFl_result_166, r_MFl_result_167, r_MFl_result_170, r_MFl_result_171, r_MFl_result_172, r_MFl_result_175, r_MFl_result_176, r_MFl_result_177, r_MFl_result_180, r_MFl_result_181, r_MFl_result_182, r_MFl_result_185, r_MFl_result_186, r_MFl_result_187, r_MFl_result_190, r_MFl_result_191, r_MFl_result_194, r_MFl_result_195, r_MFl_result_196, r_MFl_result_197, r_MFl_result_198, r_MFl_result_199, r_MFl_result_200, r_MFl_result_201, r_MFl_result_202, r_MFl_result_203, r_MFl_result_204, r_MFl_result_205, r_MFl_result_206, r_MFl_result_207, r_MFl_result_208, r_MFl_result_209, r_MFl_result_210, r_MFl_result_211, r_MFl_result_212, r_MFl_result_215, r_MFl_result_216, r_MFl_result_219, r_MFl_result_220, r_MFl_result_221, r_MFl_result_222, r_MFl_result_223, r_MFl_result_224, r_MFl_result_227, r_MFl_result_228, r_MFl_result_231, r_MFl_result_232, r_MFl_result_233, r_MFl_result_234, r_MFl_result_235, r_MFl_result_236, r_MFl_result_237, r_MFl_result_240, r_MFl_result_241, r_MFl_result_244, r_MFl_result_245, r_MFl_result_246, r_MFl_result_247, r_MFl_result_248, r_MFl_result_251, r_MFl_result_252, r_MFl_result_255, r_MFl_result_256, r_MFl_result_257, r_MFl_result_258, r_MFl_result_259, r_MFl_result_262, r_MFl_result_263, r_MFl_result_266, r_MFl_result_267, r_MFl_result_268, r_MFl_result_269, r_MFl_result_272, r_MFl_result_273, r_MFl_result_276, r_MFl_result_277, r_MFl_result_280, r_MFl_result_281, r_MFl_result_282, r_MFl_result_283, r_MFl_result_286, r_MFl_result_287, r_MFl_result_290, r_MFl_result_291, r_MFl_result_294, r_MFl_result_295, r_MFl_result_296, r_MFl_result_297, sL_0, sL_1, sL_2, mk_i, mk_r, mk_f, mk_n, mk_u, mk_l, List.set_cons_succ, List.set_cons_zero, Nat.reduceAdd, ckS_0, ckS_1, ckS_2, ckS_3, ckS_4, Option.bind_some, Option.isSome_some, psh, if_true, if_false, i10, not_true_eq_false, not_false_eq_true, Bool.false_eq_true, and_self, and_true, true_and, eq_self, c]
      · by_cases c1 : r = -1
        · subst c1
          have z0 : ((-1 : Int32) = 0) = False := eq_false (by decide)
          simp only [r_MFl_result_0, r_MFl_result_1_2, r_MFl_result_1_33, r_MFl_result_1_37, r_MFl_result_1_38, r_MFl_result_1_42, r_MFl_result_1_43, r_MFl_result_1_45, r_MFl_result_1_47, r_MFl_result_1_60, r_MFl_result_1_61, r_MFl_result_1_62, r_MFl_result_1_105, r_MFl_result_1_112, r_MFl_result_1_113, r_MFl_result_1_115, r_MFl_result_1_118, r_MFl_result_1_119, r_MFl_result_1_124, r_MFl_result_1_m1, r_MFl_result_156, r_MFl_result_157, r_MFl_result_160, r_MFl_result_161, r_MFl_result_162, r_MFl_result_165, r_MFl_result_166, r_MFl_result_167, r_MFl_result_170, r_MFl_result_171, r_MFl_result_172, r_MFl_result_175, r_MFl_result_176, r_MFl_result_177, r_MFl_result_180, r_MFl_result_181, r_MFl_result_182, r_MFl_result_185, r_MFl_result_186, r_MFl_result_187, r_MFl_result_190, r_MFl_result_191, r_MFl_result_194, r_MFl_result_195, r_MFl_result_196, r_MFl_result_197, r_MFl_result_198, r_MFl_result_199, r_MFl_result_200, r_MFl_result_201, r_MFl_result_202, r_MFl_result_203, r_MFl_result_204, r_MFl_result_205, r_MFl_result_206, r_MFl_result_207, r_MFl_result_208, r_MFl_result_209, r_MFl_result_210, r_MFl_result_211, r_MFl_result_212, r_MFl_result_215, r_MFl_result_216, r_MFl_result_219, r_MFl_result_220, r_MFl_result_221, r_MFl_result_222, r_MFl_result_223, r_MFl_result_224, r_MFl_result_227, r_MFl_result_228, r_MFl_result_231, r_MFl_result_232, r_MFl_result_233, r_MFl_result_234, r_MFl_result_235, r_MFl_result_236, r_MFl_result_237, r_MFl_result_240, r_MFl_result_241, r_MFl_result_244, r_MFl_result_245, r_MFl_result_246, r_MFl_result_247, r_MFl_result_248, r_MFl_result_251, r_MFl_result_252, r_MFl_result_255, r_MFl_result_256, r_MFl_result_257, r_MFl_result_258, r_MFl_result_259, r_MFl_result_262, r_MFl_result_263, r_MFl_result_266, r_MFl_result_267, r_MFl_result_268, r_MFl_result_269, r_MFl_result_272, r_MFl_result_273, r_MFl_result_276, r_MFl_result_277, r_MFl_result_280, r_MFl_result_281, r_MFl_result_282, r_MFl_result_283, r_MFl_result_286, r_MFl_result_287, r_MFl_result_290, r_MFl_result_291, r_MFl_result_294, r_MFl_result_295, r_MFl_result_296, r_MFl_result_297, sL_0, sL_1, sL_2, mk_i, mk_r, mk_f, mk_n, mk_u, mk_l, List.set_cons_succ, List.set_cons_zero, Nat.reduceAdd, ckS_0, ckS_1, ckS_2, ckS_3, ckS_4, Option.bind_some, Option.isSome_some, psh, if_true, if_false, i10, not_true_eq_false, not_false_eq_true, Bool.false_eq_true, and_self, and_true, true_and, eq_self, z0, dv_m1]
        · simp only [r_MFl_result_0, r_MFl_result_1_2, r_MFl_result_1_33, r_MFl_result_1_37, r_MFl_result_1_38, r_MFl_result_1_42, r_MFl_result_1_43, r_MFl_result_1_45, r_MFl_result_1_47, r_MFl_result_1_60, r_MFl_result_1_61, r_MFl_result_1_62, r_MFl_result_1_105, r_MFl_result_1_112, r_MFl_result_1_113, r_MFl_result_1_115, r_MFl_result_1_118, r_MFl_result_1_119, r_MFl_result_1_124, r_MFl_result_1_m1, r_MFl_result_156, r_MFl_result_157, r_MFl_result_160, r_MFl_result_161, r_MFl_result_162, r_MFl_result_165, r_MFl_result_166, r_MFl_result_167, r_MFl_result_170, r_MFl_result_171, r_MFl_result_172, r_MFl_result_175, r_MFl_result_176, r_MFl_result_177, r_MFl_result_180, r_MFl_result_181, r_MFl_result_182, r_MFl_result_185, r_MFl_result_186, r_MFl_result_187, r_MFl_result_190, r_MFl_result_191, r_MFl_result_194, r_MFl_result_195, r_MFl_result_196, r_MFl_result_197, r_MFl_result_198, r_MFl_result_199, r_MFl_result_200, r_MFl_result_201, r_MFl_result_202, r_MFl_result_203, r_MFl_result_204, r_MFl_result_205, r_MFl_result_206, r_MFl_result_207, r_MFl_result_208, r_MFl_result_209, r_MFl_result_210, r_MFl_result_211, r_MFl_result_212, r_MFl_result_215, r_MFl_result_216, r_MFl_result_219, r_MFl_result_220, r_MFl_result_221, r_MFl_result_222, r_MFl_result_223, r_MFl_result_224, r_MFl_result_227, r_MFl_result_228, r_MFl_result_231, r_MFl_result_232, r_MFl_result_233, r_MFl_result_234, r_MFl_result_235, r_MFl_result_236, r_MFl_result_237, r_MFl_result_240, r_MFl_result_241, r_MFl_result_244, r_MFl_result_245, r_MFl_result_246, r_MFl_result_247, r_MFl_result_248, r_MFl_result_251, r_MFl_result_252, r_MFl_result_255, r_MFl_result_256, r_MFl_result_257, r_MFl_result_258, r_MFl_result_259, r_MFl_result_262, r_MFl_result_263, r_MFl_result_266, r_MFl_result_267, r_MFl_result_268, r_MFl_result_269, r_MFl_result_272, r_MFl_result_273, r_MFl_result_276, r_MFl_result_277, r_MFl_result_280, r_MFl_result_281, r_MFl_result_282, r_MFl_result_283, r_MFl_result_286, r_MFl_result_287, r_MFl_result_290, r_MFl_result_291, r_MFl_result_294, r_MFl_result_295, r_MFl_result_296, r_MFl_result_297, sL_0, sL_1, sL_2, mk_i, mk_r, mk_f, mk_n, mk_u, mk_l, List.set_cons_succ, List.set_cons_zero, Nat.reduceAdd, ckS_0, ckS_1, ckS_2, ckS_3, ckS_4, Option.bind_some, Option.isSome_some, psh, if_true, if_false, i10, not_true_eq_false, not_false_eq_true, Bool.false_eq_true, and_self, and_true, true_and, eq_self, c, c1]
    · have e9 : twF 60 l r = if l < r then 1 else 0 := rfl
      rw [e9]
      by_cases c : l < r
      · have c2 : ¬ r ≤ l := Int32.not_le.mpr c
        simp only [r_MFl_result_0, r_MFl_result_1_2, r_MFl_result_1_33, r_MFl_result_1_37, r_MFl_result_1_38, r_MFl_result_1_42, r_MFl_result_1_43, r_MFl_result_1_45, r_MFl_result_1_47, r_MFl_result_1_60, r_MFl_result_1_61, r_MFl_result_1_62, r_MFl_result_1_105, r_MFl_result_1_112, r_MFl_result_1_113, r_MFl_result_1_115, r_MFl_result_1_118, r_MFl_result_1_119, r_MFl_result_1_124, r_MFl_result_1_m1, r_MFl_result_156, r_MFl_result_157, r_MFl_result_160, r_MFl_result_161, r_MFl_result_162, r_MFl_result_165, r_MFl_result_166, r_MFl_result_167, r_MFl_result_170, r_MFl_result_171, r_MFl_result_172, r_MFl_result_175, r_MFl_result_176, r_MFl_result_177, r_MFl_result_180, r_MFl_result_181, r_MFl_result_182, r_MFl_result_185, r_MFl_result_186, r_MFl_result_187, r_MFl_result_190, r_MFl_result_191, r_MFl_result_194, r_MFl_result_195, r_MFl_result_196, r_MFl_result_197, r_MFl_result_198, r_MFl_result_199, r_MFl_result_200, r_MFl_result_201, r_MFl_result_202, r_MFl_result_203, r_MFl_result_204, r_MFl_result_205, r_MFl_result_206, r_MFl_result_207, r_MFl_result_208, r_MFl_result_209, r_MFl_result_210, r_MFl_result_211, r_MFl_result_212, r_MFl_result_215, r_MFl_result_216, r_MFl_result_219, r_MFl_result_220, r_MFl_result_221, r_MFl_result_222, r_MFl_result_223, r_MFl_result_224, r_MFl_result_227, r_MFl_result_228, r_MFl_result_231, r_MFl_result_232, r_MFl_result_233, r_MFl_result_234, r_MFl_result_235, r_MFl_result_236, r_MFl_result_237, r_MFl_result_240, r_MFl_result_241, r_MFl_result_244, r_MFl_result_245, r_MFl_result_246, r_MFl_result_247, r_MFl_result_248, r_MFl_result_251, r_MFl_result_252, r_MFl_result_255, r_MFl_result_256, r_MFl_result_257, r_MFl_result_258, r_MFl_result_259, r_MFl_result_262, r_MFl_result_263, r_MFl_result_266, r_MFl_result_267, r_MFl_result_268, r_MFl_result_269, r_MFl_result_272, r_MFl_result_273, r_MFl_result_276, r_MFl_result_277, r_MFl_result_280, r_MFl_result_281, r_MFl_result_282, r_MFl_result_283, r_MFl_result_286, r_MFl_result_287, r_MFl_result_290, r_MFl_result_291, r_MFl_result_294, r_MFl_result_295, r_MFl_result_296, r_MFl_result_297, sL_0, sL_1, sL_2, mk_i, mk_r, mk_f, mk_n, mk_u, mk_l, List.set_cons_succ, List.set_cons_zero, Nat.reduceAdd, ckS_0, ckS_1, ckS_2, ckS_3, ckS_4, Option.bind_some, Option.isSome_some, psh, if_true, if_false, i10, not_true_eq_false, not_false_eq_true, Bool.false_eq_true, and_self, and_true, true_and, eq_self, c, c2]
      · have c2 : r ≤ l := Int32.not_lt.mp c
        simp only [r_MFl_result_0, r_MFl_result_1_2, r_MFl_result_1_33, r_MFl_result_1_37, r_MFl_result_1_38, r_MFl_result_1_42, r_MFl_result_1_43, r_MFl_result_1_45, r_MFl_result_1_47, r_MFl_result_1_60, r_MFl_result_1_61, r_MFl_result_1_62, r_MFl_result_1_105, r_MFl_result_1_112, r_MFl_result_1_113, r_MFl_result_1_115, r_MFl_result_1_118, r_MFl_result_1_119, r_MFl_result_1_124, r_MFl_result_1_m1, r_MFl_result_156, r_MFl_result_157, r_MFl_result_160, r_MFl_result_161, r_MFl_result_162, r_MFl_result_165, r_MFl_result_166, r_MFl_result_167, r_MFl_result_170, r_MFl_result_171, r_MFl_result_172, r_MFl_result_175, r_MFl_result_176, r_MFl_result_177, r_MFl_result_180, r_MFl_result_181, r_MFl_result_182, r_MFl_result_185, r_MFl_result_186, r_MFl_result_187, r_MFl_result_190, r_MFl_result_191, r_MFl_result_194, r_MFl_result_195, r_MFl_result_196, r_MFl_result_197, r_MFl_result_198, r_MFl_result_199, r_MFl_result_200, r_MFl_result_201, r_MFl_result_202, r_MFl_result_203, r_MFl_result_204, r_MFl_result_205, r_MFl_result_206, r_MFl_result_207, r_MFl_result_208, r_MFl_result_209, r_MFl_result_210, r_MFl_result_211, r_MFl_result_212, r_MFl_result_215, r_MFl_result_216, r_MFl_result_219, r_MFl_result_220, r_MFl_result_221, r_MFl_result_222, r_MFl_result_223, r_MFl_result_224, r_MFl_result_227, r_MFl_result_228, r_MFl_result_231, r_MFl_result_232, r_MFl_result_233, r_MFl_result_234, r_MFl_result_235, r_MFl_result_236, r_MFl_result_237, r_MFl_result_240, r_MFl_result_241, r_MFl_result_244, r_MFl_result_245, r_MFl_result_246, r_MFl_result_247, r_MFl_result_248, r_MFl_result_251, r_MFl_result_252, r_MFl_result_255, r_MFl_result_256, r_MFl_result_257, r_MFl_result_258, r_MFl_result_259, r_MFl_result_262, r_MFl_result_263, r_MFl_result_266, r_MFl_result_267, r_MFl_result_268, r_MFl_result_269, r_MFl_result_272, r_MFl_result_273, r_MFl_result_276, r_MFl_result_277, r_MFl_result_280, r_MFl_result_281, r_MFl_result_282, r_MFl_result_283, r_MFl_result_286, r_MFl_result_287, r_MFl_result_290, r_MFl_result_291, r_MFl_result_294, r_MFl_result_295, r_MFl_result_296, r_MFl_result_297, sL_0, sL_1, sL_2, mk_i, mk_r, mk_f, mk_n, mk_u, mk_l, List.set_cons_succ, List.set_cons_zero, Nat.reduceAdd, ckS_0, ckS_1, ckS_2, ckS_3, ckS_4, Option.bind_some, Option.isSome_some, psh, if_true, if_false, i10, not_true_eq_false, not_false_eq_true, Bool.false_eq_true, and_self, and_true, true_and, eq_self, c, c2]
    · have e9 : twF 61 l r = if l = r then 1 else 0 := rfl
      rw [e9]
      by_cases c : l = r
      · simp only [r_MFl_result_0, r_MFl_result_1_2, r_MFl_result_1_33, r_MFl_result_1_37, r_MFl_result_1_38, r_MFl_result_1_42, r_MFl_result_1_43, r_MFl_result_1_45, r_MFl_result_1_47, r_MFl_result_1_60, r_MFl_result_1_61, r_MFl_result_1_62, r_MFl_result_1_105, r_MFl_result_1_112, r_MFl_result_1_113, r_MFl_result_1_115, r_MFl_result_1_118, r_MFl_result_1_119, r_MFl_result_1_124, r_MFl_result_1_m1, r_MFl_result_156, r_MFl_result_157, r_MFl_result_160, r_MFl_result_161, r_MFl_result_162, r_MFl_result_165, r_MFl_result_166, r_MFl_result_167, r_MFl_result_170, r_MFl_result_171, r_MFl_result_172, r_MFl_result_175, r_MFl_result_176, r_MFl_result_177, r_MFl_result_180, r_MFl_result_181, r_MFl_result_182, r_MFl_result_185, r_MFl_result_186, r_MFl_result_187, r_MFl_result_190, r_MFl_result_191, r_MFl_result_194, r_MFl_result_195, r_MFl_result_196, r_MFl_result_197, r_MFl_result_198, r_MFl_result_199, r_MFl_result_200, r_MFl_result_201, r_MFl_result_202, r_MFl_result_203, r_MFl_result_204, r_MFl_result_205, r_MFl_result_206, r_MFl_result_207, r_MFl_result_208, r_MFl_result_209, r_MFl_result_210, r_MFl_result_211, r_MFl_result_212, r_MFl_result_215, r_MFl_result_216, r_MFl_result_219, r_MFl_result_220, r_MFl_result_221, r_MFl_result_222, r_MFl_result_223, r_MFl_result_224, r_MFl_result_227, r_MFl_result_228, r_MFl_result_231, r_MFl_result_232, r_MFl_result_233, r_MFl_result_234, r_MFl_result_235, r_MFl_result_236, r_MFl_result_237, r_MFl_result_240, r_MFl_result_241, r_MFl_result_244, r_MFl_result_245, r_MFl_result_246, r_MFl_result_247, r_MFl_result_248, r_MFl_result_251, r_MFl_result_252, r_MFl_result_255, r_MFl_result_256, r_MFl_result_257, r_MFl_result_258, r_MFl_result_259, r_MFl_result_262, r_MFl_result_263, r_MFl_result_266, r_MFl_result_267, r_MFl_result_268, r_MFl_result_269, r_MFl_result_272, r_MFl_result_273, r_MFl_result_276, r_MFl_result_277, r_MFl_result_280, r_MFl_result_281, r_MFl_result_282, r_MFl_result_283, r_MFl_result_286, r_MFl_result_287, r_MFl_result_290, r_MFl_result_291, r_MFl_result_294, r_MFl_result_295, r_MFl_result_296, r_MFl_result_297, sL_0, sL_1, sL_2, mk_i, mk_r, mk_f, mk_n, mk_u, mk_l, List.set_cons_succ, List.set_cons_zero, Nat.reduceAdd, ckS_0, ckS_1, ckS_2, ckS_3, ckS_4, Option.bind_some, Option.isSome_some, psh, if_true, if_false, i10, not_true_eq_false, not_false_eq_true, Bool.false_eq_true, and_self, and_true, true_and, eq_self, c]
      · simp only [r_MFl_result_0, r_MFl_result_1_2, r_MFl_result_1_33, r_MFl_result_1_37, r_MFl_result_1_38, r_MFl_result_1_42, r_MFl_result_1_43, r_MFl_result_1_45, r_MFl_result_1_47, r_MFl_result_1_60, r_MFl_result_1_61, r_MFl_result_1_62, r_MFl_result_1_105, r_MFl_result_1_112, r_MFl_result_1_113, r_MFl_result_1_115, r_MFl_result_1_118, r_MFl_result_1_119, r_MFl_result_1_124, r_MFl_result_1_m1, r_MFl_result_156, r_MFl_result_157, r_MFl_result_160, r_MFl_result_161, r_MFl_result_162, r_MFl_result_165, r_MFl_result_166, r_MFl_result_167, r_MFl_result_170, r_MFl_result_171, r_MFl_result_172, r_MFl_result_175, r_MFl_result_176, r_MFl_result_177, r_MFl_result_180, r_MFl_result_181, r_MFl_result_182, r_MFl_result_185, r_MFl_result_186, r_MFl_result_187, r_MFl_result_190, r_MFl_result_191, r_MFl_result_194, r_MFl_result_195, r_MFl_result_196, r_MFl_result_197, r_MFl_result_198, r_MFl_result_199, r_MFl_result_200, r_MFl_result_201, r_MFl_result_202, r_MFl_result_203, r_MFl_result_204, r_MFl_result_205, r_MFl_result_206, r_MFl_result_207, r_MFl_result_208, r_MFl_result_209, r_MFl_result_210, r_MFl_result_211, r_MFl_result_212, r_MFl_result_215, r_MFl_result_216, r_MFl_result_219, r_MFl_result_220, r_MFl_result_221, r_MFl_result_222, r_MFl_result_223, r_MFl_result_224, r_MFl_result_227, r_MFl_result_228, r_MFl_result_231, r_MFl_result_232, r_MFl_result_233, r_MFl_result_234, r_MFl_result_235, r_MFl_result_236, r_MFl_result_237, r_MFl_result_240, r_MFl_result_241, r_MFl_result_244, r_MFl_result_245, r_MFl_result_246, r_MFl_result_247, r_MFl_result_248, r_MFl_result_251, r_MFl_result_252, r_MFl_result_255, r_MFl_result_256, r_MFl_result_257, r_MFl_result_258, r_MFl_result_259, r_MFl_result_262, r_MFl_result_263, r_MFl_result_266, r_MFl_result_267, r_MFl_result_268, r_MFl_result_269, r_MFl_result_272, r_MFl_result_273, r_MFl_result_276, r_MFl_result_277, r_MFl_result_280, r_MFl_result_281, r_MFl_result_282, r_MFl_result_283, r_MFl_result_286, r_MFl_result_287, r_MFl_result_290, r_MFl_result_291, r_MFl_result_294, r_MFl_result_295, r_MFl_result_296, r_MFl_result_297, sL_0, sL_1, sL_2, mk_i, mk_r, mk_f, mk_n, mk_u, mk_l, List.set_cons_succ, List.set_cons_zero, Nat.reduceAdd, ckS_0, ckS_1, ckS_2, ckS_3, ckS_4, Option.bind_some, Option.isSome_some, psh, if_true, if_false, i10, not_true_eq_false, not_false_eq_true, Bool.false_eq_true, and_self, and_true, true_and, eq_self, c]
    · have e9 : twF 62 l r = if r < l then 1 else 0 := rfl
      rw [e9]
      by_cases c : r < l
      · have c2 : ¬ l ≤ r := Int32.not_le.mpr c
        simp only [r_MFl_result_0, r_MFl_result_1_2, r_MFl_result_1_33, r_MFl_result_1_37, r_MFl_result_1_38, r_MFl_result_1_42, r_MFl_result_1_43, r_MFl_result_1_45, r_MFl_result_1_47, r_MFl_result_1_60, r_MFl_result_1_61, r_MFl_result_1_62, r_MFl_result_1_105, r_MFl_result_1_112, r_MFl_result_1_113, r_MFl_result_1_115, r_MFl_result_1_118, r_MFl_result_1_119, r_MFl_result_1_124, r_MFl_result_1_m1, r_MFl_result_156, r_MFl_result_157, r_MFl_result_160, r_MFl_result_161, r_MFl_result_162, r_MFl_result_165, r_MFl_result_166, r_MFl_result_167, r_MFl_result_170, r_MFl_result_171, r_MFl_result_172, r_MFl_result_175, r_MFl_result_176, r_MFl_result_177, r_MFl_result_180, r_MFl_result_181, r_MFl_result_182, r_MFl_result_185, r_MFl_result_186, r_MFl_result_187, r_MFl_result_190, r_MFl_result_191, r_MFl_result_194, r_MFl_result_195, r_MFl_result_196, r_MFl_result_197, r_MFl_result_198, r_MFl_result_199, r_MFl_result_200, r_MFl_result_201, r_MFl_result_202, r_MFl_result_203, r_MFl_result_204, r_MFl_result_205, r_MFl_result_206, r_MFl_result_207, r_MFl_result_208, r_MFl_result_209, r_MFl_result_210, r_MFl_result_211, r_MFl_result_212, r_MFl_result_215, r_MFl_result_216, r_MFl_result_219, r_MFl_result_220, r_MFl_result_221, r_MFl_result_222, r_MFl_result_223, r_MFl_result_224, r_MFl_result_227, r_MFl_result_228, r_MFl_result_231, r_MFl_result_232, r_MFl_result_233, r_MFl_result_234, r_MFl_result_235, r_MFl_result_236, r_MFl_result_237, r_MFl_result_240, r_MFl_result_241, r_MFl_result_244, r_MFl_result_245, r_MFl_result_246, r_MFl_result_247, r_MFl_result_248, r_MFl_result_251, r_MFl_result_252, r_MFl_result_255, r_MFl_result_256, r_MFl_result_257, r_MFl_result_258, r_MFl_result_259, r_MFl_result_262, r_MFl_result_263, r_MFl_result_266, r_MFl_result_267, r_MFl_result_268, r_MFl_result_269, r_MFl_result_272, r_MFl_result_273, r_MFl_result_276, r_MFl_result_277, r_MFl_result_280, r_MFl_result_281, r_MFl_result_282, r_MFl_result_283, r_MFl_result_286, r_MFl_result_287, r_MFl_result_290, r_MFl_result_291, r_MFl_result_294, r_MFl_result_295, r_MFl_result_296, r_MFl_result_297, sL_0, sL_1, sL_2, mk_i, mk_r, mk_f, mk_n, mk_u, mk_l, List.set_cons_succ, List.set_cons_zero, Nat.reduceAdd, ckS_0, ckS_1, ckS_2, ckS_3, ckS_4, Option.bind_some, Option.isSome_some, psh, if_true, if_false, i10, not_true_eq_false, not_false_eq_true, Bool.false_eq_true, and_self, and_true, true_and, eq_self, c, c2]
      · have c2 : l ≤ r := Int32.not_lt.mp c
        simp only [r_MFl_result_0, r_MFl_result_1_2, r_MFl_result_1_33, r_MFl_result_1_37, r_MFl_result_1_38, r_MFl_result_1_42, r_MFl_result_1_43, r_MFl_result_1_45, r_MFl_result_1_47, r_MFl_result_1_60, r_MFl_result_1_61, r_MFl_result_1_62, r_MFl_result_1_105, r_MFl_result_1_112, r_MFl_result_1_113, r_MFl_result_1_115, r_MFl_result_1_118, r_MFl_result_1_119, r_MFl_result_1_124, r_MFl_result_1_m1, r_MFl_result_156, r_MFl_result_157, r_MFl_result_160, r_MFl_result_161, r_MFl_result_162, r_MFl_result_165, r_MFl_result_166, r_MFl_result_167, r_MFl_result_170, r_MFl_result_171, r_MFl_result_172, r_MFl_result_175, r_MFl_result_176, r_MFl_result_177, r_MFl_result_180, r_MFl_result_181, r_MFl_result_182, r_MFl_result_185, r_MFl_result_186, r_MFl_result_187, r_MFl_result_190, r_MFl_result_191, r_MFl_result_194, r_MFl_result_195, r_MFl_result_196, r_MFl_result_197, r_MFl_result_198, r_MFl_result_199, r_MFl_result_200, r_MFl_result_201, r_MFl_result_202, r_MFl_result_203, r_MFl_result_204, r_MFl_result_205, r_MFl_result_206, r_MFl_result_207, r_MFl_result_208, r_MFl_result_209, r_MFl_result_210, r_MFl_result_211, r_MFl_result_212, r_MFl_result_215, r_MFl_result_216, r_MFl_result_219, r_MFl_result_220, r_MFl_result_221, r_MFl_result_222, r_MFl_result_223, r_MFl_result_224, r_MFl_result_227, r_MFl_result_228, r_MFl_result_231, r_MFl_result_232, r_MFl_result_233, r_MFl_result_234, r_MFl_result_235, r_MFl_result_236, r_MFl_result_237, r_MFl_result_240, r_MFl_result_241, r_MFl_result_244, r_MFl_result_245, r_MFl_result_246, r_MFl_result_247, r_MFl_result_248, r_MFl_result_251, r_MFl_result_252, r_MFl_result_255, r_MFl_result_256, r_MFl_result_257, r_MFl_result_258, r_MFl_result_259, r_MFl_result_262, r_MFl_result_263, r_MFl_result_266, r_MFl_result_267, r_MFl_result_268, r_MFl_result_269, r_MFl_result_272, r_MFl_result_273, r_MFl_result_276, r_MFl_result_277, r_MFl_result_280, r_MFl_result_281, r_MFl_result_282, r_MFl_result_283, r_MFl_result_286, r_MFl_result_287, r_MFl_result_290, r_MFl_result_291, r_MFl_result_294, r_MFl_result_295, r_MFl_result_296, r_MFl_result_297, sL_0, sL_1, sL_2, mk_i, mk_r, mk_f, mk_n, mk_u, mk_l, List.set_cons_succ, List.set_cons_zero, Nat.reduceAdd, ckS_0, ckS_1, ckS_2, ckS_3, ckS_4, Option.bind_some, Option.isSome_some, psh, if_true, if_false, i10, not_true_eq_false, not_false_eq_true, Bool.false_eq_true, and_self, and_true, true_and, eq_self, c, c2]
    · have e9 : twF 124 l r = if l = 0 then (if r = 0 then 0 else 1) else 1 := rfl
      rw [e9]
      by_cases c : l = 0
      · by_cases c1 : r = 0
        · simp only [r_MFl_result_0, r_MFl_result_1_2, r_MFl_result_1_33, r_MFl_result_1_37, r_MFl_result_1_38, r_MFl_result_1_42, r_MFl_result_1_43, r_MFl_result_1_45, r_MFl_result_1_47, r_MFl_result_1_60, r_MFl_result_1_61, r_MFl_result_1_62, r_MFl_result_1_105, r_MFl_result_1_112, r_MFl_result_1_113, r_MFl_result_1_115, r_MFl_result_1_118, r_MFl_result_1_119, r_MFl_result_1_124, r_MFl_result_1_m1, r_MFl_result_156, r_MFl_result_157, r_MFl_result_160, r_MFl_result_161, r_MFl_result_162, r_MFl_result_165, r_MFl_result_166, r_MFl_result_167, r_MFl_result_170, r_MFl_result_171, r_MFl_result_172, r_MFl_result_175, r_MFl_result_176, r_MFl_result_177, r_MFl_result_180, r_MFl_result_181, r_MFl_result_182, r_MFl_result_185, r_MFl_result_186, r_MFl_result_187, r_MFl_result_190, r_MFl_result_191, r_MFl_result_194, r_MFl_result_195, r_MFl_result_196, r_MFl_result_197, r_MFl_result_198, r_MFl_result_199, r_MFl_result_200, r_MFl_result_201, r_MFl_result_202, r_MFl_result_203, r_MFl_result_204, r_MFl_result_205, r_MFl_result_206, r_MFl_result_207, r_MFl_result_208, r_MFl_result_209, r_MFl_result_210, r_MFl_result_211, r_MFl_result_212, r_MFl_result_215, r_MFl_result_216, r_MFl_result_219, r_MFl_result_220, r_MFl_result_221, r_MFl_result_222, r_MFl_result_223, r_MFl_result_224, r_MFl_result_227, r_MFl_result_228, r_MFl_result_231, r_MFl_result_232, r_MFl_result_233, r_MFl_result_234, r_MFl_result_235, r_MFl_result_236, r_MFl_result_237, r_MFl_result_240, r_MFl_result_241, r_MFl_result_244, r_MFl_result_245, r_MFl_result_246, r_MFl_result_247, r_MFl_result_248, r_MFl_result_251, r_MFl_result_252, r_MFl_result_255, r_MFl_result_256, r_MFl_result_257, r_MFl_result_258, r_MFl_result_259, r_MFl_result_262, r_MFl_result_263, r_MFl_result_266, r_MFl_result_267, r_MFl_result_268, r_MFl_result_269, r_MFl_result_272, r_MFl_result_273, r_MFl_result_276, r_MFl_result_277, r_MFl_result_280, r_MFl_result_281, r_MFl_result_282, r_MFl_result_283, r_MFl_result_286, r_MFl_result_287, r_MFl_result_290, r_MFl_result_291, r_MFl_result_294, r_MFl_result_295, r_MFl_result_296, r_MFl_result_297, sL_0, sL_1, sL_2, mk_i, mk_r, mk_f, mk_n, mk_u, mk_l, List.set_cons_succ, List.set_cons_zero, Nat.reduceAdd, ckS_0, ckS_1, ckS_2, ckS_3, ckS_4, Option.bind_some, Option.isSome_some, psh, if_true, if_false, i10, not_true_eq_false, not_false_eq_true, Bool.false_eq_true, and_self, and_true, true_and, eq_self, c, c1]
        · simp only [r_MFl_result_0, r_MFl_result_1_2, r_MFl_result_1_33, r_MFl_result_1_37, r_MFl_result_1_38, r_MFl_result_1_42, r_MFl_result_1_43, r_MFl_result_1_45, r_MFl_result_1_47, r_MFl_result_1_60, r_MFl_result_1_61, r_MFl_result_1_62, r_MFl_result_1_105, r_MFl_result_1_112, r_MFl_result_1_113, r_MFl_result_1_115, r_MFl_result_1_118, r_MFl_result_1_119, r_MFl_result_1_124, r_MFl_result_1_m1, r_MFl_result_156, r_MFl_result_157, r_MFl_result_160, r_MFl_result_161, r_MFl_result_162, r_MFl_result_165, r_MFl_result_166, r_MFl_result_167, r_MFl_result_170, r_MFl_result_171, r_MFl_result_172, r_MFl_result_175, r_MFl_result_176, r_MFl_result_177, r_MFl_result_180, r_MFl_result_181, r_MFl_result_182, r_MFl_result_185, r_MFl_result_186, r_MFl_result_187, r_MFl_result_190, r_MFl_result_191, r_MFl_result_194, r_MFl_result_195, r_MFl_result_196, r_MFl_result_197, r_MFl_result_198, r_MFl_result_199, r_MFl_result_200, r_MFl_result_201, r_MFl_result_202, r_MFl_result_203, r_MFl_result_204, r_MFl_result_205, r_MFl_result_206, r_MFl_result_207, r_MFl_result_208, r_MFl_result_209, r_MFl_result_210, r_MFl_result_211, r_MFl_result_212, r_MFl_result_215, r_MFl_result_216, r_MFl_result_219, r_MFl_result_220, r_MFl_result_221, r_MFl_result_222, r_MFl_result_223, r_MFl_result_224, r_MFl_result_227, r_MFl_result_228, r_MFl_result_231, r_MFl_result_232, r_MFl_result_233, r_MFl_result_234, r_MFl_result_235, r_MFl_result_236, r_MFl_result_237, r_MFl_result_240, r_MFl_result_241, r_MFl_result_244, r_MFl_result_245, r_MFl_result_246, r_MFl_result_247, r_MFl_result_248, r_MFl_result_251, r_MFl_result_252, r_MFl_result_255, r_MFl_result_256, r_MFl_result_257, r_MFl_result_258, r_MFl_result_259, r_MFl_result_262, r_MFl_result_263, r_MFl_result_266, r_MFl_result_267, r_MFl_result_268, r_MFl_result_269, r_MFl_result_272, r_MFl_result_273, r_MFl_result_276, r_MFl_result_277, r_MFl_result_280, r_MFl_result_281, r_MFl_result_282, r_MFl_result_283, r_MFl_result_286, r_MFl_result_287, r_MFl_result_290, r_MFl_result_291, r_MFl_result_294, r_MFl_result_295, r_MFl_result_296, r_MFl_result_297, sL_0, sL_1, sL_2, mk_i, mk_r, mk_f, mk_n, mk_u, mk_l, List.set_cons_succ, List.set_cons_zero, Nat.reduceAdd, ckS_0, ckS_1, ckS_2, ckS_3, ckS_4, Option.bind_some, Option.isSome_some, psh, if_true, if_false, i10, not_true_eq_false, not_false_eq_true, Bool.false_eq_true, and_self, and_true, true_and, eq_self, c, c1]
      · simp only [r_MFl_result_0, r_MFl_result_1_2, r_MFl_result_1_33, r_MFl_result_1_37, r_MFl_result_1_38, r_MFl_result_1_42, r_MFl_result_1_43, r_MFl_result_1_45, r_MFl_result_1_47, r_MFl_result_1_60, r_MFl_result_1_61, r_MFl_result_1_62, r_MFl_result_1_105, r_MFl_result_1_112, r_MFl_result_1_113, r_MFl_result_1_115, r_MFl_result_1_118, r_MFl_result_1_119, r_MFl_result_1_124, r_MFl_result_1_m1, r_MFl_result_156, r_MFl_result_157, r_MFl_result_160, r_MFl_result_161, r_MFl_result_162, r_MFl_result_165, r_MFl_result_166, r_MFl_result_167, r_MFl_result_170, r_MFl_result_171, r_MFl_result_172, r_MFl_result_175, r_MFl_result_176, r_MFl_result_177, r_MFl_result_180, r_MFl_result_181, r_MFl_result_182, r_MFl_result_185, r_MFl_result_186, r_MFl_result_187, r_MFl_result_190, r_MFl_result_191, r_MFl_result_194, r_MFl_result_195, r_MFl_result_196, r_MFl_result_197, r_MFl_result_198, r_MFl_result_199, r_MFl_result_200, r_MFl_result_201, r_MFl_result_202, r_MFl_result_203, r_MFl_result_204, r_MFl_result_205, r_MFl_result_206, r_MFl_result_207, r_MFl_result_208, r_MFl_result_209, r_MFl_result_210, r_MFl_result_211, r_MFl_result_212, r_MFl_result_215, r_MFl_result_216, r_MFl_result_219, r_MFl_result_220, r_MFl_result_221, r_MFl_result_222, r_MFl_result_223, r_MFl_result_224, r_MFl_result_227, r_MFl_result_228, r_MFl_result_231, r_MFl_result_232, r_MFl_result_233, r_MFl_result_234, r_MFl_result_235, r_MFl_result_236, r_MFl_result_237, r_MFl_result_240, r_MFl_result_241, r_MFl_result_244, r_MFl_result_245, r_MFl_result_246, r_MFl_result_247, r_MFl_result_248, r_MFl_result_251, r_MFl_result_252, r_MFl_result_255, r_MFl_result_256, r_MFl_result_257, r_MFl_result_258, r_MFl_result_259, r_MFl_result_262, r_MFl_result_263, r_MFl_result_266, r_MFl_result_267, r_MFl_result_268, r_MFl_result_269, r_MFl_result_272, r_MFl_result_273, r_MFl_result_276, r_MFl_result_277, r_MFl_result_280, r_MFl_result_281, r_MFl_result_282, r_MFl_result_283, r_MFl_result_286, r_MFl_result_287, r_MFl_result_290, r_MFl_result_291, r_MFl_result_294, r_MFl_result_295, r_MFl_result_296, r_MFl_result_297, sL_0, sL_1, sL_2, mk_i, mk_r, mk_f, mk_n, mk_u, mk_l, List.set_cons_succ, List.set_cons_zero, Nat.reduceAdd, ckS_0, ckS_1, ckS_2, ckS_3, ckS_4, Option.bind_some, Option.isSome_some, psh, if_true, if_false, i10, not_true_eq_false, not_false_eq_true, Bool.false_eq_true, and_self, and_true, true_and, eq_self, c]
theorem e_valAt (qa : flA a) : Rr X d MFl_valueAt 0 [.ref a, .int x] [] (Wd m la ro et) = some (some (.int (gtV (m (a + 4)) x)), Wd m la ro et) := by
  obtain ⟨⟨o1, o2, o3⟩, _, _, _, ⟨g1, g2, g3, g4⟩⟩ := qa
  unfold gtV
  have e0 : (0 : Int32).toInt = 0 := rfl
  have e121 : (121 : Int32).toInt = 121 := rfl
  by_cases c : 0 ≤ x ∧ x < 121
  · obtain ⟨c1, c2⟩ := c
    have n0 : ¬ x < 0 := Int32.not_lt.mpr c1
    have n1 : ¬ 121 ≤ x := Int32.not_le.mpr c2
    obtain ⟨K, hK, rfl⟩ : ∃ K : Nat, K < 121 ∧ x = nI K := by
      have d1 := c1
      have d2 := c2
      rw [Int32.le_iff_toInt_le] at d1
      rw [Int32.lt_iff_toInt_lt] at d2
      refine ⟨x.toInt.toNat, by omega, Int32.toInt_inj.mp ?_⟩
      rw [nI_toInt (by omega)]
      omega
    have cK : (nI K).toNatClampNeg = K := nI_clamp (by omega)
    have iK : ¬ 121 ≤ K := by omega
    rw [if_pos ⟨c1, c2⟩]
    simp only [r_MFl_valueAt_0, r_MFl_valueAt_1, r_MFl_valueAt_4, r_MFl_valueAt_5, r_MFl_valueAt_7, r_MFl_valueAt_10, r_MFl_valueAt_11, r_MFl_valueAt_14, r_MFl_valueAt_15, r_MFl_valueAt_16, r_MFl_valueAt_19, r_MFl_valueAt_20, sL_0, sL_1, sL_2, mk_i, mk_r, mk_f, mk_n, mk_u, mk_l, List.set_cons_succ, List.set_cons_zero, Nat.reduceAdd, ckS_0, ckS_1, ckS_2, ckS_3, ckS_4, Option.bind_some, Option.isSome_some, psh, if_true, if_false, i10, not_true_eq_false, not_false_eq_true, Bool.false_eq_true, and_self, and_true, true_and, eq_self, g1, g2, g3, g4, n0, n1, cK, iK, or_self]
  · rw [if_neg c]
    by_cases c1 : x < 0
    · simp only [r_MFl_valueAt_0, r_MFl_valueAt_1, r_MFl_valueAt_4, r_MFl_valueAt_5, r_MFl_valueAt_7, r_MFl_valueAt_10, r_MFl_valueAt_11, r_MFl_valueAt_14, r_MFl_valueAt_15, r_MFl_valueAt_16, r_MFl_valueAt_19, r_MFl_valueAt_20, sL_0, sL_1, sL_2, mk_i, mk_r, mk_f, mk_n, mk_u, mk_l, List.set_cons_succ, List.set_cons_zero, Nat.reduceAdd, ckS_0, ckS_1, ckS_2, ckS_3, ckS_4, Option.bind_some, Option.isSome_some, psh, if_true, if_false, i10, not_true_eq_false, not_false_eq_true, Bool.false_eq_true, and_self, and_true, true_and, eq_self, c1]
    · have n1 : 121 ≤ x := Int32.not_lt.mp fun q => c ⟨Int32.not_lt.mp c1, q⟩
      simp only [r_MFl_valueAt_0, r_MFl_valueAt_1, r_MFl_valueAt_4, r_MFl_valueAt_5, r_MFl_valueAt_7, r_MFl_valueAt_10, r_MFl_valueAt_11, r_MFl_valueAt_14, r_MFl_valueAt_15, r_MFl_valueAt_16, r_MFl_valueAt_19, r_MFl_valueAt_20, sL_0, sL_1, sL_2, mk_i, mk_r, mk_f, mk_n, mk_u, mk_l, List.set_cons_succ, List.set_cons_zero, Nat.reduceAdd, ckS_0, ckS_1, ckS_2, ckS_3, ckS_4, Option.bind_some, Option.isSome_some, psh, if_true, if_false, i10, not_true_eq_false, not_false_eq_true, Bool.false_eq_true, and_self, and_true, true_and, eq_self, c1, n1]
/-- the class's memory with values V in floor a -/
noncomputable def vM (m : Mu) (a : Nat) (V : Nat → Int32) : Mu := fun c j => if c = a + 4 then V j else m c j
theorem vM_s {V : Nat → Int32} : vM m a V (a + 4) = V := funext fun j => if_pos rfl
theorem vM_o {V : Nat → Int32} {c : Nat} (h : ¬ c = a + 4) : vM m a V c = m c := funext fun j => if_neg h
theorem vM_up {V : Nat → Int32} : up2 (vM m a V) (a + 4) k x = vM m a (upd V k x) := by
  refine funext fun c => funext fun j => ?_
  rw [up2_e]
  unfold vM
  by_cases h : c = a + 4
  · rw [if_pos h, if_pos h, upd_e]
    by_cases q : j = k
    · rw [if_pos ⟨h, q⟩, if_pos q]
    · rw [if_neg (fun z => q z.2), if_neg q]
  · rw [if_neg (fun z => h z.1), if_neg h, if_neg h]
theorem vM_r : vM m a (m (a + 4)) = m := by
  refine funext fun c => funext fun j => ?_
  unfold vM
  split
  · rename_i h; rw [h]
  · rfl
set_option maxHeartbeats 4000000 in
theorem tk_loop (qa : flA a) (qb : flB a) (hn : n ≤ 121) (h4 : m a 4 = nI n) (hz : 0 < size) (he : ∀ k, k < 6 → m a (5 + k) = e k) : ∀ (R : List Pt) (at' : Nat) (b : Bool) (V : Nat → Int32) (l5 l6 : Value), at' + R.length = n → (∀ i p, R[i]? = some p → m (a + 1) (at' + i) = p.1 ∧ m (a + 2) (at' + i) = p.2.1 ∧ m (a + 3) (at' + i) = p.2.2.1) → NmP R → Rr X (d + 1) MFl_takes 15 [.ref a, .int w, .int size, .int (if b = true then 1 else 0), .int (nI at'), l5, l6] [] (Wd (vM m a V) la ro et) = some (some (.int (tkF e size R at' b V).1), Wd (vM m a (tkF e size R at' b V).2) la ro et) := by
  have qa' := qa
  obtain ⟨⟨o1, o2, o3⟩, ⟨g1, g2, g3, g4⟩, ⟨i1, i2, i3, i4⟩, ⟨j1, j2, j3, j4⟩, ⟨k1, k2, k3, k4⟩⟩ := qa
  intro R
  induction R with
  | nil =>
    intro at' b V l5 l6 hat hc hN
    have : at' = n := by rw [List.length_nil] at hat; omega
    subst this
    have z : nI at' ≤ nI at' := nI_le (Nat.le_refl _) (by omega)
    have v4 : vM m a V a 4 = nI at' := by rw [vM_o (by omega)]; exact h4
    rw [r_MFl_takes_15]
    simp only [r_MFl_takes_17, r_MFl_takes_18, r_MFl_takes_21, r_MFl_takes_149, r_MFl_takes_150, sL_0, sL_1, sL_2, mk_i, mk_r, mk_f, mk_n, mk_u, mk_l, List.set_cons_succ, List.set_cons_zero, Nat.reduceAdd, ckS_0, ckS_1, ckS_2, ckS_3, ckS_4, Option.bind_some, Option.isSome_some, psh, if_true, if_false, i10, not_true_eq_false, not_false_eq_true, Bool.false_eq_true, and_self, and_true, true_and, eq_self, o2, v4, z, tkF]
  | cons p R ih =>
    intro at' b V l5 l6 hat hc hN
    rw [List.length_cons] at hat
    have z1 : ¬ nI n ≤ nI at' := nI_ge (by omega) (by omega)
    have z2 : ¬ 121 ≤ nI at' := nI_ge (a := at') (b := 121) (by omega) (by omega)
    have z3 : ¬ size ≤ 0 := Int32.not_le.mpr hz
    have cA : (nI at').toNatClampNeg = at' := nI_clamp (by omega)
    have iA := ix (j := at') (N := 121) (by omega) (by decide)
    have v4 : vM m a V a 4 = nI n := by rw [vM_o (by omega)]; exact h4
    obtain ⟨p1, p2, p3⟩ := hc 0 p rfl
    rw [Nat.add_zero] at p1 p2 p3
    have w1 : vM m a V (a + 1) at' = p.1 := by rw [vM_o (by omega)]; exact p1
    have w2 : vM m a V (a + 2) at' = p.2.1 := by rw [vM_o (by omega)]; exact p2
    have w3 : vM m a V (a + 3) at' = p.2.2.1 := by rw [vM_o (by omega)]; exact p3
    have hp := hN p List.mem_cons_self
    have nx := fun b V l5 l6 => ih (at' + 1) b V l5 l6 (by omega) (fun i x hx => by
      have := hc (i + 1) x (by simpa using hx)
      rw [show at' + 1 + i = at' + (i + 1) by omega]
      exact this) (fun x hx => hN x (List.mem_cons_of_mem _ hx))
    have el := fun x => e_valAt (X := X) (d := d) (m := vM m a V) (la := la) (ro := ro) (et := et) (x := x) qa'
    simp only [vM_s] at el
    have eC : ∀ k, k < 6 → vM m a V a (5 + k) = e k := fun k hk => by rw [vM_o (by omega)]; exact he k hk
    rw [tkF, r_MFl_takes_15]
    by_cases c4 : p.1 = 4
    · rw [if_pos c4]
      by_cases cb : b = true
      · rw [if_pos cb, if_pos cb]
        have n1 := nx false V (.int 4) (.int (gtV V p.2.1))
        rw [if_neg (by decide)] at n1
        rw [← n1]
        simp only [r_MFl_takes_17, r_MFl_takes_18, r_MFl_takes_21, r_MFl_takes_24, r_MFl_takes_26, r_MFl_takes_28, r_MFl_takes_31, r_MFl_takes_32, r_MFl_takes_35, r_MFl_takes_36, r_MFl_takes_39, r_MFl_takes_41, r_MFl_takes_42, r_MFl_takes_44, r_MFl_takes_45, r_MFl_takes_46, r_MFl_takes_49, r_MFl_takes_51, r_MFl_takes_52, r_MFl_takes_55, r_MFl_takes_57, r_MFl_takes_59, r_MFl_takes_60, r_MFl_takes_63, r_MFl_takes_64, r_MFl_takes_67, r_MFl_takes_68, r_MFl_takes_69, r_MFl_takes_71, r_MFl_takes_74, r_MFl_takes_77, r_MFl_takes_78, r_MFl_takes_79, r_MFl_takes_80, r_MFl_takes_143, r_MFl_takes_146, sL_0, sL_1, sL_2, mk_i, mk_r, mk_f, mk_n, mk_u, mk_l, List.set_cons_succ, List.set_cons_zero, Nat.reduceAdd, ckS_0, ckS_1, ckS_2, ckS_3, ckS_4, Option.bind_some, Option.isSome_some, psh, if_true, if_false, i10, not_true_eq_false, not_false_eq_true, Bool.false_eq_true, and_self, and_true, true_and, eq_self, o1, o2, v4, z1, z2, z3, g1, g2, g3, g4, i1, i2, i3, i4, cA, iA, w1, w2, el, c4, nI_1]
      · rw [if_neg cb, if_neg cb]
        have eh : hd0 size (gtV V p.2.1) = if 0 < (if gtV V p.2.1 < size then gtV V p.2.1 else size) then (if gtV V p.2.1 < size then gtV V p.2.1 else size) else 0 := rfl
        rw [eh]
        simp only [r_MFl_takes_17, r_MFl_takes_18, r_MFl_takes_21, r_MFl_takes_24, r_MFl_takes_26, r_MFl_takes_28, r_MFl_takes_31, r_MFl_takes_32, r_MFl_takes_35, r_MFl_takes_36, r_MFl_takes_39, r_MFl_takes_41, r_MFl_takes_42, r_MFl_takes_44, r_MFl_takes_45, r_MFl_takes_46, r_MFl_takes_49, r_MFl_takes_51, r_MFl_takes_52, r_MFl_takes_55, r_MFl_takes_57, r_MFl_takes_59, r_MFl_takes_60, r_MFl_takes_63, r_MFl_takes_64, r_MFl_takes_67, r_MFl_takes_68, r_MFl_takes_69, r_MFl_takes_71, r_MFl_takes_74, r_MFl_takes_77, sL_0, sL_1, sL_2, mk_i, mk_r, mk_f, mk_n, mk_u, mk_l, List.set_cons_succ, List.set_cons_zero, Nat.reduceAdd, ckS_0, ckS_1, ckS_2, ckS_3, ckS_4, Option.bind_some, Option.isSome_some, psh, if_true, if_false, i10, not_true_eq_false, not_false_eq_true, Bool.false_eq_true, and_self, and_true, true_and, eq_self, o1, o2, v4, z1, z2, z3, g1, g2, g3, g4, i1, i2, i3, i4, cA, iA, w1, w2, el, c4]
    · rw [if_neg c4]
      by_cases cb : b = true
      · rw [if_pos cb, if_pos cb]
        have n1 := nx true V (.int p.1) (.int (gtV V p.2.1))
        rw [if_pos rfl] at n1
        rw [← n1]
        simp only [r_MFl_takes_17, r_MFl_takes_18, r_MFl_takes_21, r_MFl_takes_24, r_MFl_takes_26, r_MFl_takes_28, r_MFl_takes_31, r_MFl_takes_32, r_MFl_takes_35, r_MFl_takes_36, r_MFl_takes_39, r_MFl_takes_41, r_MFl_takes_42, r_MFl_takes_44, r_MFl_takes_45, r_MFl_takes_46, r_MFl_takes_49, r_MFl_takes_51, r_MFl_takes_52, r_MFl_takes_55, r_MFl_takes_57, r_MFl_takes_59, r_MFl_takes_60, r_MFl_takes_83, r_MFl_takes_84, r_MFl_takes_107, r_MFl_takes_108, r_MFl_takes_143, r_MFl_takes_146, sL_0, sL_1, sL_2, mk_i, mk_r, mk_f, mk_n, mk_u, mk_l, List.set_cons_succ, List.set_cons_zero, Nat.reduceAdd, ckS_0, ckS_1, ckS_2, ckS_3, ckS_4, Option.bind_some, Option.isSome_some, psh, if_true, if_false, i10, not_true_eq_false, not_false_eq_true, Bool.false_eq_true, and_self, and_true, true_and, eq_self, o1, o2, v4, z1, z2, z3, g1, g2, g3, g4, i1, i2, i3, i4, cA, iA, w1, w2, el, c4, nI_1]
      · rw [if_neg cb, if_neg cb]
        by_cases c3 : p.1 = 3
        · rw [if_pos c3]
          have n1 := nx (decide (gtV V p.2.1 = 0)) V (.int 3) (.int (gtV V p.2.1))
          have z34 : ((3 : Int32) = 4) = False := eq_false (by decide)
          by_cases cl : gtV V p.2.1 = 0
          · rw [decide_eq_true cl, if_pos rfl] at n1
            rw [decide_eq_true cl, ← n1]
            simp only [r_MFl_takes_17, r_MFl_takes_18, r_MFl_takes_21, r_MFl_takes_24, r_MFl_takes_26, r_MFl_takes_28, r_MFl_takes_31, r_MFl_takes_32, r_MFl_takes_35, r_MFl_takes_36, r_MFl_takes_39, r_MFl_takes_41, r_MFl_takes_42, r_MFl_takes_44, r_MFl_takes_45, r_MFl_takes_46, r_MFl_takes_49, r_MFl_takes_51, r_MFl_takes_52, r_MFl_takes_55, r_MFl_takes_57, r_MFl_takes_59, r_MFl_takes_60, r_MFl_takes_83, r_MFl_takes_84, r_MFl_takes_87, r_MFl_takes_89, r_MFl_takes_90, r_MFl_takes_93, r_MFl_takes_95, r_MFl_takes_98, r_MFl_takes_99, r_MFl_takes_102, r_MFl_takes_103, r_MFl_takes_104, r_MFl_takes_143, r_MFl_takes_146, sL_0, sL_1, sL_2, mk_i, mk_r, mk_f, mk_n, mk_u, mk_l, List.set_cons_succ, List.set_cons_zero, Nat.reduceAdd, ckS_0, ckS_1, ckS_2, ckS_3, ckS_4, Option.bind_some, Option.isSome_some, psh, if_true, if_false, i10, not_true_eq_false, not_false_eq_true, Bool.false_eq_true, and_self, and_true, true_and, eq_self, o1, o2, v4, z1, z2, z3, g1, g2, g3, g4, i1, i2, i3, i4, cA, iA, w1, w2, el, c3, z34, cl, nI_1]
          · rw [decide_eq_false cl, if_neg (by decide)] at n1
            rw [decide_eq_false cl, ← n1]
            simp only [r_MFl_takes_17, r_MFl_takes_18, r_MFl_takes_21, r_MFl_takes_24, r_MFl_takes_26, r_MFl_takes_28, r_MFl_takes_31, r_MFl_takes_32, r_MFl_takes_35, r_MFl_takes_36, r_MFl_takes_39, r_MFl_takes_41, r_MFl_takes_42, r_MFl_takes_44, r_MFl_takes_45, r_MFl_takes_46, r_MFl_takes_49, r_MFl_takes_51, r_MFl_takes_52, r_MFl_takes_55, r_MFl_takes_57, r_MFl_takes_59, r_MFl_takes_60, r_MFl_takes_83, r_MFl_takes_84, r_MFl_takes_87, r_MFl_takes_89, r_MFl_takes_90, r_MFl_takes_93, r_MFl_takes_95, r_MFl_takes_98, r_MFl_takes_99, r_MFl_takes_102, r_MFl_takes_103, r_MFl_takes_104, r_MFl_takes_143, r_MFl_takes_146, sL_0, sL_1, sL_2, mk_i, mk_r, mk_f, mk_n, mk_u, mk_l, List.set_cons_succ, List.set_cons_zero, Nat.reduceAdd, ckS_0, ckS_1, ckS_2, ckS_3, ckS_4, Option.bind_some, Option.isSome_some, psh, if_true, if_false, i10, not_true_eq_false, not_false_eq_true, Bool.false_eq_true, and_self, and_true, true_and, eq_self, o1, o2, v4, z1, z2, z3, g1, g2, g3, g4, i1, i2, i3, i4, cA, iA, w1, w2, el, c3, z34, cl, nI_1]
        · rw [if_neg c3]
          by_cases c1 : p.1 = 1
          · rw [if_pos c1]
            have n1 := nx false V (.int 1) (.int (gtV V p.2.1))
            have z14 : ((1 : Int32) = 4) = False := eq_false (by decide)
            have z13 : ((1 : Int32) = 3) = False := eq_false (by decide)
            rw [if_neg (by decide)] at n1
            rw [← n1]
            simp only [r_MFl_takes_17, r_MFl_takes_18, r_MFl_takes_21, r_MFl_takes_24, r_MFl_takes_26, r_MFl_takes_28, r_MFl_takes_31, r_MFl_takes_32, r_MFl_takes_35, r_MFl_takes_36, r_MFl_takes_39, r_MFl_takes_41, r_MFl_takes_42, r_MFl_takes_44, r_MFl_takes_45, r_MFl_takes_46, r_MFl_takes_49, r_MFl_takes_51, r_MFl_takes_52, r_MFl_takes_55, r_MFl_takes_57, r_MFl_takes_59, r_MFl_takes_60, r_MFl_takes_83, r_MFl_takes_84, r_MFl_takes_87, r_MFl_takes_89, r_MFl_takes_90, r_MFl_takes_107, r_MFl_takes_108, r_MFl_takes_111, r_MFl_takes_113, r_MFl_takes_114, r_MFl_takes_143, r_MFl_takes_146, sL_0, sL_1, sL_2, mk_i, mk_r, mk_f, mk_n, mk_u, mk_l, List.set_cons_succ, List.set_cons_zero, Nat.reduceAdd, ckS_0, ckS_1, ckS_2, ckS_3, ckS_4, Option.bind_some, Option.isSome_some, psh, if_true, if_false, i10, not_true_eq_false, not_false_eq_true, Bool.false_eq_true, and_self, and_true, true_and, eq_self, o1, o2, v4, z1, z2, z3, g1, g2, g3, g4, i1, i2, i3, i4, cA, iA, w1, w2, el, c1, z13, z14, nI_1]
          · rw [if_neg c1]
            have n1 := nx false (upd V at' (rsF e p.1 (gtV V p.2.1) (gtV V p.2.2.1))) (.int p.1) (.int (gtV V p.2.1))
            rw [if_neg (by decide)] at n1
            rw [← n1]
            have hk : p.1 = 2 ∨ p.1 = 33 ∨ 0 ≤ nmF p.1 ∨ siK p.1 := by
              rcases hp.1 with q | q | q
              · exact absurd q c3
              · exact absurd q c4
              · rcases q.2.2 with q | q
                · exact absurd q c1
                · exact q
            have er := e_result (X := X) (d := d) (m := vM m a V) (la := la) (ro := ro) (et := et) (c := p.1) (l := gtV V p.2.1) (r := gtV V p.2.2.1) qa' qb eC hk
            have c5 : ckS [Value.int (gtV V p.2.1), .int p.1, .ref a, .int (nI at'), .ref (a + 4)] = true := rfl
            simp only [r_MFl_takes_17, r_MFl_takes_18, r_MFl_takes_21, r_MFl_takes_24, r_MFl_takes_26, r_MFl_takes_28, r_MFl_takes_31, r_MFl_takes_32, r_MFl_takes_35, r_MFl_takes_36, r_MFl_takes_39, r_MFl_takes_41, r_MFl_takes_42, r_MFl_takes_44, r_MFl_takes_45, r_MFl_takes_46, r_MFl_takes_49, r_MFl_takes_51, r_MFl_takes_52, r_MFl_takes_55, r_MFl_takes_57, r_MFl_takes_59, r_MFl_takes_60, r_MFl_takes_83, r_MFl_takes_84, r_MFl_takes_87, r_MFl_takes_89, r_MFl_takes_90, r_MFl_takes_107, r_MFl_takes_108, r_MFl_takes_111, r_MFl_takes_113, r_MFl_takes_114, r_MFl_takes_117, r_MFl_takes_118, r_MFl_takes_121, r_MFl_takes_123, r_MFl_takes_124, r_MFl_takes_126, r_MFl_takes_128, r_MFl_takes_129, r_MFl_takes_130, r_MFl_takes_133, r_MFl_takes_135, r_MFl_takes_136, r_MFl_takes_139, r_MFl_takes_142, r_MFl_takes_143, r_MFl_takes_146, sL_0, sL_1, sL_2, mk_i, mk_r, mk_f, mk_n, mk_u, mk_l, List.set_cons_succ, List.set_cons_zero, Nat.reduceAdd, ckS_0, ckS_1, ckS_2, ckS_3, ckS_4, Option.bind_some, Option.isSome_some, psh, if_true, if_false, i10, not_true_eq_false, not_false_eq_true, Bool.false_eq_true, and_self, and_true, true_and, eq_self, o1, o2, v4, z1, z2, z3, g1, g2, g3, g4, i1, i2, i3, i4, j1, j2, j3, j4, k1, k2, k3, k4, cA, iA, w1, w2, w3, el, c1, c3, c4, er, vM_up, nI_1, c5]
/-- what a floor of the class takes -/
noncomputable def tkV (e : Nat → Int32) (ls : List Ln) (size : Int32) : Int32 := if 0 < size then hd0 size (gvL e ls) else 0
theorem FlC_num (h : FlC m a P) : NumOk P 0 (m (a + 4)) := fun i p v h1 h2 => by
  rw [Nat.zero_add]
  exact (h.2 i p h1).2.2.2 v h2
set_option maxHeartbeats 2000000 in
theorem c_takes (qa : flA a) (qb : flB a) (e0 : e 0 = w) (e1 : e 1 = size) (he : ∀ k, k < 4 → m a (7 + k) = e (2 + k)) (hf : FlC m a (ptL ls)) (hl : lnsOkC 0 ls) (hn : (ptL ls).length ≤ 121) : ∃ m', Rr X (d + 1) MFl_takes 0 [.ref a, .int w, .int size, mkU, mkU, mkU, mkU] [] (Wd m la ro et) = some (some (.int (tkV e ls size)), Wd m' la ro et) ∧ (∀ c j, ¬ c = a + 4 → ¬ (c = a ∧ (j = 5 ∨ j = 6)) → m' c j = m c j) ∧ FlC m' a (ptL ls) := by
  obtain ⟨b5, b6, _⟩ := id qb
  have ha := qa.1.2.2
  have o1 := qa.1.1
  have o2 := qa.1.2.1
  obtain ⟨m0, hm0⟩ : ∃ m0, m0 = up2 (up2 m a 5 w) a 6 size := ⟨_, rfl⟩
  have o0 : ∀ c j, ¬ (c = a ∧ (j = 5 ∨ j = 6)) → m0 c j = m c j := fun c j h => by
    rw [hm0, up2_e, up2_e, if_neg (fun q => h ⟨q.1, .inr q.2⟩), if_neg (fun q => h ⟨q.1, .inl q.2⟩)]
  have hf0 : FlC m0 a (ptL ls) := by
    obtain ⟨f1, f2⟩ := hf
    refine ⟨(o0 _ _ (by omega)).trans f1, fun i p hp => ?_⟩
    obtain ⟨t1, t2, t3, t4⟩ := f2 i p hp
    exact ⟨(o0 _ _ (by omega)).trans t1, (o0 _ _ (by omega)).trans t2, (o0 _ _ (by omega)).trans t3, fun v hv => (o0 _ _ (by omega)).trans (t4 v hv)⟩
  have hN := NmP_ls ls 0 hl
  have he0 : ∀ k, k < 6 → m0 a (5 + k) = e k := fun k hk => by
    by_cases k0 : k = 0
    · subst k0
      rw [hm0, up2_k (by omega), up2_s, e0]
    by_cases k1 : k = 1
    · subst k1
      rw [hm0, up2_s, e1]
    · rw [o0 _ _ (by omega), show 5 + k = 7 + (k - 2) by omega, he (k - 2) (by omega), show 2 + (k - 2) = k by omega]
  have st : Rr X (d + 1) MFl_takes 0 [.ref a, .int w, .int size, mkU, mkU, mkU, mkU] [] (Wd m la ro et) = Rr X (d + 1) MFl_takes 15 [.ref a, .int w, .int size, .int 0, .int 0, mkU, mkU] [] (Wd m0 la ro et) := by
    rw [hm0]
    simp only [r_MFl_takes_0, r_MFl_takes_1, r_MFl_takes_2, r_MFl_takes_5, r_MFl_takes_6, r_MFl_takes_7, r_MFl_takes_10, r_MFl_takes_11, r_MFl_takes_12, r_MFl_takes_13, sL_0, sL_1, sL_2, mk_i, mk_r, mk_f, mk_n, mk_u, mk_l, List.set_cons_succ, List.set_cons_zero, Nat.reduceAdd, ckS_0, ckS_1, ckS_2, ckS_3, ckS_4, Option.bind_some, Option.isSome_some, psh, if_true, if_false, i10, not_true_eq_false, not_false_eq_true, Bool.false_eq_true, and_self, and_true, true_and, eq_self, b5, b6]
  rw [st]
  unfold tkV
  by_cases hz : 0 < size
  · have lp := tk_loop (X := X) (d := d) (m := m0) (la := la) (ro := ro) (et := et) (w := w) qa qb hn hf0.1 hz he0 (ptL ls) 0 false (m0 (a + 4)) mkU mkU (by omega) (fun i p hp => by
      obtain ⟨t1, t2, t3, t4⟩ := hf0.2 i p hp
      rw [Nat.zero_add]
      exact ⟨t1, t2, t3⟩) hN
    rw [vM_r, nI_0, if_neg (by decide), tk_gv hz ls 0 _ hl (by omega) (FlC_num hf0)] at lp
    rw [if_pos hz]
    refine ⟨_, lp, fun c j h1 h2 => ?_, ?_⟩
    · rw [vM_o h1]
      exact o0 c j h2
    · refine ⟨by rw [vM_o (by omega)]; exact hf0.1, fun i p hp => ?_⟩
      obtain ⟨t1, t2, t3, t4⟩ := hf0.2 i p hp
      rw [vM_o (by omega), vM_o (by omega), vM_o (by omega), vM_s]
      refine ⟨t1, t2, t3, fun v hv => ?_⟩
      rw [tk_num _ _ _ _ hN i (.inr (.inr ⟨p, v, by rw [Nat.sub_zero]; exact hp, hv⟩))]
      exact t4 v hv
  · have z3 : size ≤ 0 := Int32.not_lt.mp hz
    rw [if_neg hz]
    refine ⟨m0, ?_, fun c j _ h2 => o0 c j h2, hf0⟩
    have h4 := hf0.1
    rw [r_MFl_takes_15]
    simp only [r_MFl_takes_17, r_MFl_takes_18, r_MFl_takes_21, r_MFl_takes_24, r_MFl_takes_26, r_MFl_takes_28, r_MFl_takes_31, r_MFl_takes_32, r_MFl_takes_149, r_MFl_takes_150, sL_0, sL_1, sL_2, mk_i, mk_r, mk_f, mk_n, mk_u, mk_l, List.set_cons_succ, List.set_cons_zero, Nat.reduceAdd, ckS_0, ckS_1, ckS_2, ckS_3, ckS_4, Option.bind_some, Option.isSome_some, psh, if_true, if_false, i10, not_true_eq_false, not_false_eq_true, Bool.false_eq_true, and_self, and_true, true_and, eq_self, o2, h4, z3, ite_self]
-- the model
def pil (m : Mu) : List Int32 → Prop
  | [] => True
  | x :: t => m 98 t.length = x ∧ pil m t
theorem pil_up {v : Int32} : ∀ {st : List Int32} {k : Nat}, pil m st → st.length ≤ k → pil (up2 m 98 k v) st
  | [], _, _, _ => trivial
  | x :: t, k, ⟨h1, h2⟩, hk => by
    rw [List.length_cons] at hk
    exact ⟨by rw [up2_k (by omega)]; exact h1, pil_up h2 (by omega)⟩
theorem wk1_mst {n' : Nat} (he : ∀ k, k < 6 → m 97 k = e k) (h : pil m st) (hd : dp1 (m 92 q) (m 93 q) st.length = some n') : pil (wk1 m q st.length).1 (mst e st (m 92 q, m 93 q)) ∧ (mst e st (m 92 q, m 93 q)).length = (wk1 m q st.length).2 ∧ n' = (wk1 m q st.length).2 := by
  unfold wk1 mst
  dsimp only
  by_cases c1 : m 92 q = 1
  · obtain ⟨b1, rfl⟩ := dp1_1 c1 hd
    rw [if_pos c1, if_pos c1]
    dsimp only
    exact ⟨⟨up2_s _ _ _ _, pil_up h (Nat.le_refl _)⟩, rfl, rfl⟩
  rw [if_neg c1, if_neg c1]
  by_cases c2 : m 92 q = 2
  · obtain ⟨b1, b2, rfl⟩ := dp1_2 c1 c2 hd
    rw [if_pos c2, if_pos c2]
    dsimp only
    refine ⟨⟨?_, pil_up h (Nat.le_refl _)⟩, rfl, rfl⟩
    rw [up2_s]
    exact he _ (by omega)
  rw [if_neg c2, if_neg c2]
  by_cases c3 : m 92 q = 3
  · obtain ⟨b1, rfl⟩ := dp1_34 c1 c2 (.inl c3) hd
    rw [if_pos c3, if_pos c3]
    dsimp only
    match st, h, b1 with
    | x :: t, ⟨h1, h2⟩, _ =>
      rw [List.length_cons, Nat.add_sub_cancel]
      refine ⟨⟨?_, pil_up h2 (Nat.le_refl _)⟩, rfl, rfl⟩
      rw [up2_s, h1]
  rw [if_neg c3, if_neg c3]
  by_cases c4 : m 92 q = 4
  · obtain ⟨b1, rfl⟩ := dp1_34 c1 c2 (.inr c4) hd
    rw [if_pos c4, if_pos c4]
    dsimp only
    match st, h, b1 with
    | x :: t, ⟨h1, h2⟩, _ =>
      rw [List.length_cons, Nat.add_sub_cancel]
      refine ⟨⟨?_, pil_up h2 (Nat.le_refl _)⟩, rfl, rfl⟩
      rw [up2_s, h1]
  · obtain ⟨b1, rfl⟩ := dp1_x c1 c2 (by rintro (q | q); exact c3 q; exact c4 q) hd
    rw [if_neg c4, if_neg c4]
    dsimp only
    match st, h, b1 with
    | y :: x :: t, ⟨h1, h2, h3⟩, _ =>
      rw [List.length_cons] at h1
      have e2 : (y :: x :: t).length - 2 = t.length := by simp
      have e1 : (y :: x :: t).length - 1 = t.length + 1 := by simp
      rw [e1, e2]
      refine ⟨⟨?_, pil_up h3 (Nat.le_refl _)⟩, rfl, rfl⟩
      rw [up2_s, h1, h2]
theorem wk_mev : ∀ (code : List (Int32 × Int32)) (q : Nat) (m : Mu) (st : List Int32), (∀ k, k < 6 → m 97 k = e k) → (∀ i c, code[i]? = some c → m 92 (q + i) = c.1 ∧ m 93 (q + i) = c.2) → pil m st → (dpt m code.length q st.length).isSome = true → pil (wk m code.length q st.length) (mev e code st)
  | [], _, _, _, _, _, h, _ => h
  | c :: code, q, m, st, he, hc, h, hd => by
    rw [List.length_cons, dpt] at hd
    obtain ⟨c1, c2⟩ := hc 0 c rfl
    rw [Nat.add_zero] at c1 c2
    cases e1 : dp1 (m 92 q) (m 93 q) st.length with
    | none => rw [e1] at hd; cases hd
    | some n' =>
      rw [e1, Option.bind_some] at hd
      obtain ⟨p1, p2, p3⟩ := wk1_mst he h e1
      have o : ∀ c j, ¬ c = 98 → (wk1 m q st.length).1 c j = m c j := fun c j hc => wk1_o hc
      have em : mst e st c = mst e st (m 92 q, m 93 q) := by rw [c1, c2]
      have ih := wk_mev code (q + 1) (wk1 m q st.length).1 (mst e st (m 92 q, m 93 q)) (fun k hk => (o 97 k (by decide)).trans (he k hk)) (fun i x hx => by
        rw [o _ _ (by decide), o _ _ (by decide), show q + 1 + i = q + (i + 1) by omega]
        exact hc (i + 1) x (by simpa using hx)) p1 (by
        rw [dpt_e (fun j => o 92 j (by decide)) (fun j => o 93 j (by decide)), p2, ← p3]
        exact hd)
      rw [p2] at ih
      rw [List.length_cons, wk]
      show pil _ (List.foldl (mst e) (mst e st c) code)
      rw [em]
      exact ih
theorem wk_wv (he : ∀ k, k < 6 → m 97 k = e k) (hs : ∀ st, mev e code st = wv e code :: st) (hc : ∀ i c, code[i]? = some c → m 92 (q + i) = c.1 ∧ m 93 (q + i) = c.2) (hd : (dpt m code.length q 0).isSome = true) : wk m code.length q 0 98 0 = wv e code := by
  have h := wk_mev code q m [] he hc trivial hd
  rw [hs] at h
  exact h.1
set_option maxHeartbeats 2000000 in
theorem gv_gvL {p : Nat} (hp : p < 4) : ∀ (ls : List Ln) (l A k : Nat) (m : Mu), (∀ k, k < 6 → m 97 k = e k) → A + (cdL ls).length ≤ 130 → lnsOkC k ls → rowsOk m (61 * p) l A ls → (∀ i c, (cdL ls)[i]? = some c → m 92 (130 * p + (A + i)) = c.1 ∧ m 93 (130 * p + (A + i)) = c.2) → lnsOk m p ls.length l A → (gv p ls.length l A m).1 = gvL e ls
  | [], _, _, _, _, _, _, _, _, _, _ => rfl
  | x :: r, l, A, k, m, he, hB, ⟨k1, k2⟩, ⟨⟨r1, r2⟩, r3⟩, hc, hk => by
    obtain ⟨b, c, g1, g2, ⟨g3, g4, g5, g6, g7⟩, g8⟩ := hk
    rw [cdL, List.length_append] at hB
    have xt : x.2.1 ≤ x.1.length := by
      rcases k1 with ⟨t0, _⟩ | ⟨tp, c1, c2, N1, N2, q1, q2, ec, et, _⟩
      · omega
      · rw [ec, et, List.length_append]; omega
    have eb : b = A + x.2.1 := (nI_eq (by omega) (by omega)).mp (g1.symm.trans r1)
    have ecc : c = A + x.1.length := (nI_eq (by omega) (by omega)).mp (g2.symm.trans r2)
    subst eb
    subst ecc
    have cb : (m 95 (61 * p + l)).toNatClampNeg = A + x.2.1 := by rw [g1]; exact nI_clamp (by omega)
    have cc : (m 96 (61 * p + l)).toNatClampNeg = A + x.1.length := by rw [g2]; exact nI_clamp (by omega)
    have hx : ∀ i c, x.1[i]? = some c → m 92 (130 * p + A + i) = c.1 ∧ m 93 (130 * p + A + i) = c.2 := fun i c h => by
      have hi := (List.getElem?_eq_some_iff.mp h).1
      have := hc i c (by rw [cdL, List.getElem?_append_left hi]; exact h)
      rw [← Nat.add_assoc] at this
      exact this
    have hr : ∀ i c, (cdL r)[i]? = some c → m 92 (130 * p + (A + x.1.length + i)) = c.1 ∧ m 93 (130 * p + (A + x.1.length + i)) = c.2 := fun i c h => by
      have := hc (x.1.length + i) c (by rw [cdL, List.getElem?_append_right (by omega), Nat.add_sub_cancel_left]; exact h)
      rw [← Nat.add_assoc A] at this
      exact this
    rw [List.length_cons, gv, gvL]
    simp only [cb, cc]
    rcases k1 with ⟨t0, N1, q, eN, hs⟩ | ⟨tp, c1, c2, N1, N2, q1, q2, ec, et, eN, hs1, hs2⟩
    · rw [if_pos (show A + x.2.1 = A by omega), if_pos t0]
      rw [t0, Nat.add_zero, show A + x.1.length - A = x.1.length by omega] at g7
      dsimp only
      rw [t0, Nat.add_zero, show A + x.1.length - A = x.1.length by omega]
      exact wk_wv he (Sem_wv hs).1 hx g7
    · have tn : ¬ x.2.1 = 0 := by omega
      have l1 : x.1.length = c1.length + c2.length := by rw [ec, List.length_append]
      have s1 : A + x.2.1 - A = c1.length := by omega
      have s2 : A + x.1.length - (A + x.2.1) = c2.length := by omega
      rw [s1] at g6
      rw [s2] at g7
      rw [if_neg (show ¬ A + x.2.1 = A by omega), if_neg tn, s1, s2]
      have hc1 : ∀ i c, c1[i]? = some c → m 92 (130 * p + A + i) = c.1 ∧ m 93 (130 * p + A + i) = c.2 := fun i c h => by
        have hi := (List.getElem?_eq_some_iff.mp h).1
        exact hx i c (by rw [ec, List.getElem?_append_left hi]; exact h)
      have hc2 : ∀ i c, c2[i]? = some c → m 92 (130 * p + (A + x.2.1) + i) = c.1 ∧ m 93 (130 * p + (A + x.2.1) + i) = c.2 := fun i c h => by
        have := hx (c1.length + i) c (by rw [ec, List.getElem?_append_right (by omega), Nat.add_sub_cancel_left]; exact h)
        rw [show 130 * p + (A + x.2.1) + i = 130 * p + A + (c1.length + i) by omega]
        exact this
      have w1 := wk_wv he (Sem_wv hs1).1 hc1 g6
      have et1 : x.1.take x.2.1 = c1 := by rw [ec, et]; exact take_l _ _
      have et2 : x.1.drop x.2.1 = c2 := by rw [ec, et]; exact drop_l _ _
      rw [w1, et1, et2]
      have o : ∀ c j, ¬ c = 98 → wk m c1.length (130 * p + A) 0 c j = m c j := fun c j h => wk_o h _ _ _ _ _
      have he' : ∀ k, k < 6 → wk m c1.length (130 * p + A) 0 97 k = e k := fun k hk => (o 97 k (by decide)).trans (he k hk)
      by_cases z : wv e c1 = 0
      · rw [if_pos z, if_pos z]
        have ih := gv_gvL hp r (l + 1) (A + x.1.length) _ (wk m c1.length (130 * p + A) 0) he' (by omega) k2 (rowsOk_c r _ _ (fun j _ => ⟨o 95 _ (by decide), o 96 _ (by decide)⟩) r3) (fun i c h => by
          rw [o 92 _ (by decide), o 93 _ (by decide)]
          exact hr i c h) (lnsOk_e (fun j => o 92 j (by decide)) (fun j => o 93 j (by decide)) (fun j => o 95 j (by decide)) (fun j => o 96 j (by decide)) _ _ _ g8)
        exact ih
      · rw [if_neg z, if_neg z]
        have w2 := wk_wv (m := wk m c1.length (130 * p + A) 0) (code := c2) (q := 130 * p + (A + x.2.1)) he' (Sem_wv hs2).1 (fun i c h => by
          rw [o 92 _ (by decide), o 93 _ (by decide)]
          exact hc2 i c h) (by rw [dpt_e (fun j => o 92 j (by decide)) (fun j => o 93 j (by decide))]; exact g7)
        exact w2
end
