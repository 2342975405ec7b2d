-- ===== by hand: what a floor's lines are worth
noncomputable def stt (e : Nat → Nat) (i : Nat) : Nat := match i with
  | 0 => 0
  | j + 1 => e j
abbrev vs (L : List (Int32 × Int32)) (a b : Nat) : Prop := (dpL ((L.drop a).take (b - a)) 0).isSome = true
abbrev LV (mu : Mu) (n : Nat) (L : List (Int32 × Int32)) : Prop := ∃ t e : Nat → Nat, (∀ i, i < n → mu 95 (244 + i) = nI (t i) ∧ mu 96 (244 + i) = nI (e i)) ∧ (∀ i, i < n → stt e i ≤ t i ∧ t i ≤ e i ∧ e i ≤ L.length ∧ vs L (stt e i) (t i) ∧ vs L (t i) (e i)) ∧ stt e n = L.length
section
variable {mu mu' : Mu} {n : Nat} {s : PS} {L M : List (Int32 × Int32)}
theorem vs_a {a b : Nat} (h : b ≤ L.length) (v : vs L a b) : vs (L ++ M) a b := by
  by_cases q : a ≤ b
  · have e : ((L ++ M).drop a).take (b - a) = (L.drop a).take (b - a) := by
      rw [List.drop_append_of_le_length (by omega), List.take_append_of_le_length (by rw [List.length_drop]; omega)]
    show (dpL _ 0).isSome = true
    rw [e]
    exact v
  · show (dpL _ 0).isSome = true
    rw [show b - a = 0 by omega, List.take_zero]
    rfl
theorem vs_n {a b : Nat} (h1 : L.length = a) (h2 : a + M.length = b) (v : (dpL M 0).isSome = true) (N : List (Int32 × Int32)) : vs (L ++ M ++ N) a b := by
  show (dpL _ 0).isSome = true
  rw [List.append_assoc, ← h1, List.drop_left, show b - L.length = M.length by omega, List.take_left]
  exact v
theorem stt_e {e e' : Nat → Nat} {i n : Nat} (h : i ≤ n) (he : ∀ j, j < n → e' j = e j) : stt e' i = stt e i := by
  cases i with
  | zero => rfl
  | succ j => exact he j (by omega)
/-- one line more -/
theorem LV_s {t1 e1 : Nat} (h : LV mu n L) (h1 : ∀ i, i < n → mu' 95 (244 + i) = mu 95 (244 + i) ∧ mu' 96 (244 + i) = mu 96 (244 + i)) (h2 : mu' 95 (244 + n) = nI t1) (h3 : mu' 96 (244 + n) = nI e1) (h4 : L.length ≤ t1) (h5 : t1 ≤ e1) (h6 : (L ++ M).length = e1) (h7 : vs (L ++ M) L.length t1) (h8 : vs (L ++ M) t1 e1) : LV mu' (n + 1) (L ++ M) := by
  obtain ⟨t, e, a1, a2, a3⟩ := h
  have he : ∀ j, j < n → (fun i => if i = n then e1 else e i) j = e j := fun j hj => if_neg (by omega)
  refine ⟨fun i => if i = n then t1 else t i, fun i => if i = n then e1 else e i, fun i hi => ?_, fun i hi => ?_, ?_⟩
  · by_cases c : i = n
    · subst c
      simp only [if_true]
      exact ⟨h2, h3⟩
    · simp only [if_neg c]
      obtain ⟨b1, b2⟩ := h1 i (by omega)
      obtain ⟨b3, b4⟩ := a1 i (by omega)
      exact ⟨b1.trans b3, b2.trans b4⟩
  · rw [stt_e (show i ≤ n by omega) he]
    by_cases c : i = n
    · subst c
      simp only [if_true]
      rw [a3]
      exact ⟨h4, h5, by omega, h7, h8⟩
    · simp only [if_neg c]
      obtain ⟨b1, b2, b3, b4, b5⟩ := a2 i (by omega)
      exact ⟨b1, b2, by rw [List.length_append]; omega, vs_a (by omega) b4, vs_a b3 b5⟩
  · show (if n = n then e1 else e n) = _
    rw [if_pos rfl, h6]
theorem ei_code (hT : tOK mu) (h0 : Pre mu 7 s) (h1 : noF (eiS mu s) = true) : ∃ code, (eiS mu s).2.2.2 = s.2.2.2 ++ code ∧ (dpL code 0).isSome = true := by
  have hT2 := Tt_le hT
  obtain ⟨⟨r1, r2⟩, _, _, code, r6, r7, r8⟩ := Gd_ei hT s h0
  rw [if_pos h1] at r7
  refine ⟨code, r6, ?_⟩
  rw [(r8 h1).2.2 0 (by omega)]
  rfl
theorem LV_ln (hT : tOK mu) (h0 : Pre mu 7 s) (h : LV mu n s.2.2.2) (h1 : noF (lnF mu n s).2 = true) : LV (lnF mu n s).1 (n + 1) (lnF mu n s).2.2.2.2 := by
  unfold lnF at h1 ⊢
  split at h1
  · rename_i c
    rw [if_pos c]
    rw [Bool.and_eq_true] at c
    have P2 := Pre_63 hT h0 c.1 (by rw [of_decide_eq_true c.2]; decide)
    obtain ⟨k1, a1, a2⟩ := ei_code hT h0 c.1
    obtain ⟨k2, b1, b2⟩ := ei_code hT P2 h1
    have b1 : (eiS mu (hS (eiS mu s))).2.2.2 = (eiS mu s).2.2.2 ++ k2 := b1
    simp only
    rw [b1, a1, List.append_assoc]
    refine LV_s (mu := mu) (t1 := (s.2.2.2 ++ k1).length) (e1 := (s.2.2.2 ++ k1 ++ k2).length) h (fun i hi => ⟨?_, ?_⟩) ?_ ?_ ?_ ?_ ?_ ?_ ?_
    · simp [up2_e, show ¬ i = n by omega]
    · simp [up2_e, show ¬ i = n by omega]
    · simp [up2_e]
    · simp [up2_e]
    · rw [List.length_append]; omega
    · rw [List.length_append, List.length_append, List.length_append]; omega
    · rw [List.append_assoc]
    · rw [← List.append_assoc]
      exact vs_n rfl (by rw [List.length_append]) a2 k2
    · rw [← List.append_assoc]
      have := vs_n (L := s.2.2.2 ++ k1) (M := k2) (b := (s.2.2.2 ++ k1 ++ k2).length) rfl (by rw [List.length_append (bs := k2)]) b2 []
      rwa [List.append_nil] at this
  · rename_i c
    rw [if_neg c]
    obtain ⟨k1, a1, a2⟩ := ei_code hT h0 h1
    simp only
    rw [a1]
    refine LV_s (mu := mu) (t1 := s.2.2.2.length) (e1 := (s.2.2.2 ++ k1).length) h (fun i hi => ⟨?_, ?_⟩) ?_ ?_ ?_ ?_ ?_ ?_ ?_
    · simp [up2_e, show ¬ i = n by omega]
    · simp [up2_e, show ¬ i = n by omega]
    · simp [up2_e]
    · simp [up2_e]
    · exact Nat.le_refl _
    · rw [List.length_append]; omega
    · rfl
    · show (dpL _ 0).isSome = true
      rw [Nat.sub_self, List.take_zero]
      rfl
    · have := vs_n (L := s.2.2.2) (M := k1) (b := (s.2.2.2 ++ k1).length) rfl (by rw [List.length_append]) a2 []
      rwa [List.append_nil] at this
theorem LV_rd : ∀ (k : Nat) (mu : Mu) (n : Nat) (s : PS), LI mu n s → (noF s = true → LV mu n s.2.2.2) → noF (rdL k mu n s).2.1 = true → LV (rdL k mu n s).1 (rdL k mu n s).2.2 (rdL k mu n s).2.1.2.2.2
  | 0, _, _, _, _, h, h1 => h h1
  | k + 1, mu, n, s, hL, h, h1 => by
    rw [rdL] at h1 ⊢
    split at h1
    · rename_i c
      rw [if_pos c]
      rw [Bool.and_eq_true] at c
      obtain ⟨p1, p2, p3⟩ := LI_59 hL c.1 (of_decide_eq_true c.2)
      exact LV_rd k _ _ _ (LI_ln hL.1 p1 p2) (fun q => LV_ln hL.1 p1 (h c.1) q) h1
    · rename_i c
      rw [if_neg c]
      exact h h1
theorem LV_0 (hT : tOK mu) (h1 : noF (rdF mu).2.1 = true) : LV (rdF mu).1 (rdF mu).2.2 (rdF mu).2.1.2.2.2 := by
  have hT' : tOK (m0 mu) := tOK_up (by decide) hT
  refine LV_rd 121 _ _ _ (LI_ln hT' (Pre_0 hT) (Nat.le_refl _)) (fun q => LV_ln hT' (Pre_0 hT) ⟨fun _ => 0, fun _ => 0, fun i hi => absurd hi (by omega), fun i hi => absurd hi (by omega), rfl⟩ q) h1
theorem Al_ln (h : Al s) : Al (lnF mu n s).2 := by
  unfold lnF
  split
  · exact Al_ei _ (Al_ei _ h)
  · exact Al_ei _ h
theorem Al_rd : ∀ (k : Nat) (mu : Mu) (n : Nat) (s : PS), Al s → Al (rdL k mu n s).2.1
  | 0, _, _, _, h => h
  | k + 1, mu, n, s, h => by
    rw [rdL]
    split
    · exact Al_rd k _ _ _ (Al_ln (s := hS s) h)
    · exact h
theorem Al_0 : Al (rdF mu).2.1 := Al_rd 121 _ _ _ (Al_ln (s := (0, none, 0, [])) (fun p hp => absurd hp List.not_mem_nil))
theorem dpt_e2 : ∀ (k q n : Nat), (∀ i, i < k → mu' 92 (q + i) = mu 92 (q + i) ∧ mu' 93 (q + i) = mu 93 (q + i)) → dpt mu' k q n = dpt mu k q n
  | 0, _, _, _ => rfl
  | k + 1, q, n, h => by
    have h0 := h 0 (by omega)
    rw [Nat.add_zero] at h0
    rw [dpt, dpt, h0.1, h0.2]
    congr 1
    refine funext fun n => dpt_e2 k (q + 1) n fun i hi => ?_
    rw [show q + 1 + i = q + (i + 1) by omega]
    exact h (i + 1) (by omega)
theorem dpt_l {mu : Mu} : ∀ (k q a n : Nat) (L : List (Int32 × Int32)), a + k ≤ L.length → (∀ i, i < k → ∀ p, L[a + i]? = some p → mu 92 (q + i) = p.1 ∧ mu 93 (q + i) = p.2) → dpt mu k q n = dpL ((L.drop a).take k) n
  | 0, _, _, _, _, _, _ => by rw [List.take_zero]; rfl
  | k + 1, q, a, n, L, hl, h => by
    have e : L.drop a = L[a] :: L.drop (a + 1) := List.drop_eq_getElem_cons (by omega)
    have g := h 0 (by omega) L[a] (by rw [Nat.add_zero]; exact List.getElem?_eq_getElem (by omega))
    rw [Nat.add_zero] at g
    rw [e, List.take_succ_cons, dpt, dpL, g.1, g.2]
    congr 1
    refine funext fun n => dpt_l k (q + 1) (a + 1) n L (by omega) fun i hi p hp => ?_
    rw [show q + 1 + i = q + (i + 1) by omega]
    exact h (i + 1) (by omega) p (by rw [show a + (i + 1) = a + 1 + i by omega]; exact hp)
theorem lnsOk_e2 {p : Nat} (h1 : ∀ i, i < 130 → mu' 92 (130 * p + i) = mu 92 (130 * p + i) ∧ mu' 93 (130 * p + i) = mu 93 (130 * p + i)) (h2 : ∀ i, i < 61 → mu' 95 (61 * p + i) = mu 95 (61 * p + i) ∧ mu' 96 (61 * p + i) = mu 96 (61 * p + i)) : ∀ (n l a : Nat), l + n ≤ 61 → lnsOk mu p n l a → lnsOk mu' p n l a
  | 0, _, _, _, _ => trivial
  | n + 1, l, a, hl, ⟨b, c, g1, g2, ⟨g3, g4, g5, g6, g7⟩, g8⟩ => by
    refine ⟨b, c, (h2 l (by omega)).1.trans g1, (h2 l (by omega)).2.trans g2, ⟨g3, g4, g5, ?_, ?_⟩, lnsOk_e2 h1 h2 n (l + 1) c (by omega) g8⟩
    · rw [dpt_e2 (b - a) (130 * p + a) 0 fun i hi => by rw [Nat.add_assoc]; exact h1 (a + i) (by omega)]
      exact g6
    · rw [dpt_e2 (c - b) (130 * p + b) 0 fun i hi => by rw [Nat.add_assoc]; exact h1 (b + i) (by omega)]
      exact g7
/-- the lines stand at place p -/
theorem lns_of {t e : Nat → Nat} {p : Nat} (hL : L.length ≤ 130) (h1 : ∀ i, i < n → mu 95 (61 * p + i) = nI (t i) ∧ mu 96 (61 * p + i) = nI (e i)) (h2 : ∀ i, i < n → stt e i ≤ t i ∧ t i ≤ e i ∧ e i ≤ L.length ∧ vs L (stt e i) (t i) ∧ vs L (t i) (e i)) (h3 : ∀ i, i < L.length → ∀ q, L[i]? = some q → mu 92 (130 * p + i) = q.1 ∧ mu 93 (130 * p + i) = q.2) : ∀ (m l : Nat), l + m = n → lnsOk mu p m l (stt e l)
  | 0, _, _ => trivial
  | m + 1, l, hl => by
    obtain ⟨a1, a2, a3, a4, a5⟩ := h2 l (by omega)
    obtain ⟨b1, b2⟩ := h1 l (by omega)
    refine ⟨t l, e l, b1, b2, ⟨a1, a2, by omega, ?_, ?_⟩, lns_of hL h1 h2 h3 m (l + 1) (by omega)⟩
    · rw [dpt_l _ _ (stt e l) 0 L (by omega) fun i hi q hq => by rw [Nat.add_assoc]; exact h3 _ (by omega) q hq]
      exact a4
    · rw [dpt_l _ _ (t l) 0 L (by omega) fun i hi q hq => by rw [Nat.add_assoc]; exact h3 _ (by omega) q hq]
      exact a5
end
