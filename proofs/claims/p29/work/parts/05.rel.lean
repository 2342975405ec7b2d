-- ===== what the tables say
theorem fC_ok {o i : Nat} {q : Nat × Nat × Nat × MI} (h : fC o i = some q) : (∀ w ∈ callWs o i q, okT w) ∧ okQ q ∧ codeW q.2.2.2 ∈ lw_tbl := by
  unfold fC at h
  obtain ⟨r, hr, rfl⟩ := Option.map_eq_some_iff.mp h
  have h1 := List.find?_some hr
  have h2 := List.all_eq_true.mp (CT_all o) r (List.mem_of_find?_eq_some hr)
  simp only [ckC, Bool.and_eq_true] at h2
  simp only [beq_iff_eq] at h1
  subst h1
  exact ⟨ckWs_ok h2.1, ckQ_ok h2.2, cw_all _⟩
theorem cls_ok : ∀ (ci : Nat) (C : String) (T : u_T) (N : Nat), cls[ci]? = some (C, T, N) → (∀ w ∈ u_ws C T N, okT w) ∧ (∀ a, a < N → ∀ b, b < N → a ≠ b → (T a).2.1 ≠ (T b).2.1) ∧ (∀ k, k < N → parseFieldDescriptor (T k).2.2.1 = some (ftC ci k)) ∧ (∀ k, k < N → defaultValue (ftC ci k) = vp_V (dfl ci) k) ∧ N ≤ 700 ∧ oN ci = C
  | 0, _, _, _, h => by cases h; exact ⟨ckWs_ok lay_0, nm_0, ft_0, df_0, by decide, rfl⟩
  | 1, _, _, _, h => by cases h; exact ⟨ckWs_ok lay_1, nm_1, ft_1, df_1, by decide, rfl⟩
  | 2, _, _, _, h => by cases h; exact ⟨ckWs_ok lay_2, nm_2, ft_2, df_2, by decide, rfl⟩
  | 3, _, _, _, h => by cases h; exact ⟨ckWs_ok lay_3, nm_3, ft_3, df_3, by decide, rfl⟩
  | 4, _, _, _, h => by cases h; exact ⟨ckWs_ok lay_4, nm_4, ft_4, df_4, by decide, rfl⟩
  | 5, _, _, _, h => by cases h; exact ⟨ckWs_ok lay_5, nm_5, ft_5, df_5, by decide, rfl⟩
  | 6, _, _, _, h => by cases h; exact ⟨ckWs_ok lay_6, nm_6, ft_6, df_6, by decide, rfl⟩
  | 7, _, _, _, h => by cases h; exact ⟨ckWs_ok lay_7, nm_7, ft_7, df_7, by decide, rfl⟩
  | 8, _, _, _, h => by cases h; exact ⟨ckWs_ok lay_8, nm_8, ft_8, df_8, by decide, rfl⟩
  | 9, _, _, _, h => by cases h; exact ⟨ckWs_ok lay_9, nm_9, ft_9, df_9, by decide, rfl⟩
  | 10, _, _, _, h => by cases h; exact ⟨ckWs_ok lay_10, nm_10, ft_10, df_10, by decide, rfl⟩
  | n + 11, _, _, _, h => by simp [cls] at h
theorem fF_ok {o i ci k ty fin : Nat} (h : fF o i = some (ci, k, ty, fin)) : ∃ C T N, cls[ci]? = some (C, T, N) ∧ k < N ∧ (T k).1 = C ∧ (okT (.fieldLink (oN o) i C (T k).2.1 (T k).2.2.1) ∨ okT (.fieldLinkNest (oN o) i C (T k).2.1 (T k).2.2.1 "TurnsOneWay")) ∧ (T k).2.2.2 = (fin == 1) ∧ (ty = 0 → (T k).2.2.1 = "I") ∧ (ty ≠ 0 → (ftC ci k).isReference = true) := by
  unfold fF at h
  obtain ⟨r, hr, he⟩ := Option.map_eq_some_iff.mp h
  have h1 := List.find?_some hr
  have h2 := List.all_eq_true.mp (FT_all o) r (List.mem_of_find?_eq_some hr)
  simp only [beq_iff_eq] at h1
  subst h1
  obtain ⟨i, ⟨ci', k', ty', fin'⟩, nest, pos⟩ := r
  cases he
  simp only [ckF] at h2
  cases hc : cls[ci]? with
  | none => rw [hc] at h2; cases h2
  | some q =>
    obtain ⟨C, T, N⟩ := q
    rw [hc] at h2
    simp only [Bool.and_eq_true, decide_eq_true_eq, beq_iff_eq] at h2
    obtain ⟨⟨⟨⟨⟨h3, h4⟩, h5⟩, h6⟩, h7⟩, -⟩ := h2
    have h8 := ckW_ok h3
    simp only [wF, hc] at h8
    refine ⟨C, T, N, rfl, h4, h5, ?_, h6, fun hz => ?_, fun hz => ?_⟩
    · split at h8
      · exact Or.inr h8
      · exact Or.inl h8
    · rw [if_pos hz] at h7
      exact beq_iff_eq.mp h7
    · rw [if_neg hz, Bool.and_eq_true] at h7
      exact h7.2
theorem fN_ok {o i ci : Nat} (h : fN o i = some ci) : ∃ C T N, cls[ci]? = some (C, T, N) ∧ okT (.classLink (oN o) i C) ∧ okT (.instantiable C N) ∧ okT (.initialized C) := by
  unfold fN at h
  obtain ⟨r, hr, he⟩ := Option.map_eq_some_iff.mp h
  have h1 := List.find?_some hr
  have h2 := List.all_eq_true.mp (NT_all o) r (List.mem_of_find?_eq_some hr)
  simp only [beq_iff_eq] at h1
  subst h1
  obtain ⟨i, ci', ps⟩ := r
  cases he
  simp only [ckN] at h2
  cases hc : cls[ci']? with
  | none => rw [hc] at h2; cases h2
  | some q =>
    obtain ⟨C, T, N⟩ := q
    rw [hc] at h2
    have h3 := ckWs_ok h2
    exact ⟨C, T, N, rfl, h3 _ (by simp), h3 _ (by simp), h3 _ (by simp)⟩
theorem fA_ok {o i t : Nat} (h : fA o i = some t) : ∃ C, tyL[t]? = some (.object C) ∧ okT (.classLink (oN o) i C) ∧ okT (.arrayOver (.object C)) := by
  unfold fA at h
  obtain ⟨r, hr, he⟩ := Option.map_eq_some_iff.mp h
  have h1 := List.find?_some hr
  have h2 := List.all_eq_true.mp (AT_all o) r (List.mem_of_find?_eq_some hr)
  simp only [beq_iff_eq] at h1
  subst h1
  obtain ⟨i, t', C, ps⟩ := r
  cases he
  simp only [ckA, Bool.and_eq_true, decide_eq_true_eq] at h2
  have h3 := ckWs_ok h2.2
  exact ⟨C, h2.1, h3 _ (by simp), h3 _ (by simp)⟩
theorem fK_ok {o i : Nat} {v : Int32} (h : fK o i = some v) : okT (.constant (oN o) i v) := by
  unfold fK at h
  obtain ⟨r, hr, he⟩ := Option.map_eq_some_iff.mp h
  have h1 := List.find?_some hr
  have h2 := List.all_eq_true.mp (KT_all o) r (List.mem_of_find?_eq_some hr)
  simp only [beq_iff_eq] at h1
  subst h1
  cases he
  exact ckW_ok h2
theorem fL_ok {o i : Nat} {v : Int64} (h : fL o i = some v) : okT (.constantLong (oN o) i v) := by
  unfold fL at h
  obtain ⟨r, hr, he⟩ := Option.map_eq_some_iff.mp h
  have h1 := List.find?_some hr
  have h2 := List.all_eq_true.mp (KL_all o) r (List.mem_of_find?_eq_some hr)
  simp only [beq_iff_eq] at h1
  subst h1
  cases he
  exact ckW_ok h2
-- ===== concrete from abstract
def cv (N : Nat) (sb : UInt32 → Addr) (v : Value) : Value := match v with
  | .ref a => .ref (N + a)
  | .float t => .ref (sb t)
  | v => v
def cA (N : Nat) (a : (Nat → Int32) ⊕ (Nat → Int64) ⊕ (Nat → UInt32) ⊕ (Nat → UInt64) ⊕ (Nat → Option Nat)) : (Nat → Int32) ⊕ (Nat → Int64) ⊕ (Nat → UInt32) ⊕ (Nat → UInt64) ⊕ (Nat → Option Nat) := match a with
  | .inr (.inr (.inr (.inr f))) => .inr (.inr (.inr (.inr fun j => (f j).map fun x => N + x)))
  | a => a
def cE (N : Nat) (sb : UInt32 → Addr) (tyC : Nat → ClassId) (e : va_E) : va_E := match e with
  | .inl (t, n, a) => .inl (tyC t, n, cA N a)
  | .inr (ci, fs) => .inr (ci, fs.map (cv N sb))
def tyV (tyC : Nat → ClassId) : List (ClassId × FieldType) := (List.range tyL.length).map fun k => (tyC k, tyL.getD k .int)
theorem tyV_at {tyC : Nat → ClassId} {t : Nat} {ty : FieldType} (h : tyL[t]? = some ty) : (tyV tyC)[t]? = some (tyC t, ty) := by
  have hl : t < tyL.length := (List.getElem?_eq_some_iff.mp h).1
  unfold tyV
  rw [List.getElem?_map, List.getElem?_range hl]
  simp [List.getD_eq_getElem?_getD, h]
def HR (G : va_G) (tyC : Nat → ClassId) (sb : UInt32 → Addr) (N : Nat) (h : Hp) (H : Heap) : Prop := H.size = N + h.1 ∧ ∀ (k : Nat) (e : va_E), h.2 k = some e → va_at G cls (N + k, cE N sb tyC e) H
def LR (N : Nat) (sb : UInt32 → Addr) (n : Nat) (ls : Array Slot) (L : List Value) : Prop := ls.size = n ∧ L.length = n ∧ lv_wf ls ∧ ∀ (i : Nat) (v : Value), L[i]? = some v → v ≠ mkU → ls[i]? = some (.val (cv N sb v))
/-- the static rows, by token -/
def sNm (t : UInt32) : String := if t = 1 then "ABOVE" else "OWN"
def XT (X : Tok) (sb : UInt32 → Addr) (H0 : Heap) (U : State) : Prop := (∀ (t : UInt32) (q : Nat × (Nat → Int32)), X t = some q → va_T .int (sb t) q.1 (fun j => .int (q.2 j)) (fun a : Nat => H0.size ≤ a) U H0) ∧ ∀ t : UInt32, t = 1 ∨ t = 2 → va_Z "TurnsOneWay$Bodies" (sNm t) "[I" (.ref (sb t)) (fun a : Nat => H0.size ≤ a) U H0
theorem XT_moved {X : Tok} {sb : UInt32 → Addr} {H0 : Heap} {u U : State} (hvm : u.vm.Alike U.vm) (h : XT X sb H0 u) : XT X sb H0 U := ⟨fun t q hq => (h.1 t q hq).moved hvm, fun t ht => (h.2 t ht).moved hvm⟩
def CX (X : Tok) (G : va_G) (tyC : Nat → ClassId) (sb : UInt32 → Addr) (H0 : Heap) (p : Program) (s : State) (m : MethodId) (args : Array Value) (meth : Method) (c : Code) (M : MI) : Prop :=
  p.tables.exec = Jvm.exec ∧ c.code = M.2.2.1 ∧ c.maxLocals = M.2.2.2.1 ∧ s.vm.findClass (oN M.1) = some m.cls ∧ (∀ w ∈ lw_tbl, goodWord w = true → w.before args s = true) ∧ (∀ w ∈ lw_tbl, nestW w = true → va_Nw w s) ∧ (M.2.1.name = "<init>" → meth.name = "<init>") ∧ va_K G cls (tyV tyC) s ∧ XT X sb H0 s
def WA (sb : UInt32 → Addr) (G : va_G) (tyC : Nat → ClassId) (H0 : Heap) (p : Program) (l : Launch) (e : Env) (R : Room) (s : State) (m : MethodId) (args : Array Value) (below : List Frame) (meth : Method) (c : Code) (Q : State → Prop) (nL n0 : Nat) (pc : Nat) (L st : List Value) (h : Hp) : Prop :=
  ∀ (H : Heap) (locs : List Loc) (ls : Array Slot), HR G tyC sb H0.size h H → va_S (fun q : Nat => H0.size ≤ q) H0 H locs → LR H0.size sb nL ls L → n0 ≤ h.1 → W p l e R s m args below meth c H locs (h.1 - n0) (700 * (h.1 - n0)) Q (F0 m pc ls (st.map (cv H0.size sb)))
theorem cv_cat (N : Nat) (sb : UInt32 → Addr) (v : Value) : (cv N sb v).category = v.category := by
  cases v <;> rfl
theorem cv_cats (N : Nat) (sb : UInt32 → Addr) (l : List Value) : ((l.map (cv N sb)).map fun v => v.category) = l.map fun v => v.category := by
  rw [List.map_map]
  exact List.map_congr_left fun v _ => cv_cat N sb v
theorem okT_use {args : Array Value} {s : State} (h1 : ∀ w ∈ lw_tbl, goodWord w = true → w.before args s = true) (h2 : ∀ w ∈ lw_tbl, nestW w = true → va_Nw w s) {w : Cond} (h : okT w) : w.before args s = true := by
  obtain ⟨hm, hg | hn⟩ := h
  · exact h1 w hm hg
  · have h3 := h2 w hm hn
    unfold nestW at hn
    split at hn
    · exact va_Nw.use rfl h3
    · exact va_Nw.use rfl h3
    · exact h3
    · cases hn
theorem HR_lt {G : va_G} {tyC : Nat → ClassId} {sb : UInt32 → Addr} {N : Nat} {h : Hp} {H : Heap} (hH : HR G tyC sb N h H) {k : Nat} {e : va_E} (he : h.2 k = some e) : N + k < H.size := (hH.2 k e he).lt
theorem HR_set {G : va_G} {tyC : Nat → ClassId} {sb : UInt32 → Addr} {N : Nat} {h : Hp} {H H' : Heap} (hH : HR G tyC sb N h H) {a : Nat} {e : va_E} (hz : H'.size = H.size) (ho : ∀ q : Nat, q ≠ N + a → H'[q]? = H[q]?) (he : va_at G cls (N + a, cE N sb tyC e) H') : HR G tyC sb N (sE h a e) H' := by
  refine ⟨hz.trans hH.1, fun k e' hk => ?_⟩
  by_cases hka : k = a
  · subst hka
    have : some e = some e' := by
      have h2 : va_up h.2 k (some e) k = some e' := hk
      rwa [va_up_self] at h2
    cases this
    exact he
  · have h2 : va_up h.2 a (some e) k = some e' := hk
    rw [va_up_ne _ _ hka] at h2
    exact (hH.2 k e' h2).kept (ho _ (by show N + k ≠ N + a; omega))
theorem HR_push {G : va_G} {tyC : Nat → ClassId} {sb : UInt32 → Addr} {N : Nat} {h : Hp} {H H' : Heap} (hH : HR G tyC sb N h H) {e : va_E} (hz : H'.size = H.size + 1) (ho : ∀ q : Nat, q < H.size → H'[q]? = H[q]?) (he : va_at G cls (H.size, cE N sb tyC e) H') : HR G tyC sb N (nE h e) H' := by
  refine ⟨?_, fun k e' hk => ?_⟩
  · show H'.size = N + (h.1 + 1)
    rw [hz, hH.1]
    omega
  · by_cases hka : k = h.1
    · subst hka
      have : some e = some e' := by
        have h2 : va_up h.2 h.1 (some e) h.1 = some e' := hk
        rwa [va_up_self] at h2
      cases this
      rw [← hH.1]
      exact he
    · have h2 : va_up h.2 h.1 (some e) k = some e' := hk
      rw [va_up_ne _ _ hka] at h2
      exact (hH.2 k e' h2).kept (ho _ (HR_lt hH h2))
/-- the locals as the kit has them -/
def prs (N : Nat) (sb : UInt32 → Addr) (L : List Value) : List (Nat × Value) := (List.range L.length).filterMap fun i => match L[i]? with
  | some v => if v = mkU then none else some (i, cv N sb v)
  | none => none
theorem prs_in {N : Nat} {sb : UInt32 → Addr} {L : List Value} {i : Nat} {v : Value} (h : L[i]? = some v) (hv : v ≠ mkU) : (i, cv N sb v) ∈ prs N sb L := by
  refine List.mem_filterMap.mpr ⟨i, List.mem_range.mpr (List.getElem?_eq_some_iff.mp h).1, ?_⟩
  rw [h]
  simp [hv]
theorem prs_of {N : Nat} {sb : UInt32 → Addr} {L : List Value} {q : Nat × Value} (h : q ∈ prs N sb L) : ∃ v, L[q.1]? = some v ∧ v ≠ mkU ∧ q.2 = cv N sb v := by
  obtain ⟨i, -, hi⟩ := List.mem_filterMap.mp h
  cases hL : L[i]? with
  | none => rw [hL] at hi; cases hi
  | some v =>
    rw [hL] at hi
    simp only at hi
    split at hi
    · cases hi
    · cases hi
      exact ⟨v, hL, by assumption, rfl⟩
theorem LR_has {N : Nat} {sb : UInt32 → Addr} {n : Nat} {ls : Array Slot} {L : List Value} (h : LR N sb n ls L) : lv_has ls n (prs N sb L) := by
  refine ⟨h.1, h.2.2.1, fun q hq => ?_⟩
  obtain ⟨v, h1, h2, h3⟩ := prs_of hq
  rw [h3]
  exact h.2.2.2 _ _ h1 h2
theorem sL_len (L : List Value) (i : Nat) (v : Value) : (sL L i v).length = L.length := by
  unfold sL
  split
  · simp
  · split <;> simp
theorem sL_at {L : List Value} {i j : Nat} {x v : Value} (h : (sL L i x)[j]? = some v) (hv : v ≠ mkU) : (j = i ∧ v = x) ∨ (j ≠ i ∧ L[j]? = some v ∧ ¬ (j + 1 = i ∧ v.category = 2)) := by
  unfold sL at h
  split at h
  · by_cases hj : j = 0
    · subst hj
      rw [List.getElem?_set_self'] at h
      cases hL : L[0]? with
      | none => rw [hL] at h; cases h
      | some w => rw [hL] at h; cases h; exact Or.inl ⟨rfl, rfl⟩
    · rw [List.getElem?_set_ne (Ne.symm hj)] at h
      exact Or.inr ⟨hj, h, fun q => by omega⟩
  · rename_i i'
    by_cases hj : j = i' + 1
    · subst hj
      rw [List.getElem?_set_self'] at h
      generalize (if (L.getD i' mkU).category = 2 then L.set i' mkU else L) = L1 at h
      cases hL : L1[i' + 1]? with
      | none => rw [hL] at h; cases h
      | some w => rw [hL] at h; cases h; exact Or.inl ⟨rfl, rfl⟩
    · rw [List.getElem?_set_ne (Ne.symm hj)] at h
      split at h
      · rename_i hc
        by_cases hj2 : j = i'
        · subst hj2
          rw [List.getElem?_set_self'] at h
          cases hL : L[j]? with
          | none => rw [hL] at h; cases h
          | some w => rw [hL] at h; cases h; exact absurd rfl hv
        · rw [List.getElem?_set_ne (Ne.symm hj2)] at h
          exact Or.inr ⟨hj, h, fun q => by omega⟩
      · rename_i hc
        refine Or.inr ⟨hj, h, fun q => ?_⟩
        have : j = i' := by omega
        subst this
        rw [List.getD_eq_getElem?_getD, h] at hc
        exact hc q.2
theorem LR_st1 {N : Nat} {sb : UInt32 → Addr} {n i : Nat} {ls ls' : Array Slot} {L : List Value} {x : Value} (h : LR N sb n ls L) (h2 : lv_has ls' n ((i, cv N sb x) :: (prs N sb L).filter (fun q => !(q.1 == i) && !(q.1 + 1 == i && q.2.category == 2)))) : LR N sb n ls' (sL L i x) := by
  refine ⟨h2.1, (sL_len _ _ _).trans h.2.1, h2.2.1, fun j v hj hv => ?_⟩
  rcases sL_at hj hv with ⟨rfl, rfl⟩ | ⟨h3, h4, h5⟩
  · exact h2.2.2 _ List.mem_cons_self
  · refine h2.2.2 (j, cv N sb v) (List.mem_cons_of_mem _ (List.mem_filter.mpr ⟨prs_in h4 hv, ?_⟩))
    rw [cv_cat]
    simp only [Bool.and_eq_true, Bool.not_eq_true', beq_eq_false_iff_ne, Bool.and_eq_false_iff]
    refine ⟨h3, ?_⟩
    by_cases h6 : j + 1 = i
    · exact Or.inr fun h7 => h5 ⟨h6, h7⟩
    · exact Or.inl h6
theorem LR_st2 {N : Nat} {sb : UInt32 → Addr} {n i : Nat} {ls ls' : Array Slot} {L : List Value} {x : Value} (h : LR N sb n ls L) (h2 : lv_has ls' n ((i, cv N sb x) :: (prs N sb L).filter (fun q => !(q.1 == i) && (!(q.1 == i + 1) && !(q.1 + 1 == i && q.2.category == 2))))) : LR N sb n ls' (sL2 L i x) := by
  refine ⟨h2.1, ?_, h2.2.1, fun j v hj hv => ?_⟩
  · unfold sL2
    rw [List.length_set, sL_len]
    exact h.2.1
  · unfold sL2 at hj
    by_cases hji : j = i + 1
    · subst hji
      rw [List.getElem?_set_self'] at hj
      cases hL : (sL L i x)[i + 1]? with
      | none => rw [hL] at hj; cases hj
      | some w => rw [hL] at hj; cases hj; exact absurd rfl hv
    · rw [List.getElem?_set_ne (Ne.symm hji)] at hj
      rcases sL_at hj hv with ⟨rfl, rfl⟩ | ⟨h3, h4, h5⟩
      · exact h2.2.2 _ List.mem_cons_self
      · refine h2.2.2 (j, cv N sb v) (List.mem_cons_of_mem _ (List.mem_filter.mpr ⟨prs_in h4 hv, ?_⟩))
        rw [cv_cat]
        simp only [Bool.and_eq_true, Bool.not_eq_true', beq_eq_false_iff_ne, Bool.and_eq_false_iff]
        refine ⟨h3, hji, ?_⟩
        by_cases h6 : j + 1 = i
        · exact Or.inr fun h7 => h5 ⟨h6, h7⟩
        · exact Or.inl h6
theorem ent_at (N : Nat) (sb : UInt32 → Addr) : ∀ (av : List Value) (i j : Nat) (v : Value), (exL av)[j]? = some v → v ≠ mkU → (i + j, cv N sb v) ∈ lv_args i (av.map (cv N sb)) := by
  intro av
  induction av with
  | nil => intro i j v h; simp [exL] at h
  | cons a av ih =>
    intro i j v h hv
    rw [List.map_cons, lv_args]
    rw [cv_cat]
    unfold exL at h
    by_cases hc : a.category = 2
    · rw [if_pos hc] at h ⊢
      match j, h with
      | 0, h => cases h; exact List.mem_cons_self
      | 1, h => cases h; exact absurd rfl hv
      | j + 2, h =>
        refine List.mem_cons_of_mem _ ?_
        have := ih (i + 2) j v h hv
        rwa [show i + 2 + j = i + (j + 2) by omega] at this
    · rw [if_neg hc] at h ⊢
      match j, h with
      | 0, h => cases h; exact List.mem_cons_self
      | j + 1, h =>
        refine List.mem_cons_of_mem _ ?_
        have := ih (i + 1) j v h hv
        rwa [show i + 1 + j = i + (j + 1) by omega] at this
theorem exL_len (N : Nat) (sb : UInt32 → Addr) (av : List Value) : (lg_sl (av.map (cv N sb))).length = (exL av).length := by
  induction av with
  | nil => rfl
  | cons a av ih =>
    have h1 : lg_sl ((a :: av).map (cv N sb)) = (if (cv N sb a).category = 2 then [.val (cv N sb a), .second] else [.val (cv N sb a)]) ++ lg_sl (av.map (cv N sb)) := rfl
    rw [h1, List.length_append, ih, cv_cat, exL]
    split <;> simp only [List.length_cons, List.length_nil] <;> omega
theorem LR_ent {N : Nat} {sb : UInt32 → Addr} {M : MI} {av : List Value} (h : (exL av).length ≤ M.2.2.2.1) : LR N sb M.2.2.2.1 ((lg_sl (av.map (cv N sb)) ++ List.replicate (M.2.2.2.1 - (lg_sl (av.map (cv N sb))).length) Slot.unset).toArray) (ent M av) := by
  have h1 := lv_entry (av.map (cv N sb)) (n := M.2.2.2.1) (by rw [exL_len]; exact h)
  refine ⟨h1.1, ?_, h1.2.1, fun i v hi hv => ?_⟩
  · unfold ent
    rw [List.length_append, List.length_replicate]
    omega
  · unfold ent at hi
    by_cases hl : i < (exL av).length
    · rw [List.getElem?_append_left hl] at hi
      have := ent_at N sb av 0 i v hi hv
      rw [Nat.zero_add] at this
      exact h1.2.2 _ this
    · rw [List.getElem?_append_right (by omega)] at hi
      have := List.mem_of_getElem? hi
      exact absurd (List.eq_of_mem_replicate this) hv
