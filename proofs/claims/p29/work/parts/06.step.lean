theorem va_P1 {D : va_G} {cl : List vw_C} {q : Nat × va_E} {H : Heap} (h : va_at D cl q H) : va_P D cl [q] H := by
  intro k r hk
  match k, hk with
  | 0, hk => cases hk; exact h
  | k + 1, hk => simp at hk
theorem cv_rf (N : Nat) (sb : UInt32 → Addr) (r : Option Nat) : cv N sb (va_rf r) = va_rf (r.map fun x => N + x) := by
  cases r <;> rfl
theorem ne_i (x : Int32) : Value.int x ≠ mkU := by unfold mkU; exact fun q => by cases q
theorem ne_l (x : Int64) : Value.long x ≠ mkU := by unfold mkU; exact fun q => by cases q
theorem ne_r (x : Nat) : Value.ref x ≠ mkU := by unfold mkU; exact fun q => by cases q
theorem ne_f (x : UInt32) : Value.float x ≠ mkU := by unfold mkU; exact fun q => by cases q
theorem ne_n : Value.null ≠ mkU := by unfold mkU; exact fun q => by cases q
section STP
variable {X : Tok} {G : va_G} {tyC : Nat → ClassId} {sb : UInt32 → Addr} {H0 : Heap} {p : Program} {l : Launch} {e : Env} {R : Room} {s : State} {m : MethodId} {args : Array Value} {below : List Frame} {meth : Method} {c : Code} {Q : State → Prop} {M : MI} {n0 : Nat}
variable {pc pc1 pc' i len : Nat} {L st L' st' : List Value} {h h' : Hp}
theorem n_push {v : Value} (row : ∀ (H : Heap) (locs : List Loc) (ls : Array Slot) (cells slots : Nat) (rest : List Value), W p l e R s m args below meth c H locs cells slots Q (F0 m pc1 ls (cv H0.size sb v :: rest)) → W p l e R s m args below meth c H locs cells slots Q (F0 m pc ls rest)) (ho : nx pc1 L (v :: st) h = some (.inl (pc', L', st', h'))) (k : WA sb G tyC H0 p l e R s m args below meth c Q M.2.2.2.1 n0 pc' L' st' h') : WA sb G tyC H0 p l e R s m args below meth c Q M.2.2.2.1 n0 pc L st h := by
  obtain ⟨rfl, rfl, rfl, rfl⟩ := nx_inj ho
  intro H locs ls hH hS hL hn
  exact row _ _ _ _ _ _ (k H locs ls hH hS hL hn)
theorem n_il (row : ∀ (x : Int32) (H : Heap) (locs : List Loc) (ls : Array Slot) (cells slots : Nat) (rest : List Value), ls[i]? = some (.val (.int x)) → W p l e R s m args below meth c H locs cells slots Q (F0 m pc1 ls (.int x :: rest)) → W p l e R s m args below meth c H locs cells slots Q (F0 m pc ls rest)) (ho : o_il L st h pc1 i = some (.inl (pc', L', st', h'))) (k : WA sb G tyC H0 p l e R s m args below meth c Q M.2.2.2.1 n0 pc' L' st' h') : WA sb G tyC H0 p l e R s m args below meth c Q M.2.2.2.1 n0 pc L st h := by
  unfold o_il at ho
  split at ho
  · rename_i x hx
    obtain ⟨rfl, rfl, rfl, rfl⟩ := nx_inj ho
    intro H locs ls hH hS hL hn
    exact row _ _ _ _ _ _ _ (hL.2.2.2 i _ hx (ne_i x)) (k H locs ls hH hS hL hn)
  · cases ho
theorem n_ll (row : ∀ (x : Int64) (H : Heap) (locs : List Loc) (ls : Array Slot) (cells slots : Nat) (rest : List Value), ls[i]? = some (.val (.long x)) → W p l e R s m args below meth c H locs cells slots Q (F0 m pc1 ls (.long x :: rest)) → W p l e R s m args below meth c H locs cells slots Q (F0 m pc ls rest)) (ho : o_ll L st h pc1 i = some (.inl (pc', L', st', h'))) (k : WA sb G tyC H0 p l e R s m args below meth c Q M.2.2.2.1 n0 pc' L' st' h') : WA sb G tyC H0 p l e R s m args below meth c Q M.2.2.2.1 n0 pc L st h := by
  unfold o_ll at ho
  split at ho
  · rename_i x hx
    obtain ⟨rfl, rfl, rfl, rfl⟩ := nx_inj ho
    intro H locs ls hH hS hL hn
    exact row _ _ _ _ _ _ _ (hL.2.2.2 i _ hx (ne_l x)) (k H locs ls hH hS hL hn)
  · cases ho
theorem n_al (row : ∀ (x : Nat) (H : Heap) (locs : List Loc) (ls : Array Slot) (cells slots : Nat) (rest : List Value), ls[i]? = some (.val (.ref x)) → W p l e R s m args below meth c H locs cells slots Q (F0 m pc1 ls (.ref x :: rest)) → W p l e R s m args below meth c H locs cells slots Q (F0 m pc ls rest)) (row0 : ∀ (H : Heap) (locs : List Loc) (ls : Array Slot) (cells slots : Nat) (rest : List Value), ls[i]? = some (.val .null) → W p l e R s m args below meth c H locs cells slots Q (F0 m pc1 ls (.null :: rest)) → W p l e R s m args below meth c H locs cells slots Q (F0 m pc ls rest)) (ho : o_al L st h pc1 i = some (.inl (pc', L', st', h'))) (k : WA sb G tyC H0 p l e R s m args below meth c Q M.2.2.2.1 n0 pc' L' st' h') : WA sb G tyC H0 p l e R s m args below meth c Q M.2.2.2.1 n0 pc L st h := by
  unfold o_al at ho
  split at ho
  · rename_i x hx
    obtain ⟨rfl, rfl, rfl, rfl⟩ := nx_inj ho
    intro H locs ls hH hS hL hn
    exact row _ _ _ _ _ _ _ (hL.2.2.2 i _ hx (ne_r x)) (k H locs ls hH hS hL hn)
  · rename_i x hx
    obtain ⟨rfl, rfl, rfl, rfl⟩ := nx_inj ho
    intro H locs ls hH hS hL hn
    exact row _ _ _ _ _ _ _ (hL.2.2.2 i _ hx (ne_f x)) (k H locs ls hH hS hL hn)
  · rename_i hx
    obtain ⟨rfl, rfl, rfl, rfl⟩ := nx_inj ho
    intro H locs ls hH hS hL hn
    exact row0 _ _ _ _ _ _ (hL.2.2.2 i _ hx ne_n) (k H locs ls hH hS hL hn)
  · cases ho
theorem n_is (row : ∀ (x : Int32) (H : Heap) (locs : List Loc) (ls : Array Slot) (cells slots : Nat) (rest : List Value) (lv lv' : List (Nat × Value)), lv_has ls M.2.2.2.1 lv → i < M.2.2.2.1 → (i, Value.int x) :: lv.filter (fun q => !(q.1 == i) && !(q.1 + 1 == i && q.2.category == 2)) = lv' → (∀ ls' : Array Slot, lv_has ls' M.2.2.2.1 lv' → W p l e R s m args below meth c H locs cells slots Q (F0 m pc1 ls' rest)) → W p l e R s m args below meth c H locs cells slots Q (F0 m pc ls (.int x :: rest))) (ho : o_is L st h pc1 i = some (.inl (pc', L', st', h'))) (k : WA sb G tyC H0 p l e R s m args below meth c Q M.2.2.2.1 n0 pc' L' st' h') : WA sb G tyC H0 p l e R s m args below meth c Q M.2.2.2.1 n0 pc L st h := by
  unfold o_is at ho
  split at ho
  · rename_i x r
    split at ho
    · rename_i hi
      obtain ⟨rfl, rfl, rfl, rfl⟩ := nx_inj ho
      intro H locs ls hH hS hL hn
      exact row _ _ _ _ _ _ _ _ _ (LR_has hL) (by rw [← hL.2.1]; exact hi) rfl fun ls' h2 => k H locs ls' hH hS (LR_st1 (x := .int x) hL h2) hn
    · cases ho
  · cases ho
theorem n_ls (row : ∀ (x : Int64) (H : Heap) (locs : List Loc) (ls : Array Slot) (cells slots : Nat) (rest : List Value) (lv lv' : List (Nat × Value)), lv_has ls M.2.2.2.1 lv → i + 1 < M.2.2.2.1 → (i, Value.long x) :: lv.filter (fun q => !(q.1 == i) && (!(q.1 == i + 1) && !(q.1 + 1 == i && q.2.category == 2))) = lv' → (∀ ls' : Array Slot, lv_has ls' M.2.2.2.1 lv' → W p l e R s m args below meth c H locs cells slots Q (F0 m pc1 ls' rest)) → W p l e R s m args below meth c H locs cells slots Q (F0 m pc ls (.long x :: rest))) (ho : o_ls L st h pc1 i = some (.inl (pc', L', st', h'))) (k : WA sb G tyC H0 p l e R s m args below meth c Q M.2.2.2.1 n0 pc' L' st' h') : WA sb G tyC H0 p l e R s m args below meth c Q M.2.2.2.1 n0 pc L st h := by
  unfold o_ls at ho
  split at ho
  · rename_i x r
    split at ho
    · rename_i hi
      obtain ⟨rfl, rfl, rfl, rfl⟩ := nx_inj ho
      intro H locs ls hH hS hL hn
      exact row _ _ _ _ _ _ _ _ _ (LR_has hL) (by rw [← hL.2.1]; exact hi) rfl fun ls' h2 => k H locs ls' hH hS (LR_st2 (x := .long x) hL h2) hn
    · cases ho
  · cases ho
theorem n_as (row : ∀ (x : Nat) (H : Heap) (locs : List Loc) (ls : Array Slot) (cells slots : Nat) (rest : List Value) (lv lv' : List (Nat × Value)), lv_has ls M.2.2.2.1 lv → i < M.2.2.2.1 → (i, Value.ref x) :: lv.filter (fun q => !(q.1 == i) && !(q.1 + 1 == i && q.2.category == 2)) = lv' → (∀ ls' : Array Slot, lv_has ls' M.2.2.2.1 lv' → W p l e R s m args below meth c H locs cells slots Q (F0 m pc1 ls' rest)) → W p l e R s m args below meth c H locs cells slots Q (F0 m pc ls (.ref x :: rest)))
    (row0 : ∀ (H : Heap) (locs : List Loc) (ls : Array Slot) (cells slots : Nat) (rest : List Value) (lv lv' : List (Nat × Value)), lv_has ls M.2.2.2.1 lv → i < M.2.2.2.1 → (i, Value.null) :: lv.filter (fun q => !(q.1 == i) && !(q.1 + 1 == i && q.2.category == 2)) = lv' → (∀ ls' : Array Slot, lv_has ls' M.2.2.2.1 lv' → W p l e R s m args below meth c H locs cells slots Q (F0 m pc1 ls' rest)) → W p l e R s m args below meth c H locs cells slots Q (F0 m pc ls (.null :: rest))) (ho : o_as L st h pc1 i = some (.inl (pc', L', st', h'))) (k : WA sb G tyC H0 p l e R s m args below meth c Q M.2.2.2.1 n0 pc' L' st' h') : WA sb G tyC H0 p l e R s m args below meth c Q M.2.2.2.1 n0 pc L st h := by
  unfold o_as at ho
  split at ho
  · rename_i x r
    split at ho
    · rename_i hi
      obtain ⟨rfl, rfl, rfl, rfl⟩ := nx_inj ho
      intro H locs ls hH hS hL hn
      exact row _ _ _ _ _ _ _ _ _ (LR_has hL) (by rw [← hL.2.1]; exact hi) rfl fun ls' h2 => k H locs ls' hH hS (LR_st1 (x := .ref x) hL h2) hn
    · cases ho
  · rename_i x r
    split at ho
    · rename_i hi
      obtain ⟨rfl, rfl, rfl, rfl⟩ := nx_inj ho
      intro H locs ls hH hS hL hn
      exact row _ _ _ _ _ _ _ _ _ (LR_has hL) (by rw [← hL.2.1]; exact hi) rfl fun ls' h2 => k H locs ls' hH hS (LR_st1 (x := .float x) hL h2) hn
    · cases ho
  · rename_i r
    split at ho
    · rename_i hi
      obtain ⟨rfl, rfl, rfl, rfl⟩ := nx_inj ho
      intro H locs ls hH hS hL hn
      exact row0 _ _ _ _ _ _ _ _ (LR_has hL) (by rw [← hL.2.1]; exact hi) rfl fun ls' h2 => k H locs ls' hH hS (LR_st1 (x := .null) hL h2) hn
    · cases ho
  · cases ho
theorem n_inc {n : Int} (hx : p.tables.exec = Jvm.exec) (hb : c.code = M.2.2.1) (hd : decode M.2.2.1 pc = .ok (.iinc i n, 3)) (ho : o_inc L st h (pc + 3) i n = some (.inl (pc', L', st', h'))) (k : WA sb G tyC H0 p l e R s m args below meth c Q M.2.2.2.1 n0 pc' L' st' h') : WA sb G tyC H0 p l e R s m args below meth c Q M.2.2.2.1 n0 pc L st h := by
  unfold o_inc at ho
  split at ho
  · rename_i x hi
    obtain ⟨rfl, rfl, rfl, rfl⟩ := nx_inj ho
    intro H locs ls hH hS hL hn
    obtain ⟨kk, hkk⟩ := List.getElem?_of_mem (prs_in (N := H0.size) (sb := sb) hi (ne_i x))
    exact lv_iinc hx hb hd (LR_has hL) hkk rfl (by rw [← hL.2.1]; exact (List.getElem?_eq_some_iff.mp hi).1) rfl fun ls' h2 => k H locs ls' hH hS (LR_st1 (x := .int (x + Int32.ofInt n)) hL h2) hn
  · cases ho
theorem n_ii {f : Int32 → Int32 → Int32} (row : ∀ (x y : Int32) (H : Heap) (locs : List Loc) (ls : Array Slot) (cells slots : Nat) (rest : List Value), W p l e R s m args below meth c H locs cells slots Q (F0 m pc1 ls (.int (f x y) :: rest)) → W p l e R s m args below meth c H locs cells slots Q (F0 m pc ls (.int y :: .int x :: rest))) (ho : o_ii f L st h pc1 = some (.inl (pc', L', st', h'))) (k : WA sb G tyC H0 p l e R s m args below meth c Q M.2.2.2.1 n0 pc' L' st' h') : WA sb G tyC H0 p l e R s m args below meth c Q M.2.2.2.1 n0 pc L st h := by
  unfold o_ii at ho
  split at ho
  · obtain ⟨rfl, rfl, rfl, rfl⟩ := nx_inj ho
    intro H locs ls hH hS hL hn
    exact row _ _ _ _ _ _ _ _ (k H locs ls hH hS hL hn)
  · cases ho
theorem n_i0 {f : Int32 → Int32 → Int32} (row : ∀ (x y : Int32) (H : Heap) (locs : List Loc) (ls : Array Slot) (cells slots : Nat) (rest : List Value), ¬ y = 0 → W p l e R s m args below meth c H locs cells slots Q (F0 m pc1 ls (.int (f x y) :: rest)) → W p l e R s m args below meth c H locs cells slots Q (F0 m pc ls (.int y :: .int x :: rest))) (ho : o_i0 f L st h pc1 = some (.inl (pc', L', st', h'))) (k : WA sb G tyC H0 p l e R s m args below meth c Q M.2.2.2.1 n0 pc' L' st' h') : WA sb G tyC H0 p l e R s m args below meth c Q M.2.2.2.1 n0 pc L st h := by
  unfold o_i0 at ho
  split at ho
  · split at ho
    · cases ho
    · rename_i hy
      obtain ⟨rfl, rfl, rfl, rfl⟩ := nx_inj ho
      intro H locs ls hH hS hL hn
      exact row _ _ _ _ _ _ _ _ hy (k H locs ls hH hS hL hn)
  · cases ho
theorem n_i {f : Int32 → Int32} (row : ∀ (x : Int32) (H : Heap) (locs : List Loc) (ls : Array Slot) (cells slots : Nat) (rest : List Value), W p l e R s m args below meth c H locs cells slots Q (F0 m pc1 ls (.int (f x) :: rest)) → W p l e R s m args below meth c H locs cells slots Q (F0 m pc ls (.int x :: rest))) (ho : o_i f L st h pc1 = some (.inl (pc', L', st', h'))) (k : WA sb G tyC H0 p l e R s m args below meth c Q M.2.2.2.1 n0 pc' L' st' h') : WA sb G tyC H0 p l e R s m args below meth c Q M.2.2.2.1 n0 pc L st h := by
  unfold o_i at ho
  split at ho
  · obtain ⟨rfl, rfl, rfl, rfl⟩ := nx_inj ho
    intro H locs ls hH hS hL hn
    exact row _ _ _ _ _ _ _ (k H locs ls hH hS hL hn)
  · cases ho
theorem n_lL {f : Int64 → Int64 → Int64} (row : ∀ (x y : Int64) (H : Heap) (locs : List Loc) (ls : Array Slot) (cells slots : Nat) (rest : List Value), W p l e R s m args below meth c H locs cells slots Q (F0 m pc1 ls (.long (f x y) :: rest)) → W p l e R s m args below meth c H locs cells slots Q (F0 m pc ls (.long y :: .long x :: rest))) (ho : o_lL f L st h pc1 = some (.inl (pc', L', st', h'))) (k : WA sb G tyC H0 p l e R s m args below meth c Q M.2.2.2.1 n0 pc' L' st' h') : WA sb G tyC H0 p l e R s m args below meth c Q M.2.2.2.1 n0 pc L st h := by
  unfold o_lL at ho
  split at ho
  · obtain ⟨rfl, rfl, rfl, rfl⟩ := nx_inj ho
    intro H locs ls hH hS hL hn
    exact row _ _ _ _ _ _ _ _ (k H locs ls hH hS hL hn)
  · cases ho
theorem n_l0 {f : Int64 → Int64 → Int64} (row : ∀ (x y : Int64) (H : Heap) (locs : List Loc) (ls : Array Slot) (cells slots : Nat) (rest : List Value), ¬ y = 0 → W p l e R s m args below meth c H locs cells slots Q (F0 m pc1 ls (.long (f x y) :: rest)) → W p l e R s m args below meth c H locs cells slots Q (F0 m pc ls (.long y :: .long x :: rest))) (ho : o_l0 f L st h pc1 = some (.inl (pc', L', st', h'))) (k : WA sb G tyC H0 p l e R s m args below meth c Q M.2.2.2.1 n0 pc' L' st' h') : WA sb G tyC H0 p l e R s m args below meth c Q M.2.2.2.1 n0 pc L st h := by
  unfold o_l0 at ho
  split at ho
  · split at ho
    · cases ho
    · rename_i hy
      obtain ⟨rfl, rfl, rfl, rfl⟩ := nx_inj ho
      intro H locs ls hH hS hL hn
      exact row _ _ _ _ _ _ _ _ hy (k H locs ls hH hS hL hn)
  · cases ho
theorem n_lsh {f : Int64 → Int32 → Int64} (row : ∀ (x : Int64) (y : Int32) (H : Heap) (locs : List Loc) (ls : Array Slot) (cells slots : Nat) (rest : List Value), W p l e R s m args below meth c H locs cells slots Q (F0 m pc1 ls (.long (f x y) :: rest)) → W p l e R s m args below meth c H locs cells slots Q (F0 m pc ls (.int y :: .long x :: rest))) (ho : o_lsh f L st h pc1 = some (.inl (pc', L', st', h'))) (k : WA sb G tyC H0 p l e R s m args below meth c Q M.2.2.2.1 n0 pc' L' st' h') : WA sb G tyC H0 p l e R s m args below meth c Q M.2.2.2.1 n0 pc L st h := by
  unfold o_lsh at ho
  split at ho
  · obtain ⟨rfl, rfl, rfl, rfl⟩ := nx_inj ho
    intro H locs ls hH hS hL hn
    exact row _ _ _ _ _ _ _ _ (k H locs ls hH hS hL hn)
  · cases ho
theorem n_i2l (hx : p.tables.exec = Jvm.exec) (hb : c.code = M.2.2.1) (hd : decode M.2.2.1 pc = .ok (.i2l, 1)) (ho : o_i2l L st h (pc + 1) = some (.inl (pc', L', st', h'))) (k : WA sb G tyC H0 p l e R s m args below meth c Q M.2.2.2.1 n0 pc' L' st' h') : WA sb G tyC H0 p l e R s m args below meth c Q M.2.2.2.1 n0 pc L st h := by
  unfold o_i2l at ho
  split at ho
  · obtain ⟨rfl, rfl, rfl, rfl⟩ := nx_inj ho
    intro H locs ls hH hS hL hn
    exact lv_i2l hx hb hd rfl (k H locs ls hH hS hL hn)
  · cases ho
theorem n_l2i (hx : p.tables.exec = Jvm.exec) (hb : c.code = M.2.2.1) (hd : decode M.2.2.1 pc = .ok (.l2i, 1)) (ho : o_l2i L st h (pc + 1) = some (.inl (pc', L', st', h'))) (k : WA sb G tyC H0 p l e R s m args below meth c Q M.2.2.2.1 n0 pc' L' st' h') : WA sb G tyC H0 p l e R s m args below meth c Q M.2.2.2.1 n0 pc L st h := by
  unfold o_l2i at ho
  split at ho
  · obtain ⟨rfl, rfl, rfl, rfl⟩ := nx_inj ho
    intro H locs ls hH hS hL hn
    exact lv_l2i hx hb hd rfl (k H locs ls hH hS hL hn)
  · cases ho
theorem n_lcmp (hx : p.tables.exec = Jvm.exec) (hb : c.code = M.2.2.1) (hd : decode M.2.2.1 pc = .ok (.lcmp, 1)) (ho : o_lcmp L st h (pc + 1) = some (.inl (pc', L', st', h'))) (k : WA sb G tyC H0 p l e R s m args below meth c Q M.2.2.2.1 n0 pc' L' st' h') : WA sb G tyC H0 p l e R s m args below meth c Q M.2.2.2.1 n0 pc L st h := by
  unfold o_lcmp at ho
  split at ho
  · obtain ⟨rfl, rfl, rfl, rfl⟩ := nx_inj ho
    intro H locs ls hH hS hL hn
    exact W.lcmp hx hb hd (k H locs ls hH hS hL hn)
  · cases ho
theorem n_dup (hx : p.tables.exec = Jvm.exec) (hb : c.code = M.2.2.1) (hd : decode M.2.2.1 pc = .ok (.dup, 1)) (ho : o_dup L st h (pc + 1) = some (.inl (pc', L', st', h'))) (k : WA sb G tyC H0 p l e R s m args below meth c Q M.2.2.2.1 n0 pc' L' st' h') : WA sb G tyC H0 p l e R s m args below meth c Q M.2.2.2.1 n0 pc L st h := by
  unfold o_dup at ho
  split at ho
  · split at ho
    · rename_i hc
      obtain ⟨rfl, rfl, rfl, rfl⟩ := nx_inj ho
      intro H locs ls hH hS hL hn
      exact lv_dup hx hb hd (by rw [cv_cat]; exact hc) (k H locs ls hH hS hL hn)
    · cases ho
  · cases ho
theorem n_pop (hx : p.tables.exec = Jvm.exec) (hb : c.code = M.2.2.1) (hd : decode M.2.2.1 pc = .ok (.pop, 1)) (ho : o_pop L st h (pc + 1) = some (.inl (pc', L', st', h'))) (k : WA sb G tyC H0 p l e R s m args below meth c Q M.2.2.2.1 n0 pc' L' st' h') : WA sb G tyC H0 p l e R s m args below meth c Q M.2.2.2.1 n0 pc L st h := by
  unfold o_pop at ho
  split at ho
  · split at ho
    · rename_i hc
      obtain ⟨rfl, rfl, rfl, rfl⟩ := nx_inj ho
      intro H locs ls hH hS hL hn
      exact lv_pop hx hb hd (by rw [cv_cat]; exact hc) (k H locs ls hH hS hL hn)
    · cases ho
  · cases ho
theorem n_pop2 (hx : p.tables.exec = Jvm.exec) (hb : c.code = M.2.2.1) (hd : decode M.2.2.1 pc = .ok (.pop2, 1)) (ho : o_pop2 L st h (pc + 1) = some (.inl (pc', L', st', h'))) (k : WA sb G tyC H0 p l e R s m args below meth c Q M.2.2.2.1 n0 pc' L' st' h') : WA sb G tyC H0 p l e R s m args below meth c Q M.2.2.2.1 n0 pc L st h := by
  unfold o_pop2 at ho
  split at ho
  · obtain ⟨rfl, rfl, rfl, rfl⟩ := nx_inj ho
    intro H locs ls hH hS hL hn
    exact lv_pop2_2 hx hb hd rfl (k H locs ls hH hS hL hn)
  · cases ho
theorem n_dup2 (hx : p.tables.exec = Jvm.exec) (hb : c.code = M.2.2.1) (hd : decode M.2.2.1 pc = .ok (.dup2, 1)) (ho : o_dup2 L st h (pc + 1) = some (.inl (pc', L', st', h'))) (k : WA sb G tyC H0 p l e R s m args below meth c Q M.2.2.2.1 n0 pc' L' st' h') : WA sb G tyC H0 p l e R s m args below meth c Q M.2.2.2.1 n0 pc L st h := by
  unfold o_dup2 at ho
  split at ho
  · split at ho
    · rename_i hc
      obtain ⟨rfl, rfl, rfl, rfl⟩ := nx_inj ho
      intro H locs ls hH hS hL hn
      exact lv_dup2_11 hx hb hd (by rw [cv_cat]; exact hc.1) (by rw [cv_cat]; exact hc.2) (k H locs ls hH hS hL hn)
    · cases ho
  · cases ho
theorem n_goto {off : Int} (hx : p.tables.exec = Jvm.exec) (hb : c.code = M.2.2.1) (hd : decode M.2.2.1 pc = .ok (.goto off, 3)) (ho : o_jp pc off L st h = some (.inl (pc', L', st', h'))) (k : WA sb G tyC H0 p l e R s m args below meth c Q M.2.2.2.1 n0 pc' L' st' h') : WA sb G tyC H0 p l e R s m args below meth c Q M.2.2.2.1 n0 pc L st h := by
  obtain ⟨t, ht, he⟩ := jp_inj ho
  cases he
  intro H locs ls hH hS hL hn
  exact lv_goto hx hb hd ht (k H locs ls hH hS hL hn)
theorem n_if2 {cc : ClassFile.Cond} {off : Int} (hx : p.tables.exec = Jvm.exec) (hb : c.code = M.2.2.1) (hd : decode M.2.2.1 pc = .ok (.if_icmp cc off, 3)) (ho : o_if2 cc off L st h pc = some (.inl (pc', L', st', h'))) (k : WA sb G tyC H0 p l e R s m args below meth c Q M.2.2.2.1 n0 pc' L' st' h') : WA sb G tyC H0 p l e R s m args below meth c Q M.2.2.2.1 n0 pc L st h := by
  unfold o_if2 at ho
  split at ho
  · rename_i y x r
    split at ho
    · cases ho
    rename_i hj
    have ht : (pc : Int) + off = (((pc : Int) + off).toNat : Int) := (Int.toNat_of_nonneg (by omega)).symm
    intro H locs ls hH hS hL hn
    split at ho
    · rename_i hc
      obtain ⟨t, ht2, he⟩ := jp_inj ho
      cases he
      have k2 := k H locs ls hH hS hL hn
      cases cc <;> simp only [bB, decide_eq_true_eq] at hc
      · exact lv_icmp_eq hx hb hd ht2 (fun _ => k2) (fun q => absurd hc q)
      · exact lv_icmp_ne hx hb hd ht2 (fun _ => k2) (fun q => absurd q hc)
      · exact lv_icmp_lt hx hb hd ht2 (fun _ => k2) (fun q => absurd hc q)
      · exact lv_icmp_ge hx hb hd ht2 (fun _ => k2) (fun q => absurd hc q)
      · exact lv_icmp_gt hx hb hd ht2 (fun _ => k2) (fun q => absurd hc q)
      · exact lv_icmp_le hx hb hd ht2 (fun _ => k2) (fun q => absurd hc q)
    · rename_i hc
      obtain ⟨rfl, rfl, rfl, rfl⟩ := nx_inj ho
      have k2 := k H locs ls hH hS hL hn
      cases cc <;> simp only [bB, decide_eq_true_eq, Classical.not_not] at hc
      · exact lv_icmp_eq hx hb hd ht (fun q => absurd q hc) (fun _ => k2)
      · exact lv_icmp_ne hx hb hd ht (fun q => absurd hc q) (fun _ => k2)
      · exact lv_icmp_lt hx hb hd ht (fun q => absurd q hc) (fun _ => k2)
      · exact lv_icmp_ge hx hb hd ht (fun q => absurd q hc) (fun _ => k2)
      · exact lv_icmp_gt hx hb hd ht (fun q => absurd q hc) (fun _ => k2)
      · exact lv_icmp_le hx hb hd ht (fun q => absurd q hc) (fun _ => k2)
  · cases ho
theorem n_if1 {cc : ClassFile.Cond} {off : Int} (hx : p.tables.exec = Jvm.exec) (hb : c.code = M.2.2.1) (hd : decode M.2.2.1 pc = .ok (.ifCond cc off, 3)) (ho : o_if1 cc off L st h pc = some (.inl (pc', L', st', h'))) (k : WA sb G tyC H0 p l e R s m args below meth c Q M.2.2.2.1 n0 pc' L' st' h') : WA sb G tyC H0 p l e R s m args below meth c Q M.2.2.2.1 n0 pc L st h := by
  unfold o_if1 at ho
  split at ho
  · rename_i x r
    split at ho
    · cases ho
    rename_i hj
    have ht : (pc : Int) + off = (((pc : Int) + off).toNat : Int) := (Int.toNat_of_nonneg (by omega)).symm
    intro H locs ls hH hS hL hn
    split at ho
    · rename_i hc
      obtain ⟨t, ht2, he⟩ := jp_inj ho
      cases he
      have k2 := k H locs ls hH hS hL hn
      cases cc <;> simp only [bB, decide_eq_true_eq] at hc
      · exact lv_if_eq hx hb hd ht2 (fun _ => k2) (fun q => absurd hc q)
      · exact lv_if_ne hx hb hd ht2 (fun _ => k2) (fun q => absurd q hc)
      · exact lv_if_lt hx hb hd ht2 (fun _ => k2) (fun q => absurd hc q)
      · exact lv_if_ge hx hb hd ht2 (fun _ => k2) (fun q => absurd hc q)
      · exact lv_if_gt hx hb hd ht2 (fun _ => k2) (fun q => absurd hc q)
      · exact lv_if_le hx hb hd ht2 (fun _ => k2) (fun q => absurd hc q)
    · rename_i hc
      obtain ⟨rfl, rfl, rfl, rfl⟩ := nx_inj ho
      have k2 := k H locs ls hH hS hL hn
      cases cc <;> simp only [bB, decide_eq_true_eq, Classical.not_not] at hc
      · exact lv_if_eq hx hb hd ht (fun q => absurd q hc) (fun _ => k2)
      · exact lv_if_ne hx hb hd ht (fun q => absurd hc q) (fun _ => k2)
      · exact lv_if_lt hx hb hd ht (fun q => absurd q hc) (fun _ => k2)
      · exact lv_if_ge hx hb hd ht (fun q => absurd q hc) (fun _ => k2)
      · exact lv_if_gt hx hb hd ht (fun q => absurd q hc) (fun _ => k2)
      · exact lv_if_le hx hb hd ht (fun q => absurd q hc) (fun _ => k2)
  · cases ho
theorem n_null {off : Int} (hx : p.tables.exec = Jvm.exec) (hb : c.code = M.2.2.1) (hd : decode M.2.2.1 pc = .ok (.ifnull off, 3)) (ho : o_nul true off L st h pc = some (.inl (pc', L', st', h'))) (k : WA sb G tyC H0 p l e R s m args below meth c Q M.2.2.2.1 n0 pc' L' st' h') : WA sb G tyC H0 p l e R s m args below meth c Q M.2.2.2.1 n0 pc L st h := by
  unfold o_nul at ho
  split at ho
  · rw [if_pos rfl] at ho
    obtain ⟨rfl, rfl, rfl, rfl⟩ := nx_inj ho
    intro H locs ls hH hS hL hn
    exact lv_ifnull hx hb hd (k H locs ls hH hS hL hn)
  · rw [if_pos rfl] at ho
    obtain ⟨t, ht, he⟩ := jp_inj ho
    cases he
    intro H locs ls hH hS hL hn
    exact lv_ifnullN hx hb hd ht (k H locs ls hH hS hL hn)
  · cases ho
theorem n_nnull {off : Int} (hx : p.tables.exec = Jvm.exec) (hb : c.code = M.2.2.1) (hd : decode M.2.2.1 pc = .ok (.ifnonnull off, 3)) (ho : o_nul false off L st h pc = some (.inl (pc', L', st', h'))) (k : WA sb G tyC H0 p l e R s m args below meth c Q M.2.2.2.1 n0 pc' L' st' h') : WA sb G tyC H0 p l e R s m args below meth c Q M.2.2.2.1 n0 pc L st h := by
  unfold o_nul at ho
  split at ho
  · rw [if_neg (by decide)] at ho
    obtain ⟨t, ht, he⟩ := jp_inj ho
    cases he
    intro H locs ls hH hS hL hn
    exact lv_ifnonnull hx hb hd ht (k H locs ls hH hS hL hn)
  · rw [if_neg (by decide)] at ho
    obtain ⟨rfl, rfl, rfl, rfl⟩ := nx_inj ho
    intro H locs ls hH hS hL hn
    exact lv_ifnonnullN hx hb hd (k H locs ls hH hS hL hn)
  · cases ho
theorem n_tab {dflt lo hi : Int} {offs : Array Int} (hx : p.tables.exec = Jvm.exec) (hb : c.code = M.2.2.1) (hd : decode M.2.2.1 pc = .ok (.tableswitch dflt lo hi offs, len)) (ho : o_tab dflt lo hi offs L st h pc = some (.inl (pc', L', st', h'))) (k : WA sb G tyC H0 p l e R s m args below meth c Q M.2.2.2.1 n0 pc' L' st' h') : WA sb G tyC H0 p l e R s m args below meth c Q M.2.2.2.1 n0 pc L st h := by
  unfold o_tab at ho
  split at ho
  · intro H locs ls hH hS hL hn
    split at ho
    · rename_i hc
      obtain ⟨t, ht, he⟩ := jp_inj ho
      cases he
      exact lv_tableOut hx hb hd hc ht (k H locs ls hH hS hL hn)
    · rename_i hc
      split at ho
      · rename_i off hoff
        obtain ⟨t, ht, he⟩ := jp_inj ho
        cases he
        exact lv_tableIn hx hb hd (fun q => hc (Or.inl q)) (fun q => hc (Or.inr q)) hoff ht (k H locs ls hH hS hL hn)
      · cases ho
  · cases ho
theorem n_lkp {dflt : Int} {ps : Array (Int × Int)} (hx : p.tables.exec = Jvm.exec) (hb : c.code = M.2.2.1) (hd : decode M.2.2.1 pc = .ok (.lookupswitch dflt ps, len)) (ho : o_lkp dflt ps L st h pc = some (.inl (pc', L', st', h'))) (k : WA sb G tyC H0 p l e R s m args below meth c Q M.2.2.2.1 n0 pc' L' st' h') : WA sb G tyC H0 p l e R s m args below meth c Q M.2.2.2.1 n0 pc L st h := by
  unfold o_lkp at ho
  split at ho
  · split at ho
    · rename_i hc
      obtain ⟨t, ht, he⟩ := jp_inj ho
      cases he
      intro H locs ls hH hS hL hn
      exact lv_lookup hx hb hd hc rfl ht (k H locs ls hH hS hL hn)
    · cases ho
  · cases ho
end STP
