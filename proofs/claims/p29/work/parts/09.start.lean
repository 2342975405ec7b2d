theorem ins_ok : ∀ (ci : Nat) (C : String) (T : u_T) (N : Nat), cls[ci]? = some (C, T, N) → okT (.instantiable C N)
  | 0, _, _, _, h => by cases h; exact ckW_ok ins_0
  | 1, _, _, _, h => by cases h; exact ckW_ok ins_1
  | 2, _, _, _, h => by cases h; exact ckW_ok ins_2
  | 3, _, _, _, h => by cases h; exact ckW_ok ins_3
  | 4, _, _, _, h => by cases h; exact ckW_ok ins_4
  | 5, _, _, _, h => by cases h; exact ckW_ok ins_5
  | 6, _, _, _, h => by cases h; exact ckW_ok ins_6
  | 7, _, _, _, h => by cases h; exact ckW_ok ins_7
  | 8, _, _, _, h => by cases h; exact ckW_ok ins_8
  | 9, _, _, _, h => by cases h; exact ckW_ok ins_9
  | 10, _, _, _, h => by cases h; exact ckW_ok ins_10
  | n + 11, _, _, _, h => by simp [cls] at h
theorem ty_prim {args : Array Value} {s : State} {ty : FieldType} (h : (Cond.arrayClass ty).before args s = true) (hr : ∀ cA, va_RA s cA ty = (s.vm.findClass ("[" ++ ty.toString) = some cA)) : ∃ cA, ArrOfT s cA ty ∧ va_RA s cA ty := by
  obtain ⟨cA, kA, comp, h1, h2, h3⟩ := Cond.arrayClass_spec h
  exact ⟨cA, fun n z => ⟨fun k h => (by cases h), kA, h2, comp, h3⟩, by rw [hr]; exact h1⟩
theorem ty_obj {args : Array Value} {s : State} {C : String} (h : (Cond.arrayOver (.object C)).before args s = true) : ∃ cA, ArrOfT s cA (.object C) ∧ va_RA s cA (.object C) := by
  obtain ⟨comp, cA, kA, h1, h2, h3, h4, h5⟩ := Cond.arrayOver_spec h
  exact ⟨cA, fun n z => ⟨fun k h => (by cases h), kA, h3, comp, h4⟩, kA, comp, h3, h4, h1, h5⟩
theorem ty_ex {args : Array Value} {s : State} (hts : ∀ w ∈ lw_tbl, w.before args s = true) : ∀ (t : Nat) (ty : FieldType), tyL[t]? = some ty → ∃ cA, ArrOfT s cA ty ∧ va_RA s cA ty := by
  have hac : ∀ w ∈ ([.arrayClass .int, .arrayClass .long, .arrayClass .byte, .arrayClass .short] : List Cond), w.before args s = true := fun w hw => hts w (ckWs_ok ac_all w hw).1
  have hao : ∀ w ∈ ([.arrayOver (.object "TurnsOneWay$Stone"), .arrayOver (.object "TurnsOneWay$Floor"), .arrayOver (.object "TurnsOneWay$Shelf")] : List Cond), w.before args s = true := fun w hw => hts w (ckWs_ok ao_all w hw).1
  intro t ty h
  match t, h with
  | 0, h => cases h; exact ty_prim (hac _ (by simp)) fun _ => rfl
  | 1, h => cases h; exact ty_prim (hac _ (by simp)) fun _ => rfl
  | 2, h => cases h; exact ty_prim (hac _ (by simp)) fun _ => rfl
  | 3, h => cases h; exact ty_prim (hac _ (by simp)) fun _ => rfl
  | 4, h => cases h; exact ty_obj (hao _ (by simp))
  | 5, h => cases h; exact ty_obj (hao _ (by simp))
  | 6, h => cases h; exact ty_obj (hao _ (by simp))
  | n + 7, h => simp [tyL] at h
theorem kn_ex0 {args : Array Value} {s : State} (hts : ∀ w ∈ lw_tbl, w.before args s = true) : ∃ (G : va_G) (tyC : Nat → ClassId), va_K G cls (tyV tyC) s := by
  have h : ∀ c : Nat, ∃ x : ClassId × (Nat → Nat), ∀ q : vw_C, cls[c]? = some q → u_Kn s q.1 q.2.1 q.2.2 x.1 x.2 := by
    intro c
    cases hc : cls[c]? with
    | none => exact ⟨(0, fun _ => 0), fun q hq => by cases hq⟩
    | some q =>
      obtain ⟨C, T, N⟩ := q
      obtain ⟨cC, iS, hk⟩ := u_known (C := C) (T := T) (N := N) (n := N) (ws := lw_tbl) hts (fun w hw => ((cls_ok c C T N hc).1 w hw).1) (hts _ (ins_ok c C T N hc).1)
      exact ⟨(cC, iS), fun q hq => by cases hq; exact hk⟩
  have h2 : ∀ t : Nat, ∃ cA : ClassId, ∀ ty, tyL[t]? = some ty → ArrOfT s cA ty ∧ va_RA s cA ty := by
    intro t
    cases ht : tyL[t]? with
    | none => exact ⟨0, fun q hq => by cases hq⟩
    | some ty =>
      obtain ⟨cA, hk⟩ := ty_ex hts t ty ht
      exact ⟨cA, fun q hq => by cases hq; exact hk⟩
  refine ⟨(fun c => (Classical.choose (h c)).1, fun c => (Classical.choose (h c)).2), fun t => Classical.choose (h2 t), fun c q hq => Classical.choose_spec (h c) q hq, fun k q hq => ?_⟩
  unfold tyV at hq
  rw [List.getElem?_map] at hq
  by_cases hl : k < tyL.length
  · rw [List.getElem?_range hl] at hq
    cases hq
    exact Classical.choose_spec (h2 k) _ (by simp [List.getD_eq_getElem?_getD, hl])
  · rw [List.getElem?_eq_none (by rw [List.length_range]; omega)] at hq
    cases hq
/-- the script, and the static rows, as tokens -/
def XL (L : Nat) (xs : Nat → Int32) : Tok := fun t => if t = 0 then some (L, xs) else none
