def nestW (w : Cond) : Bool := match w with
  | .fieldLinkNest _ _ _ _ _ _ => true
  | .methodLinkNest _ _ _ _ => true
  | .arrayOver (.object _) => true
  | _ => false
def codeW (M : MI) : Cond := .code M.2.1 M.2.2.1 M.2.2.2.1 M.2.2.2.2
def callWs (o i : Nat) (q : Nat × Nat × Nat × MI) : List Cond := match q with
  | (0, _, _, M) => [.methodLink (oN o) i M.2.1, .instanceMethod M.2.1, .selects M.2.1.cls M.2.1 M.2.1, .initialized M.2.1.cls]
  | (1, _, _, M) => [.methodLink (oN o) i M.2.1, .static M.2.1, .initialized M.2.1.cls]
  | (2, _, _, M) => [.methodLink (oN o) i M.2.1, .instanceMethod M.2.1, .initialized M.2.1.cls]
  | (3, _, _, _) => [.methodLink (oN o) i objectInit, .instanceMethod objectInit, .code objectInit ⟨#[0xb1]⟩ 1 none]
  | (4, _, _, M) => [.methodLinkNest (oN o) i M.2.1 "TurnsOneWay", .static M.2.1, .initialized M.2.1.cls]
  | (5, _, _, M) => [.methodLinkNest (oN o) i M.2.1 "TurnsOneWay", .instanceMethod M.2.1, .initialized M.2.1.cls]
  | (6, _, _, _) => [.methodLink (oN o) i Lib.Math.max.name, .static Lib.Math.max.name, .initialized "java/lang/Math", .code Lib.Math.max.name Lib.Math.max.code 2 (some .int)]
  | (7, _, _, _) => [.methodLink (oN o) i Lib.Math.min.name, .static Lib.Math.min.name, .initialized "java/lang/Math", .code Lib.Math.min.name Lib.Math.min.code 2 (some .int)]
  | (8, _, _, _) => [.methodLink (oN o) i Lib.Math.abs.name, .static Lib.Math.abs.name, .initialized "java/lang/Math", .code Lib.Math.abs.name Lib.Math.abs.code 1 (some .int)]
  | (9, _, _, _) => [.methodLink (oN o) i Lib.MathLoose.min_long.x, .static Lib.MathLoose.min_long.x, .initialized "java/lang/Math", .code Lib.MathLoose.min_long.x Lib.MathLoose.min_long.code 4 (some .long)]
  | (10, _, _, _) => [.methodLink (oN o) i arraycopyName, .native arraycopyName, .static arraycopyName, .initialized "java/lang/System"]
  | _ => []
theorem cw2 {c : Bool} {a b : Option Cond} {w : Cond} (h : cond c a b = some w) : a = some w ∨ b = some w := by
  cases c
  · exact .inr h
  · exact .inl h
def lkW (p : Nat) : Option Cond := cond (Nat.blt p 90) ((k2_sels lw_privs)[p]?) (cond (Nat.blt p 330) (tables_1_1[p - 90]?) (cond (Nat.blt p 570) (tables_1_2[p - 330]?) (cond (Nat.blt p 810) (tables_1_3[p - 570]?) (cond (Nat.blt p 1050) (tables_1_4[p - 810]?) (cond (Nat.blt p 1290) (tables_1_5[p - 1050]?) (cond (Nat.blt p 1530) (tables_1_6[p - 1290]?) (tables_1_7[p - 1530]?)))))))
theorem lkW_mem {p : Nat} {w : Cond} (h : lkW p = some w) : w ∈ lw_tbl := by
  rcases cw2 h with h | h
  · exact List.mem_append_left _ (List.mem_of_getElem? h)
  rcases cw2 h with h | h
  · exact List.mem_append_right _ (List.mem_append_left _ (List.mem_of_getElem? h))
  rcases cw2 h with h | h
  · exact List.mem_append_right _ (List.mem_append_right _ (List.mem_append_left _ (List.mem_of_getElem? h)))
  rcases cw2 h with h | h
  · exact List.mem_append_right _ (List.mem_append_right _ (List.mem_append_right _ (List.mem_append_left _ (List.mem_of_getElem? h))))
  rcases cw2 h with h | h
  · exact List.mem_append_right _ (List.mem_append_right _ (List.mem_append_right _ (List.mem_append_right _ (List.mem_append_left _ (List.mem_of_getElem? h)))))
  rcases cw2 h with h | h
  · exact List.mem_append_right _ (List.mem_append_right _ (List.mem_append_right _ (List.mem_append_right _ (List.mem_append_right _ (List.mem_append_left _ (List.mem_of_getElem? h))))))
  rcases cw2 h with h | h
  · exact List.mem_append_right _ (List.mem_append_right _ (List.mem_append_right _ (List.mem_append_right _ (List.mem_append_right _ (List.mem_append_right _ (List.mem_append_left _ (List.mem_of_getElem? h)))))))
  exact List.mem_append_right _ (List.mem_append_right _ (List.mem_append_right _ (List.mem_append_right _ (List.mem_append_right _ (List.mem_append_right _ (List.mem_append_right _ (List.mem_of_getElem? h)))))))
def ckW (w : Cond) (p : Nat) : Bool := decide (lkW p = some w) && (goodWord w || nestW w)
def ckWs (l : List Cond) (ps : List Nat) : Bool := l.length == ps.length && (l.zip ps).all (fun z => ckW z.1 z.2)
def okT (w : Cond) : Prop := w ∈ lw_tbl ∧ (goodWord w = true ∨ nestW w = true)
theorem ckW_ok {w : Cond} {p : Nat} (h : ckW w p = true) : okT w := by
  simp only [ckW, Bool.and_eq_true, Bool.or_eq_true, decide_eq_true_eq] at h
  exact ⟨lkW_mem h.1, h.2⟩
theorem ckWs_ok {l : List Cond} {ps : List Nat} (h : ckWs l ps = true) : ∀ w ∈ l, okT w := by
  simp only [ckWs, Bool.and_eq_true, beq_iff_eq] at h
  intro w hw
  obtain ⟨k, hk⟩ := List.getElem?_of_mem hw
  have hl : k < l.length := (List.getElem?_eq_some_iff.mp hk).1
  have hl2 : k < ps.length := by rw [← h.1]; exact hl
  have hz : (w, ps[k]) ∈ l.zip ps := by
    refine List.mem_of_getElem? (i := k) ?_
    rw [List.getElem?_zip_eq_some]
    exact ⟨hk, List.getElem?_eq_getElem hl2⟩
  exact ckW_ok (List.all_eq_true.mp h.2 _ hz)
def okMI (M : MI) : Prop := plainName M.2.1.cls = true ∧ M.2.1.cls ≠ "java/lang/invoke/MethodHandle" ∧ M.2.1.cls ≠ "java/lang/invoke/VarHandle" ∧ oN M.1 = M.2.1.cls
def okQ (q : Nat × Nat × Nat × MI) : Prop := (q.1 = 3 ∨ 6 ≤ q.1) ∨ (okMI q.2.2.2 ∧ (parseMethodDescriptor q.2.2.2.2.1.desc).map (fun d => d.parameters.length) = some q.2.2.1 ∧ ((q.1 = 0 ∨ q.1 = 2 ∨ q.1 = 5) → (cls[q.2.1]?).map (fun r => r.1) = some q.2.2.2.2.1.cls) ∧ ((q.1 = 2 ∨ q.1 = 5) → q.2.2.2.2.1.name = "<init>" ∧ q.2.2.2.2.2.2.2 = none))
def ckMI (M : MI) : Bool := plainName M.2.1.cls && decide (M.2.1.cls ≠ "java/lang/invoke/MethodHandle") && decide (M.2.1.cls ≠ "java/lang/invoke/VarHandle") && decide (oN M.1 = M.2.1.cls)
def ckQ (q : Nat × Nat × Nat × MI) : Bool := (q.1 == 3 || Nat.ble 6 q.1) || (ckMI q.2.2.2 && decide ((parseMethodDescriptor q.2.2.2.2.1.desc).map (fun d => d.parameters.length) = some q.2.2.1) && (!(q.1 == 0 || q.1 == 2 || q.1 == 5) || decide ((cls[q.2.1]?).map (fun r => r.1) = some q.2.2.2.2.1.cls)) && (!(q.1 == 2 || q.1 == 5) || (decide (q.2.2.2.2.1.name = "<init>") && q.2.2.2.2.2.2.2.isNone)))
theorem ckMI_ok {M : MI} (h : ckMI M = true) : okMI M := by
  simp only [ckMI, Bool.and_eq_true, decide_eq_true_eq] at h
  exact ⟨h.1.1.1, h.1.1.2, h.1.2, h.2⟩
theorem ckQ_ok {q : Nat × Nat × Nat × MI} (h : ckQ q = true) : okQ q := by
  obtain ⟨k, ci, n, M⟩ := q
  simp only [ckQ, Bool.and_eq_true, decide_eq_true_eq, Bool.or_eq_true, Bool.not_eq_true', beq_iff_eq, Bool.or_eq_false_iff, beq_eq_false_iff_ne, Nat.ble_eq] at h
  unfold okQ
  rcases h with h | ⟨⟨⟨h1, h2⟩, h3⟩, h4⟩
  · exact Or.inl h
  · refine Or.inr ⟨ckMI_ok h1, h2, fun hk => ?_, fun hk => ?_⟩
    · rcases h3 with h3 | h3
      · exfalso
        simp only at hk
        omega
      · exact h3
    · rcases h4 with h4 | h4
      · exfalso
        simp only at hk
        omega
      · exact ⟨h4.1, Option.isNone_iff_eq_none.mp h4.2⟩
def ckC (o : Nat) (r : Nat × (Nat × Nat × Nat × Nat) × List Nat) : Bool := ckWs (callWs o r.1 (toQ r.2.1)) r.2.2 && ckQ (toQ r.2.1)
def wF (o : Nat) (r : Nat × (Nat × Nat × Nat × Nat) × Nat × Nat) : Cond := match cls[r.2.1.1]? with
  | some (C, T, _) => if r.2.2.1 = 1 then .fieldLinkNest (oN o) r.1 C (T r.2.1.2.1).2.1 (T r.2.1.2.1).2.2.1 "TurnsOneWay" else .fieldLink (oN o) r.1 C (T r.2.1.2.1).2.1 (T r.2.1.2.1).2.2.1
  | none => .returned
def ckF (o : Nat) (r : Nat × (Nat × Nat × Nat × Nat) × Nat × Nat) : Bool := match cls[r.2.1.1]? with
  | some (C, T, N) => ckW (wF o r) r.2.2.2 && decide (r.2.1.2.1 < N) && decide ((T r.2.1.2.1).1 = C) && ((T r.2.1.2.1).2.2.2 == (r.2.1.2.2.2 == 1)) && (if r.2.1.2.2.1 = 0 then (T r.2.1.2.1).2.2.1 == "I" else (T r.2.1.2.1).2.2.1 != "I" && (ftC r.2.1.1 r.2.1.2.1).isReference) && (!(r.2.1.2.2.2 == 1) || decide (oN o = C) || true)
  | none => false
def ckN (o : Nat) (r : Nat × Nat × List Nat) : Bool := match cls[r.2.1]? with
  | some (C, _, N) => ckWs [.classLink (oN o) r.1 C, .instantiable C N, .initialized C] r.2.2
  | none => false
def ckA (o : Nat) (r : Nat × Nat × String × List Nat) : Bool := decide (tyL[r.2.1]? = some (.object r.2.2.1)) && ckWs [.classLink (oN o) r.1 r.2.2.1, .arrayOver (.object r.2.2.1)] r.2.2.2
def ckK (o : Nat) (r : Nat × Int32 × Nat) : Bool := ckW (.constant (oN o) r.1 r.2.1) r.2.2
def ckL (o : Nat) (r : Nat × Int64 × Nat) : Bool := ckW (.constantLong (oN o) r.1 r.2.1) r.2.2
set_option maxRecDepth 100000 in
theorem CT_a0_0 : (CT_0_0).all (ckC 0) = true := by decide +kernel
theorem CT_a0 : (CT_0).all (ckC 0) = true := CT_a0_0
set_option maxRecDepth 100000 in
theorem CT_a1_0 : (CT_1_0).all (ckC 1) = true := by decide +kernel
theorem CT_a1 : (CT_1).all (ckC 1) = true := CT_a1_0
set_option maxRecDepth 100000 in
theorem CT_a2_0 : (CT_2_0).all (ckC 2) = true := by decide +kernel
theorem CT_a2 : (CT_2).all (ckC 2) = true := CT_a2_0
set_option maxRecDepth 100000 in
theorem CT_a3_0 : (CT_3_0).all (ckC 3) = true := by decide +kernel
theorem CT_a3 : (CT_3).all (ckC 3) = true := CT_a3_0
set_option maxRecDepth 100000 in
theorem CT_a4_0 : (CT_4_0).all (ckC 4) = true := by decide +kernel
theorem CT_a4 : (CT_4).all (ckC 4) = true := CT_a4_0
set_option maxRecDepth 100000 in
theorem CT_a5_0 : (CT_5_0).all (ckC 5) = true := by decide +kernel
theorem CT_a5 : (CT_5).all (ckC 5) = true := CT_a5_0
set_option maxRecDepth 100000 in
theorem CT_a6_0 : (CT_6_0).all (ckC 6) = true := by decide +kernel
theorem CT_a6 : (CT_6).all (ckC 6) = true := CT_a6_0
set_option maxRecDepth 100000 in
theorem CT_a7_0 : (CT_7_0).all (ckC 7) = true := by decide +kernel
theorem CT_a7 : (CT_7).all (ckC 7) = true := CT_a7_0
set_option maxRecDepth 100000 in
theorem CT_a8_0 : (CT_8_0).all (ckC 8) = true := by decide +kernel
theorem CT_a8 : (CT_8).all (ckC 8) = true := CT_a8_0
set_option maxRecDepth 100000 in
theorem CT_a9_0 : (CT_9_0).all (ckC 9) = true := by decide +kernel
set_option maxRecDepth 100000 in
theorem CT_a9_1 : (CT_9_1).all (ckC 9) = true := by decide +kernel
set_option maxRecDepth 100000 in
theorem CT_a9_2 : (CT_9_2).all (ckC 9) = true := by decide +kernel
set_option maxRecDepth 100000 in
theorem CT_a9_3 : (CT_9_3).all (ckC 9) = true := by decide +kernel
theorem CT_a9 : (CT_9).all (ckC 9) = true := by
  unfold CT_9
  simp only [List.all_append, Bool.and_eq_true]
  exact ⟨CT_a9_0, ⟨CT_a9_1, ⟨CT_a9_2, CT_a9_3⟩⟩⟩
set_option maxRecDepth 100000 in
theorem CT_a10_0 : (CT_10_0).all (ckC 10) = true := by decide +kernel
set_option maxRecDepth 100000 in
theorem CT_a10_1 : (CT_10_1).all (ckC 10) = true := by decide +kernel
set_option maxRecDepth 100000 in
theorem CT_a10_2 : (CT_10_2).all (ckC 10) = true := by decide +kernel
set_option maxRecDepth 100000 in
theorem CT_a10_3 : (CT_10_3).all (ckC 10) = true := by decide +kernel
theorem CT_a10 : (CT_10).all (ckC 10) = true := by
  unfold CT_10
  simp only [List.all_append, Bool.and_eq_true]
  exact ⟨CT_a10_0, ⟨CT_a10_1, ⟨CT_a10_2, CT_a10_3⟩⟩⟩
set_option maxRecDepth 100000 in
theorem CT_a11_0 : (CT_11_0).all (ckC 11) = true := by decide +kernel
set_option maxRecDepth 100000 in
theorem CT_a11_1 : (CT_11_1).all (ckC 11) = true := by decide +kernel
set_option maxRecDepth 100000 in
theorem CT_a11_2 : (CT_11_2).all (ckC 11) = true := by decide +kernel
set_option maxRecDepth 100000 in
theorem CT_a11_3 : (CT_11_3).all (ckC 11) = true := by decide +kernel
theorem CT_a11 : (CT_11).all (ckC 11) = true := by
  unfold CT_11
  simp only [List.all_append, Bool.and_eq_true]
  exact ⟨CT_a11_0, ⟨CT_a11_1, ⟨CT_a11_2, CT_a11_3⟩⟩⟩
theorem CT_all (o : Nat) : (CT o).all (ckC o) = true := by
  unfold CT
  split
  · exact CT_a0
  · exact CT_a1
  · exact CT_a2
  · exact CT_a3
  · exact CT_a4
  · exact CT_a5
  · exact CT_a6
  · exact CT_a7
  · exact CT_a8
  · exact CT_a9
  · exact CT_a10
  · exact CT_a11
  · rfl
set_option maxRecDepth 100000 in
theorem FT_a0_0 : (FT_0_0).all (ckF 0) = true := by decide +kernel
theorem FT_a0 : (FT_0).all (ckF 0) = true := FT_a0_0
set_option maxRecDepth 100000 in
theorem FT_a1_0 : (FT_1_0).all (ckF 1) = true := by decide +kernel
theorem FT_a1 : (FT_1).all (ckF 1) = true := FT_a1_0
set_option maxRecDepth 100000 in
theorem FT_a2_0 : (FT_2_0).all (ckF 2) = true := by decide +kernel
theorem FT_a2 : (FT_2).all (ckF 2) = true := FT_a2_0
set_option maxRecDepth 100000 in
theorem FT_a3_0 : (FT_3_0).all (ckF 3) = true := by decide +kernel
theorem FT_a3 : (FT_3).all (ckF 3) = true := FT_a3_0
set_option maxRecDepth 100000 in
theorem FT_a4_0 : (FT_4_0).all (ckF 4) = true := by decide +kernel
theorem FT_a4 : (FT_4).all (ckF 4) = true := FT_a4_0
set_option maxRecDepth 100000 in
theorem FT_a5_0 : (FT_5_0).all (ckF 5) = true := by decide +kernel
theorem FT_a5 : (FT_5).all (ckF 5) = true := FT_a5_0
set_option maxRecDepth 100000 in
theorem FT_a6_0 : (FT_6_0).all (ckF 6) = true := by decide +kernel
theorem FT_a6 : (FT_6).all (ckF 6) = true := FT_a6_0
set_option maxRecDepth 100000 in
theorem FT_a7_0 : (FT_7_0).all (ckF 7) = true := by decide +kernel
theorem FT_a7 : (FT_7).all (ckF 7) = true := FT_a7_0
set_option maxRecDepth 100000 in
theorem FT_a8_0 : (FT_8_0).all (ckF 8) = true := by decide +kernel
theorem FT_a8 : (FT_8).all (ckF 8) = true := FT_a8_0
set_option maxRecDepth 100000 in
theorem FT_a9_0 : (FT_9_0).all (ckF 9) = true := by decide +kernel
set_option maxRecDepth 100000 in
theorem FT_a9_1 : (FT_9_1).all (ckF 9) = true := by decide +kernel
theorem FT_a9 : (FT_9).all (ckF 9) = true := by
  unfold FT_9
  simp only [List.all_append, Bool.and_eq_true]
  exact ⟨FT_a9_0, FT_a9_1⟩
set_option maxRecDepth 100000 in
theorem FT_a10_0 : (FT_10_0).all (ckF 10) = true := by decide +kernel
set_option maxRecDepth 100000 in
theorem FT_a10_1 : (FT_10_1).all (ckF 10) = true := by decide +kernel
set_option maxRecDepth 100000 in
theorem FT_a10_2 : (FT_10_2).all (ckF 10) = true := by decide +kernel
theorem FT_a10 : (FT_10).all (ckF 10) = true := by
  unfold FT_10
  simp only [List.all_append, Bool.and_eq_true]
  exact ⟨FT_a10_0, ⟨FT_a10_1, FT_a10_2⟩⟩
theorem FT_all (o : Nat) : (FT o).all (ckF o) = true := by
  unfold FT
  split
  · exact FT_a0
  · exact FT_a1
  · exact FT_a2
  · exact FT_a3
  · exact FT_a4
  · exact FT_a5
  · exact FT_a6
  · exact FT_a7
  · exact FT_a8
  · exact FT_a9
  · exact FT_a10
  · rfl
set_option maxRecDepth 100000 in
theorem NT_a9_0 : (NT_9_0).all (ckN 9) = true := by decide +kernel
theorem NT_a9 : (NT_9).all (ckN 9) = true := NT_a9_0
set_option maxRecDepth 100000 in
theorem NT_a11_0 : (NT_11_0).all (ckN 11) = true := by decide +kernel
theorem NT_a11 : (NT_11).all (ckN 11) = true := NT_a11_0
theorem NT_all (o : Nat) : (NT o).all (ckN o) = true := by
  unfold NT
  split
  · exact NT_a9
  · exact NT_a11
  · rfl
set_option maxRecDepth 100000 in
theorem AT_a9_0 : (AT_9_0).all (ckA 9) = true := by decide +kernel
theorem AT_a9 : (AT_9).all (ckA 9) = true := AT_a9_0
theorem AT_all (o : Nat) : (AT o).all (ckA o) = true := by
  unfold AT
  split
  · exact AT_a9
  · rfl
set_option maxRecDepth 100000 in
theorem KT_a4_0 : (KT_4_0).all (ckK 4) = true := by decide +kernel
theorem KT_a4 : (KT_4).all (ckK 4) = true := KT_a4_0
set_option maxRecDepth 100000 in
theorem KT_a7_0 : (KT_7_0).all (ckK 7) = true := by decide +kernel
theorem KT_a7 : (KT_7).all (ckK 7) = true := KT_a7_0
set_option maxRecDepth 100000 in
theorem KT_a9_0 : (KT_9_0).all (ckK 9) = true := by decide +kernel
theorem KT_a9 : (KT_9).all (ckK 9) = true := KT_a9_0
set_option maxRecDepth 100000 in
theorem KT_a10_0 : (KT_10_0).all (ckK 10) = true := by decide +kernel
theorem KT_a10 : (KT_10).all (ckK 10) = true := KT_a10_0
theorem KT_all (o : Nat) : (KT o).all (ckK o) = true := by
  unfold KT
  split
  · exact KT_a4
  · exact KT_a7
  · exact KT_a9
  · exact KT_a10
  · rfl
set_option maxRecDepth 100000 in
theorem KL_a5_0 : (KL_5_0).all (ckL 5) = true := by decide +kernel
theorem KL_a5 : (KL_5).all (ckL 5) = true := KL_a5_0
set_option maxRecDepth 100000 in
theorem KL_a9_0 : (KL_9_0).all (ckL 9) = true := by decide +kernel
theorem KL_a9 : (KL_9).all (ckL 9) = true := KL_a9_0
set_option maxRecDepth 100000 in
theorem KL_a10_0 : (KL_10_0).all (ckL 10) = true := by decide +kernel
theorem KL_a10 : (KL_10).all (ckL 10) = true := KL_a10_0
set_option maxRecDepth 100000 in
theorem KL_a11_0 : (KL_11_0).all (ckL 11) = true := by decide +kernel
theorem KL_a11 : (KL_11).all (ckL 11) = true := KL_a11_0
theorem KL_all (o : Nat) : (KL o).all (ckL o) = true := by
  unfold KL
  split
  · exact KL_a5
  · exact KL_a9
  · exact KL_a10
  · exact KL_a11
  · rfl
set_option maxRecDepth 100000 in
theorem cw_MBo_init : codeW MBo_init ∈ lw_tbl := List.mem_append_right _ (List.mem_append_left _ (List.mem_of_getElem? (i := 196) rfl))
set_option maxRecDepth 100000 in
theorem cw_MBo_append : codeW MBo_append ∈ lw_tbl := List.mem_append_right _ (List.mem_append_right _ (List.mem_append_right _ (List.mem_append_right _ (List.mem_append_left _ (List.mem_of_getElem? (i := 116) rfl)))))
set_option maxRecDepth 100000 in
theorem cw_MBo_kindOf : codeW MBo_kindOf ∈ lw_tbl := List.mem_append_right _ (List.mem_append_right _ (List.mem_append_right _ (List.mem_append_right _ (List.mem_append_left _ (List.mem_of_getElem? (i := 128) rfl)))))
set_option maxRecDepth 100000 in
theorem cw_MBo_above : codeW MBo_above ∈ lw_tbl := List.mem_append_right _ (List.mem_append_right _ (List.mem_append_right _ (List.mem_append_right _ (List.mem_append_left _ (List.mem_of_getElem? (i := 142) rfl)))))
set_option maxRecDepth 100000 in
theorem cw_MBo_isUnder : codeW MBo_isUnder ∈ lw_tbl := List.mem_append_right _ (List.mem_append_right _ (List.mem_append_right _ (List.mem_append_right _ (List.mem_append_left _ (List.mem_of_getElem? (i := 209) rfl)))))
set_option maxRecDepth 100000 in
theorem cw_MBo_ownNumber : codeW MBo_ownNumber ∈ lw_tbl := List.mem_append_right _ (List.mem_append_right _ (List.mem_append_right _ (List.mem_append_right _ (List.mem_append_left _ (List.mem_of_getElem? (i := 137) rfl)))))
set_option maxRecDepth 100000 in
theorem cw_MBo_traced : codeW MBo_traced ∈ lw_tbl := List.mem_append_right _ (List.mem_append_right _ (List.mem_append_right _ (List.mem_append_right _ (List.mem_append_left _ (List.mem_of_getElem? (i := 154) rfl)))))
set_option maxRecDepth 100000 in
theorem cw_MBo_perform : codeW MBo_perform ∈ lw_tbl := List.mem_append_right _ (List.mem_append_right _ (List.mem_append_right _ (List.mem_append_right _ (List.mem_append_left _ (List.mem_of_getElem? (i := 124) rfl)))))
set_option maxRecDepth 100000 in
theorem cw_MBo_ask : codeW MBo_ask ∈ lw_tbl := List.mem_append_right _ (List.mem_append_right _ (List.mem_append_right _ (List.mem_append_right _ (List.mem_append_left _ (List.mem_of_getElem? (i := 132) rfl)))))
set_option maxRecDepth 100000 in
theorem cw_MBo_run : codeW MBo_run ∈ lw_tbl := List.mem_append_right _ (List.mem_append_right _ (List.mem_append_right _ (List.mem_append_right _ (List.mem_append_left _ (List.mem_of_getElem? (i := 146) rfl)))))
set_option maxRecDepth 100000 in
theorem cw_MCh_init : codeW MCh_init ∈ lw_tbl := List.mem_append_right _ (List.mem_append_left _ (List.mem_of_getElem? (i := 178) rfl))
set_option maxRecDepth 100000 in
theorem cw_MCh_note : codeW MCh_note ∈ lw_tbl := List.mem_append_right _ (List.mem_append_right _ (List.mem_append_right _ (List.mem_append_left _ (List.mem_of_getElem? (i := 1) rfl))))
set_option maxRecDepth 100000 in
theorem cw_MCh_write : codeW MCh_write ∈ lw_tbl := List.mem_append_right _ (List.mem_append_right _ (List.mem_append_right _ (List.mem_append_left _ (List.mem_of_getElem? (i := 8) rfl))))
set_option maxRecDepth 100000 in
theorem cw_MCh_part : codeW MCh_part ∈ lw_tbl := List.mem_append_right _ (List.mem_append_right _ (List.mem_append_right _ (List.mem_append_right _ (List.mem_append_left _ (List.mem_of_getElem? (i := 104) rfl)))))
set_option maxRecDepth 100000 in
theorem cw_MFi_init : codeW MFi_init ∈ lw_tbl := List.mem_append_right _ (List.mem_append_left _ (List.mem_of_getElem? (i := 161) rfl))
set_option maxRecDepth 100000 in
theorem cw_MFi_mayCome : codeW MFi_mayCome ∈ lw_tbl := List.mem_append_right _ (List.mem_append_right _ (List.mem_append_right _ (List.mem_append_right _ (List.mem_append_left _ (List.mem_of_getElem? (i := 14) rfl)))))
set_option maxRecDepth 100000 in
theorem cw_MFi_append : codeW MFi_append ∈ lw_tbl := List.mem_append_right _ (List.mem_append_right _ (List.mem_append_right _ (List.mem_append_right _ (List.mem_append_left _ (List.mem_of_getElem? (i := 19) rfl)))))
set_option maxRecDepth 100000 in
theorem cw_MFi_takeFrom : codeW MFi_takeFrom ∈ lw_tbl := List.mem_append_right _ (List.mem_append_right _ (List.mem_append_right _ (List.mem_append_right _ (List.mem_append_left _ (List.mem_of_getElem? (i := 43) rfl)))))
set_option maxRecDepth 100000 in
theorem cw_MFi_tickAt : codeW MFi_tickAt ∈ lw_tbl := List.mem_append_right _ (List.mem_append_right _ (List.mem_append_right _ (List.mem_append_right _ (List.mem_append_left _ (List.mem_of_getElem? (i := 73) rfl)))))
set_option maxRecDepth 100000 in
theorem cw_MFi_turnAt : codeW MFi_turnAt ∈ lw_tbl := List.mem_append_right _ (List.mem_append_right _ (List.mem_append_right _ (List.mem_append_right _ (List.mem_append_left _ (List.mem_of_getElem? (i := 69) rfl)))))
set_option maxRecDepth 100000 in
theorem cw_MFl_init : codeW MFl_init ∈ lw_tbl := List.mem_append_right _ (List.mem_append_right _ (List.mem_append_left _ (List.mem_of_getElem? (i := 22) rfl)))
set_option maxRecDepth 100000 in
theorem cw_MFl_readFrom : codeW MFl_readFrom ∈ lw_tbl := List.mem_append_right _ (List.mem_append_right _ (List.mem_append_right _ (List.mem_append_left _ (List.mem_of_getElem? (i := 16) rfl))))
set_option maxRecDepth 100000 in
theorem cw_MFl_readLine : codeW MFl_readLine ∈ lw_tbl := List.mem_append_right _ (List.mem_append_right _ (List.mem_append_right _ (List.mem_append_left _ (List.mem_of_getElem? (i := 20) rfl))))
set_option maxRecDepth 100000 in
theorem cw_MFl_readJoined : codeW MFl_readJoined ∈ lw_tbl := List.mem_append_right _ (List.mem_append_right _ (List.mem_append_right _ (List.mem_append_left _ (List.mem_of_getElem? (i := 24) rfl))))
set_option maxRecDepth 100000 in
theorem cw_MFl_levelOf : codeW MFl_levelOf ∈ lw_tbl := List.mem_append_right _ (List.mem_append_right _ (List.mem_append_right _ (List.mem_append_left _ (List.mem_of_getElem? (i := 46) rfl))))
set_option maxRecDepth 100000 in
theorem cw_MFl_readOne : codeW MFl_readOne ∈ lw_tbl := List.mem_append_right _ (List.mem_append_right _ (List.mem_append_right _ (List.mem_append_left _ (List.mem_of_getElem? (i := 28) rfl))))
set_option maxRecDepth 100000 in
theorem cw_MFl_readOpened : codeW MFl_readOpened ∈ lw_tbl := List.mem_append_right _ (List.mem_append_right _ (List.mem_append_right _ (List.mem_append_left _ (List.mem_of_getElem? (i := 38) rfl))))
set_option maxRecDepth 100000 in
theorem cw_MFl_append : codeW MFl_append ∈ lw_tbl := List.mem_append_right _ (List.mem_append_right _ (List.mem_append_right _ (List.mem_append_left _ (List.mem_of_getElem? (i := 34) rfl))))
set_option maxRecDepth 100000 in
theorem cw_MFl_appendNumber : codeW MFl_appendNumber ∈ lw_tbl := List.mem_append_right _ (List.mem_append_right _ (List.mem_append_right _ (List.mem_append_left _ (List.mem_of_getElem? (i := 43) rfl))))
set_option maxRecDepth 100000 in
theorem cw_MFl_name : codeW MFl_name ∈ lw_tbl := List.mem_append_right _ (List.mem_append_right _ (List.mem_append_right _ (List.mem_append_left _ (List.mem_of_getElem? (i := 144) rfl))))
set_option maxRecDepth 100000 in
theorem cw_MFl_takes : codeW MFl_takes ∈ lw_tbl := List.mem_append_right _ (List.mem_append_right _ (List.mem_append_right _ (List.mem_append_left _ (List.mem_of_getElem? (i := 153) rfl))))
set_option maxRecDepth 100000 in
theorem cw_MFl_valueAt : codeW MFl_valueAt ∈ lw_tbl := List.mem_append_right _ (List.mem_append_right _ (List.mem_append_right _ (List.mem_append_left _ (List.mem_of_getElem? (i := 157) rfl))))
set_option maxRecDepth 100000 in
theorem cw_MFl_result : codeW MFl_result ∈ lw_tbl := List.mem_append_right _ (List.mem_append_right _ (List.mem_append_right _ (List.mem_append_left _ (List.mem_of_getElem? (i := 163) rfl))))
set_option maxRecDepth 100000 in
theorem cw_MGo_init : codeW MGo_init ∈ lw_tbl := List.mem_append_right _ (List.mem_append_left _ (List.mem_of_getElem? (i := 124) rfl))
set_option maxRecDepth 100000 in
theorem cw_MGo_isThere : codeW MGo_isThere ∈ lw_tbl := List.mem_append_right _ (List.mem_append_right _ (List.mem_append_right _ (List.mem_append_left _ (List.mem_of_getElem? (i := 171) rfl))))
set_option maxRecDepth 100000 in
theorem cw_MGo_record : codeW MGo_record ∈ lw_tbl := List.mem_append_right _ (List.mem_append_right _ (List.mem_append_right _ (List.mem_append_left _ (List.mem_of_getElem? (i := 100) rfl))))
set_option maxRecDepth 100000 in
theorem cw_MGo_note : codeW MGo_note ∈ lw_tbl := List.mem_append_right _ (List.mem_append_right _ (List.mem_append_right _ (List.mem_append_left _ (List.mem_of_getElem? (i := 104) rfl))))
set_option maxRecDepth 100000 in
theorem cw_MGo_at : codeW MGo_at ∈ lw_tbl := List.mem_append_right _ (List.mem_append_right _ (List.mem_append_right _ (List.mem_append_left _ (List.mem_of_getElem? (i := 175) rfl))))
set_option maxRecDepth 100000 in
theorem cw_MGo_backTick : codeW MGo_backTick ∈ lw_tbl := List.mem_append_right _ (List.mem_append_right _ (List.mem_append_right _ (List.mem_append_left _ (List.mem_of_getElem? (i := 184) rfl))))
set_option maxRecDepth 100000 in
theorem cw_MGo_summary : codeW MGo_summary ∈ lw_tbl := List.mem_append_right _ (List.mem_append_right _ (List.mem_append_right _ (List.mem_append_left _ (List.mem_of_getElem? (i := 193) rfl))))
set_option maxRecDepth 100000 in
theorem cw_MGo_ended : codeW MGo_ended ∈ lw_tbl := List.mem_append_right _ (List.mem_append_right _ (List.mem_append_right _ (List.mem_append_left _ (List.mem_of_getElem? (i := 197) rfl))))
set_option maxRecDepth 100000 in
theorem cw_MMo_init : codeW MMo_init ∈ lw_tbl := List.mem_append_right _ (List.mem_append_left _ (List.mem_of_getElem? (i := 53) rfl))
set_option maxRecDepth 100000 in
theorem cw_MMo_rule : codeW MMo_rule ∈ lw_tbl := List.mem_append_right _ (List.mem_append_right _ (List.mem_append_right _ (List.mem_append_left _ (List.mem_of_getElem? (i := 84) rfl))))
set_option maxRecDepth 100000 in
theorem cw_MMo_start : codeW MMo_start ∈ lw_tbl := List.mem_append_right _ (List.mem_append_right _ (List.mem_append_right _ (List.mem_append_left _ (List.mem_of_getElem? (i := 93) rfl))))
set_option maxRecDepth 100000 in
theorem cw_MMo_run : codeW MMo_run ∈ lw_tbl := List.mem_append_right _ (List.mem_append_right _ (List.mem_append_right _ (List.mem_append_left _ (List.mem_of_getElem? (i := 205) rfl))))
set_option maxRecDepth 100000 in
theorem cw_MMo_step : codeW MMo_step ∈ lw_tbl := List.mem_append_right _ (List.mem_append_right _ (List.mem_append_right _ (List.mem_append_left _ (List.mem_of_getElem? (i := 108) rfl))))
set_option maxRecDepth 100000 in
theorem cw_MMo_growRattle : codeW MMo_growRattle ∈ lw_tbl := List.mem_append_right _ (List.mem_append_right _ (List.mem_append_right _ (List.mem_append_left _ (List.mem_of_getElem? (i := 112) rfl))))
set_option maxRecDepth 100000 in
theorem cw_MMo_grown : codeW MMo_grown ∈ lw_tbl := List.mem_append_right _ (List.mem_append_right _ (List.mem_append_right _ (List.mem_append_left _ (List.mem_of_getElem? (i := 116) rfl))))
set_option maxRecDepth 100000 in
theorem cw_MMo_pushTurn : codeW MMo_pushTurn ∈ lw_tbl := List.mem_append_right _ (List.mem_append_right _ (List.mem_append_right _ (List.mem_append_left _ (List.mem_of_getElem? (i := 133) rfl))))
set_option maxRecDepth 100000 in
theorem cw_MMo_lose : codeW MMo_lose ∈ lw_tbl := List.mem_append_right _ (List.mem_append_right _ (List.mem_append_right _ (List.mem_append_left _ (List.mem_of_getElem? (i := 140) rfl))))
set_option maxRecDepth 100000 in
theorem cw_MMo_lossOf : codeW MMo_lossOf ∈ lw_tbl := List.mem_append_right _ (List.mem_append_right _ (List.mem_append_right _ (List.mem_append_left _ (List.mem_of_getElem? (i := 149) rfl))))
set_option maxRecDepth 100000 in
theorem cw_MMo_nearer : codeW MMo_nearer ∈ lw_tbl := List.mem_append_right _ (List.mem_append_right _ (List.mem_append_right _ (List.mem_append_left _ (List.mem_of_getElem? (i := 129) rfl))))
set_option maxRecDepth 100000 in
theorem cw_MMo_heldTurn : codeW MMo_heldTurn ∈ lw_tbl := List.mem_append_right _ (List.mem_append_right _ (List.mem_append_right _ (List.mem_append_left _ (List.mem_of_getElem? (i := 136) rfl))))
set_option maxRecDepth 100000 in
theorem cw_MMo_heldRattle : codeW MMo_heldRattle ∈ lw_tbl := List.mem_append_right _ (List.mem_append_right _ (List.mem_append_right _ (List.mem_append_left _ (List.mem_of_getElem? (i := 124) rfl))))
set_option maxRecDepth 100000 in
theorem cw_MSh_init : codeW MSh_init ∈ lw_tbl := List.mem_append_right _ (List.mem_append_right _ (List.mem_append_left _ (List.mem_of_getElem? (i := 61) rfl)))
set_option maxRecDepth 100000 in
theorem cw_MSh_hold : codeW MSh_hold ∈ lw_tbl := List.mem_append_right _ (List.mem_append_right _ (List.mem_append_right _ (List.mem_append_right _ (List.mem_append_left _ (List.mem_of_getElem? (i := 162) rfl)))))
set_option maxRecDepth 100000 in
theorem cw_MSh_holdRow : codeW MSh_holdRow ∈ lw_tbl := List.mem_append_right _ (List.mem_append_right _ (List.mem_append_right _ (List.mem_append_right _ (List.mem_append_left _ (List.mem_of_getElem? (i := 170) rfl)))))
set_option maxRecDepth 100000 in
theorem cw_MSh_isRow : codeW MSh_isRow ∈ lw_tbl := List.mem_append_right _ (List.mem_append_right _ (List.mem_append_right _ (List.mem_append_right _ (List.mem_append_left _ (List.mem_of_getElem? (i := 35) rfl)))))
set_option maxRecDepth 100000 in
theorem cw_MSh_isRowOf : codeW MSh_isRowOf ∈ lw_tbl := List.mem_append_right _ (List.mem_append_right _ (List.mem_append_right _ (List.mem_append_right _ (List.mem_append_left _ (List.mem_of_getElem? (i := 39) rfl)))))
set_option maxRecDepth 100000 in
theorem cw_MSh_isEmpty : codeW MSh_isEmpty ∈ lw_tbl := List.mem_append_right _ (List.mem_append_right _ (List.mem_append_right _ (List.mem_append_right _ (List.mem_append_left _ (List.mem_of_getElem? (i := 31) rfl)))))
set_option maxRecDepth 100000 in
theorem cw_MSh_hasPlaces : codeW MSh_hasPlaces ∈ lw_tbl := List.mem_append_right _ (List.mem_append_right _ (List.mem_append_right _ (List.mem_append_right _ (List.mem_append_left _ (List.mem_of_getElem? (i := 47) rfl)))))
set_option maxRecDepth 100000 in
theorem cw_MSh_refusal : codeW MSh_refusal ∈ lw_tbl := List.mem_append_right _ (List.mem_append_right _ (List.mem_append_right _ (List.mem_append_right _ (List.mem_append_left _ (List.mem_of_getElem? (i := 178) rfl)))))
set_option maxRecDepth 100000 in
theorem cw_MSh_read : codeW MSh_read ∈ lw_tbl := List.mem_append_right _ (List.mem_append_right _ (List.mem_append_right _ (List.mem_append_right _ (List.mem_append_left _ (List.mem_of_getElem? (i := 51) rfl)))))
set_option maxRecDepth 100000 in
theorem cw_MSh_write : codeW MSh_write ∈ lw_tbl := List.mem_append_right _ (List.mem_append_right _ (List.mem_append_right _ (List.mem_append_right _ (List.mem_append_left _ (List.mem_of_getElem? (i := 184) rfl)))))
set_option maxRecDepth 100000 in
theorem cw_MSh_cutDown : codeW MSh_cutDown ∈ lw_tbl := List.mem_append_right _ (List.mem_append_right _ (List.mem_append_right _ (List.mem_append_right _ (List.mem_append_left _ (List.mem_of_getElem? (i := 188) rfl)))))
set_option maxRecDepth 100000 in
theorem cw_MSt_init : codeW MSt_init ∈ lw_tbl := List.mem_append_right _ (List.mem_append_left _ (List.mem_of_getElem? (i := 222) rfl))
set_option maxRecDepth 100000 in
theorem cw_MSt_readFrom : codeW MSt_readFrom ∈ lw_tbl := List.mem_append_right _ (List.mem_append_right _ (List.mem_append_left _ (List.mem_of_getElem? (i := 136) rfl)))
set_option maxRecDepth 100000 in
theorem cw_MSt_readLump : codeW MSt_readLump ∈ lw_tbl := List.mem_append_right _ (List.mem_append_right _ (List.mem_append_left _ (List.mem_of_getElem? (i := 140) rfl)))
set_option maxRecDepth 100000 in
theorem cw_MSt_readSigned : codeW MSt_readSigned ∈ lw_tbl := List.mem_append_right _ (List.mem_append_right _ (List.mem_append_left _ (List.mem_of_getElem? (i := 151) rfl)))
set_option maxRecDepth 100000 in
theorem cw_MSt_readRate : codeW MSt_readRate ∈ lw_tbl := List.mem_append_right _ (List.mem_append_right _ (List.mem_append_left _ (List.mem_of_getElem? (i := 159) rfl)))
set_option maxRecDepth 100000 in
theorem cw_MSt_mostRate : codeW MSt_mostRate ∈ lw_tbl := List.mem_append_right _ (List.mem_append_right _ (List.mem_append_left _ (List.mem_of_getElem? (i := 167) rfl)))
set_option maxRecDepth 100000 in
theorem cw_MSt_weigh : codeW MSt_weigh ∈ lw_tbl := List.mem_append_right _ (List.mem_append_right _ (List.mem_append_left _ (List.mem_of_getElem? (i := 171) rfl)))
set_option maxRecDepth 100000 in
theorem cw_MSt_keen : codeW MSt_keen ∈ lw_tbl := List.mem_append_right _ (List.mem_append_right _ (List.mem_append_left _ (List.mem_of_getElem? (i := 196) rfl)))
set_option maxRecDepth 100000 in
theorem cw_MSt_keenWith : codeW MSt_keenWith ∈ lw_tbl := List.mem_append_right _ (List.mem_append_right _ (List.mem_append_left _ (List.mem_of_getElem? (i := 200) rfl)))
set_option maxRecDepth 100000 in
theorem cw_MSt_screwPlace : codeW MSt_screwPlace ∈ lw_tbl := List.mem_append_right _ (List.mem_append_right _ (List.mem_append_right _ (List.mem_append_left _ (List.mem_of_getElem? (i := 226) rfl))))
set_option maxRecDepth 100000 in
theorem cw_MSt_rate : codeW MSt_rate ∈ lw_tbl := List.mem_append_right _ (List.mem_append_right _ (List.mem_append_left _ (List.mem_of_getElem? (i := 213) rfl)))
set_option maxRecDepth 100000 in
theorem cw_MSt_measure : codeW MSt_measure ∈ lw_tbl := List.mem_append_right _ (List.mem_append_right _ (List.mem_append_left _ (List.mem_of_getElem? (i := 192) rfl)))
set_option maxRecDepth 100000 in
theorem cw_MSt_lumpPart : codeW MSt_lumpPart ∈ lw_tbl := List.mem_append_right _ (List.mem_append_right _ (List.mem_append_left _ (List.mem_of_getElem? (i := 221) rfl)))
set_option maxRecDepth 100000 in
theorem cw_MSt_isRate : codeW MSt_isRate ∈ lw_tbl := List.mem_append_right _ (List.mem_append_right _ (List.mem_append_left _ (List.mem_of_getElem? (i := 233) rfl)))
set_option maxRecDepth 100000 in
theorem cw_MSt_mayBecome : codeW MSt_mayBecome ∈ lw_tbl := List.mem_append_right _ (List.mem_append_right _ (List.mem_append_left _ (List.mem_of_getElem? (i := 230) rfl)))
set_option maxRecDepth 100000 in
theorem cw_MSt_change : codeW MSt_change ∈ lw_tbl := List.mem_append_right _ (List.mem_append_right _ (List.mem_append_left _ (List.mem_of_getElem? (i := 237) rfl)))
set_option maxRecDepth 100000 in
theorem cw_MTa_init : codeW MTa_init ∈ lw_tbl := List.mem_append_right _ (List.mem_append_left _ (List.mem_of_getElem? (i := 27) rfl))
set_option maxRecDepth 100000 in
theorem cw_MTa_append : codeW MTa_append ∈ lw_tbl := List.mem_append_right _ (List.mem_append_right _ (List.mem_append_left _ (List.mem_of_getElem? (i := 124) rfl)))
set_option maxRecDepth 100000 in
theorem cw_MTa_clear : codeW MTa_clear ∈ lw_tbl := List.mem_append_right _ (List.mem_append_right _ (List.mem_append_left _ (List.mem_of_getElem? (i := 179) rfl)))
set_option maxRecDepth 100000 in
theorem cw_MTa_rewind : codeW MTa_rewind ∈ lw_tbl := List.mem_append_right _ (List.mem_append_right _ (List.mem_append_left _ (List.mem_of_getElem? (i := 132) rfl)))
set_option maxRecDepth 100000 in
theorem cw_MTa_isAtEnd : codeW MTa_isAtEnd ∈ lw_tbl := List.mem_append_right _ (List.mem_append_right _ (List.mem_append_left _ (List.mem_of_getElem? (i := 175) rfl)))
set_option maxRecDepth 100000 in
theorem cw_MTa_here : codeW MTa_here ∈ lw_tbl := List.mem_append_right _ (List.mem_append_right _ (List.mem_append_left _ (List.mem_of_getElem? (i := 148) rfl)))
set_option maxRecDepth 100000 in
theorem cw_MTa_skip : codeW MTa_skip ∈ lw_tbl := List.mem_append_right _ (List.mem_append_right _ (List.mem_append_left _ (List.mem_of_getElem? (i := 155) rfl)))
set_option maxRecDepth 100000 in
theorem cw_MTa_digit : codeW MTa_digit ∈ lw_tbl := List.mem_append_right _ (List.mem_append_right _ (List.mem_append_left _ (List.mem_of_getElem? (i := 144) rfl)))
set_option maxRecDepth 100000 in
theorem cw_MTa_number : codeW MTa_number ∈ lw_tbl := List.mem_append_right _ (List.mem_append_right _ (List.mem_append_left _ (List.mem_of_getElem? (i := 163) rfl)))
set_option maxRecDepth 100000 in
theorem cw_MTo_init : codeW MTo_init ∈ lw_tbl := List.mem_append_right _ (List.mem_append_left _ (List.mem_of_getElem? (i := 19) rfl))
set_option maxRecDepth 100000 in
theorem cw_MTo_feed : codeW MTo_feed ∈ lw_tbl := List.mem_append_right _ (List.mem_append_right _ (List.mem_append_left _ (List.mem_of_getElem? (i := 117) rfl)))
set_option maxRecDepth 100000 in
theorem cw_MTo_stone : codeW MTo_stone ∈ lw_tbl := List.mem_append_right _ (List.mem_append_right _ (List.mem_append_left _ (List.mem_of_getElem? (i := 128) rfl)))
set_option maxRecDepth 100000 in
theorem cw_MTo_of : codeW MTo_of ∈ lw_tbl := List.mem_append_right _ (List.mem_append_right _ (List.mem_append_left _ (List.mem_of_getElem? (i := 183) rfl)))
set_option maxRecDepth 100000 in
theorem cw_MTo_lump : codeW MTo_lump ∈ lw_tbl := List.mem_append_right _ (List.mem_append_right _ (List.mem_append_left _ (List.mem_of_getElem? (i := 217) rfl)))
set_option maxRecDepth 100000 in
theorem cw_MTo_set : codeW MTo_set ∈ lw_tbl := List.mem_append_right _ (List.mem_append_right _ (List.mem_append_left _ (List.mem_of_getElem? (i := 226) rfl)))
set_option maxRecDepth 100000 in
theorem cw_MTo_floor : codeW MTo_floor ∈ lw_tbl := List.mem_append_right _ (List.mem_append_right _ (List.mem_append_right _ (List.mem_append_left _ (List.mem_of_getElem? (i := 12) rfl))))
set_option maxRecDepth 100000 in
theorem cw_MTo_grows : codeW MTo_grows ∈ lw_tbl := List.mem_append_right _ (List.mem_append_right _ (List.mem_append_right _ (List.mem_append_left _ (List.mem_of_getElem? (i := 51) rfl))))
set_option maxRecDepth 100000 in
theorem cw_MTo_roll : codeW MTo_roll ∈ lw_tbl := List.mem_append_right _ (List.mem_append_right _ (List.mem_append_right _ (List.mem_append_left _ (List.mem_of_getElem? (i := 56) rfl))))
set_option maxRecDepth 100000 in
theorem cw_MTo_going : codeW MTo_going ∈ lw_tbl := List.mem_append_right _ (List.mem_append_right _ (List.mem_append_right _ (List.mem_append_left _ (List.mem_of_getElem? (i := 167) rfl))))
set_option maxRecDepth 100000 in
theorem cw_MTo_back : codeW MTo_back ∈ lw_tbl := List.mem_append_right _ (List.mem_append_right _ (List.mem_append_right _ (List.mem_append_left _ (List.mem_of_getElem? (i := 180) rfl))))
set_option maxRecDepth 100000 in
theorem cw_MTo_told : codeW MTo_told ∈ lw_tbl := List.mem_append_right _ (List.mem_append_right _ (List.mem_append_right _ (List.mem_append_left _ (List.mem_of_getElem? (i := 189) rfl))))
set_option maxRecDepth 100000 in
theorem cw_MTo_even : codeW MTo_even ∈ lw_tbl := List.mem_append_right _ (List.mem_append_right _ (List.mem_append_right _ (List.mem_append_left _ (List.mem_of_getElem? (i := 201) rfl))))
set_option maxRecDepth 100000 in
theorem cw_MTo_soonest : codeW MTo_soonest ∈ lw_tbl := List.mem_append_right _ (List.mem_append_right _ (List.mem_append_right _ (List.mem_append_left _ (List.mem_of_getElem? (i := 210) rfl))))
set_option maxRecDepth 100000 in
theorem cw_MTo_screws : codeW MTo_screws ∈ lw_tbl := List.mem_append_right _ (List.mem_append_right _ (List.mem_append_right _ (List.mem_append_left _ (List.mem_of_getElem? (i := 219) rfl))))
set_option maxRecDepth 100000 in
theorem cw_MTo_lightest : codeW MTo_lightest ∈ lw_tbl := List.mem_append_right _ (List.mem_append_right _ (List.mem_append_right _ (List.mem_append_left _ (List.mem_of_getElem? (i := 230) rfl))))
set_option maxRecDepth 100000 in
theorem cw_MTo_seen : codeW MTo_seen ∈ lw_tbl := List.mem_append_right _ (List.mem_append_right _ (List.mem_append_right _ (List.mem_append_left _ (List.mem_of_getElem? (i := 234) rfl))))
set_option maxRecDepth 100000 in
theorem cw_MTo_pressed : codeW MTo_pressed ∈ lw_tbl := List.mem_append_right _ (List.mem_append_right _ (List.mem_append_right _ (List.mem_append_left _ (List.mem_of_getElem? (i := 238) rfl))))
set_option maxRecDepth 100000 in
theorem cw_MTo_hands : codeW MTo_hands ∈ lw_tbl := List.mem_append_right _ (List.mem_append_right _ (List.mem_append_right _ (List.mem_append_right _ (List.mem_append_left _ (List.mem_of_getElem? (i := 2) rfl)))))
set_option maxRecDepth 100000 in
theorem cw_MTo_frame : codeW MTo_frame ∈ lw_tbl := List.mem_append_right _ (List.mem_append_right _ (List.mem_append_right _ (List.mem_append_right _ (List.mem_append_left _ (List.mem_of_getElem? (i := 10) rfl)))))
set_option maxRecDepth 100000 in
theorem cw_MTo_frames : codeW MTo_frames ∈ lw_tbl := List.mem_append_right _ (List.mem_append_right _ (List.mem_append_right _ (List.mem_append_right _ (List.mem_append_left _ (List.mem_of_getElem? (i := 23) rfl)))))
set_option maxRecDepth 100000 in
theorem cw_MTo_cut : codeW MTo_cut ∈ lw_tbl := List.mem_append_right _ (List.mem_append_right _ (List.mem_append_right _ (List.mem_append_right _ (List.mem_append_left _ (List.mem_of_getElem? (i := 57) rfl)))))
set_option maxRecDepth 100000 in
theorem cw_MTo_off : codeW MTo_off ∈ lw_tbl := List.mem_append_right _ (List.mem_append_right _ (List.mem_append_right _ (List.mem_append_right _ (List.mem_append_left _ (List.mem_of_getElem? (i := 61) rfl)))))
set_option maxRecDepth 100000 in
theorem cw_MTo_shape : codeW MTo_shape ∈ lw_tbl := List.mem_append_right _ (List.mem_append_right _ (List.mem_append_right _ (List.mem_append_right _ (List.mem_append_left _ (List.mem_of_getElem? (i := 78) rfl)))))
set_option maxRecDepth 100000 in
theorem cw_MTo_span : codeW MTo_span ∈ lw_tbl := List.mem_append_right _ (List.mem_append_right _ (List.mem_append_right _ (List.mem_append_right _ (List.mem_append_left _ (List.mem_of_getElem? (i := 82) rfl)))))
set_option maxRecDepth 100000 in
theorem cw_MTo_which : codeW MTo_which ∈ lw_tbl := List.mem_append_right _ (List.mem_append_right _ (List.mem_append_right _ (List.mem_append_right _ (List.mem_append_left _ (List.mem_of_getElem? (i := 86) rfl)))))
set_option maxRecDepth 100000 in
theorem cw_MTo_chance : codeW MTo_chance ∈ lw_tbl := List.mem_append_right _ (List.mem_append_right _ (List.mem_append_right _ (List.mem_append_right _ (List.mem_append_left _ (List.mem_of_getElem? (i := 90) rfl)))))
set_option maxRecDepth 100000 in
theorem cw_MTo_undo : codeW MTo_undo ∈ lw_tbl := List.mem_append_right _ (List.mem_append_right _ (List.mem_append_right _ (List.mem_append_right _ (List.mem_append_left _ (List.mem_of_getElem? (i := 96) rfl)))))
set_option maxRecDepth 100000 in
theorem cw_MTo_redo : codeW MTo_redo ∈ lw_tbl := List.mem_append_right _ (List.mem_append_right _ (List.mem_append_right _ (List.mem_append_right _ (List.mem_append_left _ (List.mem_of_getElem? (i := 108) rfl)))))
set_option maxRecDepth 100000 in
theorem cw_MTo_body : codeW MTo_body ∈ lw_tbl := List.mem_append_right _ (List.mem_append_right _ (List.mem_append_right _ (List.mem_append_right _ (List.mem_append_left _ (List.mem_of_getElem? (i := 112) rfl)))))
set_option maxRecDepth 100000 in
theorem cw_MTo_act : codeW MTo_act ∈ lw_tbl := List.mem_append_right _ (List.mem_append_right _ (List.mem_append_right _ (List.mem_append_right _ (List.mem_append_left _ (List.mem_of_getElem? (i := 120) rfl)))))
set_option maxRecDepth 100000 in
theorem cw_MTo_trace : codeW MTo_trace ∈ lw_tbl := List.mem_append_right _ (List.mem_append_right _ (List.mem_append_right _ (List.mem_append_right _ (List.mem_append_left _ (List.mem_of_getElem? (i := 150) rfl)))))
set_option maxRecDepth 100000 in
theorem cw_MTo_keep : codeW MTo_keep ∈ lw_tbl := List.mem_append_right _ (List.mem_append_right _ (List.mem_append_right _ (List.mem_append_right _ (List.mem_append_left _ (List.mem_of_getElem? (i := 158) rfl)))))
set_option maxRecDepth 100000 in
theorem cw_MTo_row : codeW MTo_row ∈ lw_tbl := List.mem_append_right _ (List.mem_append_right _ (List.mem_append_right _ (List.mem_append_right _ (List.mem_append_left _ (List.mem_of_getElem? (i := 166) rfl)))))
set_option maxRecDepth 100000 in
theorem cw_MTo_put : codeW MTo_put ∈ lw_tbl := List.mem_append_right _ (List.mem_append_right _ (List.mem_append_right _ (List.mem_append_right _ (List.mem_append_left _ (List.mem_of_getElem? (i := 174) rfl)))))
set_option maxRecDepth 100000 in
theorem cw_MTo_element : codeW MTo_element ∈ lw_tbl := List.mem_append_right _ (List.mem_append_right _ (List.mem_append_right _ (List.mem_append_right _ (List.mem_append_left _ (List.mem_of_getElem? (i := 192) rfl)))))
set_option maxRecDepth 100000 in
theorem cw_MTo_shift : codeW MTo_shift ∈ lw_tbl := List.mem_append_right _ (List.mem_append_right _ (List.mem_append_right _ (List.mem_append_right _ (List.mem_append_left _ (List.mem_of_getElem? (i := 198) rfl)))))
set_option maxRecDepth 100000 in
theorem cw_MTo_taken : codeW MTo_taken ∈ lw_tbl := List.mem_append_right _ (List.mem_append_right _ (List.mem_append_right _ (List.mem_append_right _ (List.mem_append_left _ (List.mem_of_getElem? (i := 205) rfl)))))
set_option maxRecDepth 100000 in
theorem cw_MTo_count : codeW MTo_count ∈ lw_tbl := List.mem_append_right _ (List.mem_append_right _ (List.mem_append_right _ (List.mem_append_right _ (List.mem_append_left _ (List.mem_of_getElem? (i := 213) rfl)))))
set_option maxRecDepth 100000 in
theorem cw_MTo_isWithin : codeW MTo_isWithin ∈ lw_tbl := List.mem_append_right _ (List.mem_append_right _ (List.mem_append_left _ (List.mem_of_getElem? (i := 120) rfl)))
set_option maxRecDepth 100000 in
theorem cw_MTo_isKeen : codeW MTo_isKeen ∈ lw_tbl := List.mem_append_right _ (List.mem_append_right _ (List.mem_append_right _ (List.mem_append_left _ (List.mem_of_getElem? (i := 222) rfl))))
set_option maxRecDepth 100000 in
theorem cw_MTo_isStart : codeW MTo_isStart ∈ lw_tbl := List.mem_append_right _ (List.mem_append_right _ (List.mem_append_right _ (List.mem_append_left _ (List.mem_of_getElem? (i := 71) rfl))))
set_option maxRecDepth 100000 in
theorem cw_MTo_drawn : codeW MTo_drawn ∈ lw_tbl := List.mem_append_right _ (List.mem_append_right _ (List.mem_append_right _ (List.mem_append_right _ (List.mem_append_left _ (List.mem_of_getElem? (i := 5) rfl)))))
set_option maxRecDepth 100000 in
theorem cw_MTo_stoneAt : codeW MTo_stoneAt ∈ lw_tbl := List.mem_append_right _ (List.mem_append_right _ (List.mem_append_left _ (List.mem_of_getElem? (i := 187) rfl)))
set_option maxRecDepth 100000 in
theorem cw_MTo_floorAt : codeW MTo_floorAt ∈ lw_tbl := List.mem_append_right _ (List.mem_append_right _ (List.mem_append_right _ (List.mem_append_left _ (List.mem_of_getElem? (i := 68) rfl))))
set_option maxRecDepth 100000 in
theorem cw_MTo_shelfAt : codeW MTo_shelfAt ∈ lw_tbl := List.mem_append_right _ (List.mem_append_right _ (List.mem_append_right _ (List.mem_append_right _ (List.mem_append_left _ (List.mem_of_getElem? (i := 27) rfl)))))
set_option maxRecDepth 100000 in
theorem cw_MTo_isFloorOrNone : codeW MTo_isFloorOrNone ∈ lw_tbl := List.mem_append_right _ (List.mem_append_right _ (List.mem_append_right _ (List.mem_append_left _ (List.mem_of_getElem? (i := 64) rfl))))
set_option maxRecDepth 100000 in
theorem cw_MTo_isGround : codeW MTo_isGround ∈ lw_tbl := List.mem_append_right _ (List.mem_append_right _ (List.mem_append_right _ (List.mem_append_left _ (List.mem_of_getElem? (i := 60) rfl))))
set_option maxRecDepth 100000 in
theorem cw_MTo_lay : codeW MTo_lay ∈ lw_tbl := List.mem_append_right _ (List.mem_append_right _ (List.mem_append_right _ (List.mem_append_left _ (List.mem_of_getElem? (i := 80) rfl))))
set_option maxRecDepth 100000 in
theorem cw_MTo_layOwn : codeW MTo_layOwn ∈ lw_tbl := List.mem_append_right _ (List.mem_append_right _ (List.mem_append_right _ (List.mem_append_left _ (List.mem_of_getElem? (i := 76) rfl))))
set_option maxRecDepth 100000 in
theorem cw_MTo_start : codeW MTo_start ∈ lw_tbl := List.mem_append_right _ (List.mem_append_right _ (List.mem_append_right _ (List.mem_append_left _ (List.mem_of_getElem? (i := 89) rfl))))
set_option maxRecDepth 100000 in
theorem cw_MTo_firstBack : codeW MTo_firstBack ∈ lw_tbl := List.mem_append_right _ (List.mem_append_right _ (List.mem_append_right _ (List.mem_append_left _ (List.mem_of_getElem? (i := 214) rfl))))
set_option maxRecDepth 100000 in
theorem cw_MTo_offBy : codeW MTo_offBy ∈ lw_tbl := List.mem_append_right _ (List.mem_append_right _ (List.mem_append_right _ (List.mem_append_right _ (List.mem_append_left _ (List.mem_of_getElem? (i := 65) rfl)))))
set_option maxRecDepth 100000 in
theorem cw_MTo_changeTo : codeW MTo_changeTo ∈ lw_tbl := List.mem_append_right _ (List.mem_append_right _ (List.mem_append_right _ (List.mem_append_right _ (List.mem_append_left _ (List.mem_of_getElem? (i := 100) rfl)))))
set_option maxRecDepth 100000 in
theorem cw_MRm_init : codeW MRm_init ∈ lw_tbl := List.mem_append_right _ (List.mem_append_right _ (List.mem_append_right _ (List.mem_append_right _ (List.mem_append_left _ (List.mem_of_getElem? (i := 218) rfl)))))
set_option maxRecDepth 100000 in
theorem cw_MRm_in : codeW MRm_in ∈ lw_tbl := List.mem_append_right _ (List.mem_append_right _ (List.mem_append_right _ (List.mem_append_right _ (List.mem_append_right _ (List.mem_append_left _ (List.mem_of_getElem? (i := 164) rfl))))))
set_option maxRecDepth 100000 in
theorem cw_MRm_sizeOf : codeW MRm_sizeOf ∈ lw_tbl := List.mem_append_right _ (List.mem_append_right _ (List.mem_append_right _ (List.mem_append_right _ (List.mem_append_right _ (List.mem_append_left _ (List.mem_of_getElem? (i := 224) rfl))))))
set_option maxRecDepth 100000 in
theorem cw_MRm_held : codeW MRm_held ∈ lw_tbl := List.mem_append_right _ (List.mem_append_right _ (List.mem_append_right _ (List.mem_append_right _ (List.mem_append_right _ (List.mem_append_left _ (List.mem_of_getElem? (i := 227) rfl))))))
set_option maxRecDepth 100000 in
theorem cw_MRm_feed : codeW MRm_feed ∈ lw_tbl := List.mem_append_right _ (List.mem_append_right _ (List.mem_append_right _ (List.mem_append_right _ (List.mem_append_right _ (List.mem_append_left _ (List.mem_of_getElem? (i := 161) rfl))))))
set_option maxRecDepth 100000 in
theorem cw_MRm_isStone : codeW MRm_isStone ∈ lw_tbl := List.mem_append_right _ (List.mem_append_right _ (List.mem_append_right _ (List.mem_append_right _ (List.mem_append_right _ (List.mem_append_left _ (List.mem_of_getElem? (i := 200) rfl))))))
set_option maxRecDepth 100000 in
theorem cw_MRm_isHere : codeW MRm_isHere ∈ lw_tbl := List.mem_append_right _ (List.mem_append_right _ (List.mem_append_right _ (List.mem_append_right _ (List.mem_append_right _ (List.mem_append_left _ (List.mem_of_getElem? (i := 184) rfl))))))
set_option maxRecDepth 100000 in
theorem cw_MRm_takes : codeW MRm_takes ∈ lw_tbl := List.mem_append_right _ (List.mem_append_right _ (List.mem_append_right _ (List.mem_append_right _ (List.mem_append_right _ (List.mem_append_left _ (List.mem_of_getElem? (i := 188) rfl))))))
set_option maxRecDepth 100000 in
theorem cw_MRm_digit : codeW MRm_digit ∈ lw_tbl := List.mem_append_right _ (List.mem_append_right _ (List.mem_append_right _ (List.mem_append_right _ (List.mem_append_right _ (List.mem_append_left _ (List.mem_of_getElem? (i := 176) rfl))))))
set_option maxRecDepth 100000 in
theorem cw_MRm_signed : codeW MRm_signed ∈ lw_tbl := List.mem_append_right _ (List.mem_append_right _ (List.mem_append_right _ (List.mem_append_right _ (List.mem_append_right _ (List.mem_append_left _ (List.mem_of_getElem? (i := 180) rfl))))))
set_option maxRecDepth 100000 in
theorem cw_MRm_readNumber : codeW MRm_readNumber ∈ lw_tbl := List.mem_append_right _ (List.mem_append_right _ (List.mem_append_right _ (List.mem_append_right _ (List.mem_append_right _ (List.mem_append_left _ (List.mem_of_getElem? (i := 192) rfl))))))
set_option maxRecDepth 100000 in
theorem cw_MRm_readLump : codeW MRm_readLump ∈ lw_tbl := List.mem_append_right _ (List.mem_append_right _ (List.mem_append_right _ (List.mem_append_right _ (List.mem_append_right _ (List.mem_append_left _ (List.mem_of_getElem? (i := 172) rfl))))))
set_option maxRecDepth 100000 in
theorem cw_MRm_stone : codeW MRm_stone ∈ lw_tbl := List.mem_append_right _ (List.mem_append_right _ (List.mem_append_right _ (List.mem_append_right _ (List.mem_append_right _ (List.mem_append_left _ (List.mem_of_getElem? (i := 168) rfl))))))
set_option maxRecDepth 100000 in
theorem cw_MRm_sumOf : codeW MRm_sumOf ∈ lw_tbl := List.mem_append_right _ (List.mem_append_right _ (List.mem_append_right _ (List.mem_append_right _ (List.mem_append_right _ (List.mem_append_left _ (List.mem_of_getElem? (i := 205) rfl))))))
set_option maxRecDepth 100000 in
theorem cw_MRm_wideX : codeW MRm_wideX ∈ lw_tbl := List.mem_append_right _ (List.mem_append_right _ (List.mem_append_right _ (List.mem_append_right _ (List.mem_append_right _ (List.mem_append_left _ (List.mem_of_getElem? (i := 209) rfl))))))
set_option maxRecDepth 100000 in
theorem cw_MRm_wideY : codeW MRm_wideY ∈ lw_tbl := List.mem_append_right _ (List.mem_append_right _ (List.mem_append_right _ (List.mem_append_right _ (List.mem_append_right _ (List.mem_append_left _ (List.mem_of_getElem? (i := 213) rfl))))))
set_option maxRecDepth 100000 in
theorem cw_MRm_slant : codeW MRm_slant ∈ lw_tbl := List.mem_append_right _ (List.mem_append_right _ (List.mem_append_right _ (List.mem_append_right _ (List.mem_append_right _ (List.mem_append_left _ (List.mem_of_getElem? (i := 217) rfl))))))
set_option maxRecDepth 100000 in
theorem cw_MRm_keenOf : codeW MRm_keenOf ∈ lw_tbl := List.mem_append_right _ (List.mem_append_right _ (List.mem_append_right _ (List.mem_append_right _ (List.mem_append_right _ (List.mem_append_left _ (List.mem_of_getElem? (i := 221) rfl))))))
set_option maxRecDepth 100000 in
theorem cw_MRm_of : codeW MRm_of ∈ lw_tbl := List.mem_append_right _ (List.mem_append_right _ (List.mem_append_right _ (List.mem_append_right _ (List.mem_append_right _ (List.mem_append_left _ (List.mem_of_getElem? (i := 196) rfl))))))
set_option maxRecDepth 100000 in
theorem cw_MRm_lump : codeW MRm_lump ∈ lw_tbl := List.mem_append_right _ (List.mem_append_right _ (List.mem_append_right _ (List.mem_append_right _ (List.mem_append_right _ (List.mem_append_left _ (List.mem_of_getElem? (i := 231) rfl))))))
set_option maxRecDepth 100000 in
theorem cw_MRm_valueAt : codeW MRm_valueAt ∈ lw_tbl := List.mem_append_right _ (List.mem_append_right _ (List.mem_append_right _ (List.mem_append_right _ (List.mem_append_right _ (List.mem_append_right _ (List.mem_append_left _ (List.mem_of_getElem? (i := 15) rfl)))))))
set_option maxRecDepth 100000 in
theorem cw_MRm_place : codeW MRm_place ∈ lw_tbl := List.mem_append_right _ (List.mem_append_right _ (List.mem_append_right _ (List.mem_append_right _ (List.mem_append_right _ (List.mem_append_left _ (List.mem_of_getElem? (i := 239) rfl))))))
set_option maxRecDepth 100000 in
theorem cw_MRm_changes : codeW MRm_changes ∈ lw_tbl := List.mem_append_right _ (List.mem_append_right _ (List.mem_append_right _ (List.mem_append_right _ (List.mem_append_right _ (List.mem_append_right _ (List.mem_append_left _ (List.mem_of_getElem? (i := 11) rfl)))))))
set_option maxRecDepth 100000 in
theorem cw_MRm_undo : codeW MRm_undo ∈ lw_tbl := List.mem_append_right _ (List.mem_append_right _ (List.mem_append_right _ (List.mem_append_right _ (List.mem_append_right _ (List.mem_append_left _ (List.mem_of_getElem? (i := 235) rfl))))))
set_option maxRecDepth 100000 in
theorem cw_MRm_redo : codeW MRm_redo ∈ lw_tbl := List.mem_append_right _ (List.mem_append_right _ (List.mem_append_right _ (List.mem_append_right _ (List.mem_append_right _ (List.mem_append_right _ (List.mem_append_left _ (List.mem_of_getElem? (i := 3) rfl)))))))
set_option maxRecDepth 100000 in
theorem cw_MRm_set : codeW MRm_set ∈ lw_tbl := List.mem_append_right _ (List.mem_append_right _ (List.mem_append_right _ (List.mem_append_right _ (List.mem_append_right _ (List.mem_append_right _ (List.mem_append_left _ (List.mem_of_getElem? (i := 7) rfl)))))))
set_option maxRecDepth 100000 in
theorem cw_MRm_look : codeW MRm_look ∈ lw_tbl := List.mem_append_right _ (List.mem_append_right _ (List.mem_append_right _ (List.mem_append_right _ (List.mem_append_right _ (List.mem_append_right _ (List.mem_append_left _ (List.mem_of_getElem? (i := 55) rfl)))))))
set_option maxRecDepth 100000 in
theorem cw_MRm_wrong : codeW MRm_wrong ∈ lw_tbl := List.mem_append_right _ (List.mem_append_right _ (List.mem_append_right _ (List.mem_append_right _ (List.mem_append_right _ (List.mem_append_right _ (List.mem_append_left _ (List.mem_of_getElem? (i := 70) rfl)))))))
set_option maxRecDepth 100000 in
theorem cw_MRm_addStep : codeW MRm_addStep ∈ lw_tbl := List.mem_append_right _ (List.mem_append_right _ (List.mem_append_right _ (List.mem_append_right _ (List.mem_append_right _ (List.mem_append_right _ (List.mem_append_left _ (List.mem_of_getElem? (i := 62) rfl)))))))
set_option maxRecDepth 100000 in
theorem cw_MRm_nameOf : codeW MRm_nameOf ∈ lw_tbl := List.mem_append_right _ (List.mem_append_right _ (List.mem_append_right _ (List.mem_append_right _ (List.mem_append_right _ (List.mem_append_right _ (List.mem_append_left _ (List.mem_of_getElem? (i := 58) rfl)))))))
set_option maxRecDepth 100000 in
theorem cw_MRm_opens : codeW MRm_opens ∈ lw_tbl := List.mem_append_right _ (List.mem_append_right _ (List.mem_append_right _ (List.mem_append_right _ (List.mem_append_right _ (List.mem_append_right _ (List.mem_append_left _ (List.mem_of_getElem? (i := 66) rfl)))))))
set_option maxRecDepth 100000 in
theorem cw_MRm_figure : codeW MRm_figure ∈ lw_tbl := List.mem_append_right _ (List.mem_append_right _ (List.mem_append_right _ (List.mem_append_right _ (List.mem_append_right _ (List.mem_append_right _ (List.mem_append_left _ (List.mem_of_getElem? (i := 74) rfl)))))))
set_option maxRecDepth 100000 in
theorem cw_MRm_operand : codeW MRm_operand ∈ lw_tbl := List.mem_append_right _ (List.mem_append_right _ (List.mem_append_right _ (List.mem_append_right _ (List.mem_append_right _ (List.mem_append_right _ (List.mem_append_left _ (List.mem_of_getElem? (i := 51) rfl)))))))
set_option maxRecDepth 100000 in
theorem cw_MRm_product : codeW MRm_product ∈ lw_tbl := List.mem_append_right _ (List.mem_append_right _ (List.mem_append_right _ (List.mem_append_right _ (List.mem_append_right _ (List.mem_append_right _ (List.mem_append_left _ (List.mem_of_getElem? (i := 47) rfl)))))))
set_option maxRecDepth 100000 in
theorem cw_MRm_sum : codeW MRm_sum ∈ lw_tbl := List.mem_append_right _ (List.mem_append_right _ (List.mem_append_right _ (List.mem_append_right _ (List.mem_append_right _ (List.mem_append_right _ (List.mem_append_left _ (List.mem_of_getElem? (i := 43) rfl)))))))
set_option maxRecDepth 100000 in
theorem cw_MRm_compared : codeW MRm_compared ∈ lw_tbl := List.mem_append_right _ (List.mem_append_right _ (List.mem_append_right _ (List.mem_append_right _ (List.mem_append_right _ (List.mem_append_right _ (List.mem_append_left _ (List.mem_of_getElem? (i := 39) rfl)))))))
set_option maxRecDepth 100000 in
theorem cw_MRm_both : codeW MRm_both ∈ lw_tbl := List.mem_append_right _ (List.mem_append_right _ (List.mem_append_right _ (List.mem_append_right _ (List.mem_append_right _ (List.mem_append_right _ (List.mem_append_left _ (List.mem_of_getElem? (i := 35) rfl)))))))
set_option maxRecDepth 100000 in
theorem cw_MRm_either : codeW MRm_either ∈ lw_tbl := List.mem_append_right _ (List.mem_append_right _ (List.mem_append_right _ (List.mem_append_right _ (List.mem_append_right _ (List.mem_append_right _ (List.mem_append_left _ (List.mem_of_getElem? (i := 31) rfl)))))))
set_option maxRecDepth 100000 in
theorem cw_MRm_line : codeW MRm_line ∈ lw_tbl := List.mem_append_right _ (List.mem_append_right _ (List.mem_append_right _ (List.mem_append_right _ (List.mem_append_right _ (List.mem_append_right _ (List.mem_append_left _ (List.mem_of_getElem? (i := 27) rfl)))))))
set_option maxRecDepth 100000 in
theorem cw_MRm_readText : codeW MRm_readText ∈ lw_tbl := List.mem_append_right _ (List.mem_append_right _ (List.mem_append_right _ (List.mem_append_right _ (List.mem_append_right _ (List.mem_append_right _ (List.mem_append_left _ (List.mem_of_getElem? (i := 23) rfl)))))))
set_option maxRecDepth 100000 in
theorem cw_MRm_twoOf : codeW MRm_twoOf ∈ lw_tbl := List.mem_append_right _ (List.mem_append_right _ (List.mem_append_right _ (List.mem_append_right _ (List.mem_append_right _ (List.mem_append_right _ (List.mem_append_left _ (List.mem_of_getElem? (i := 122) rfl)))))))
set_option maxRecDepth 100000 in
theorem cw_MRm_worked : codeW MRm_worked ∈ lw_tbl := List.mem_append_right _ (List.mem_append_right _ (List.mem_append_right _ (List.mem_append_right _ (List.mem_append_right _ (List.mem_append_right _ (List.mem_append_left _ (List.mem_of_getElem? (i := 119) rfl)))))))
set_option maxRecDepth 100000 in
theorem cw_MRm_gives : codeW MRm_gives ∈ lw_tbl := List.mem_append_right _ (List.mem_append_right _ (List.mem_append_right _ (List.mem_append_right _ (List.mem_append_right _ (List.mem_append_right _ (List.mem_append_left _ (List.mem_of_getElem? (i := 115) rfl)))))))
set_option maxRecDepth 100000 in
theorem cw_MRm_isFloor : codeW MRm_isFloor ∈ lw_tbl := List.mem_append_right _ (List.mem_append_right _ (List.mem_append_right _ (List.mem_append_right _ (List.mem_append_right _ (List.mem_append_right _ (List.mem_append_left _ (List.mem_of_getElem? (i := 90) rfl)))))))
set_option maxRecDepth 100000 in
theorem cw_MRm_floor : codeW MRm_floor ∈ lw_tbl := List.mem_append_right _ (List.mem_append_right _ (List.mem_append_right _ (List.mem_append_right _ (List.mem_append_right _ (List.mem_append_right _ (List.mem_append_left _ (List.mem_of_getElem? (i := 19) rfl)))))))
set_option maxRecDepth 100000 in
theorem cw_MRm_grows : codeW MRm_grows ∈ lw_tbl := List.mem_append_right _ (List.mem_append_right _ (List.mem_append_right _ (List.mem_append_right _ (List.mem_append_right _ (List.mem_append_right _ (List.mem_append_left _ (List.mem_of_getElem? (i := 78) rfl)))))))
set_option maxRecDepth 100000 in
theorem cw_MRm_isStart : codeW MRm_isStart ∈ lw_tbl := List.mem_append_right _ (List.mem_append_right _ (List.mem_append_right _ (List.mem_append_right _ (List.mem_append_right _ (List.mem_append_right _ (List.mem_append_left _ (List.mem_of_getElem? (i := 93) rfl)))))))
set_option maxRecDepth 100000 in
theorem cw_MRm_isGoing : codeW MRm_isGoing ∈ lw_tbl := List.mem_append_right _ (List.mem_append_right _ (List.mem_append_right _ (List.mem_append_right _ (List.mem_append_right _ (List.mem_append_right _ (List.mem_append_left _ (List.mem_of_getElem? (i := 86) rfl)))))))
set_option maxRecDepth 100000 in
theorem cw_MRm_begin : codeW MRm_begin ∈ lw_tbl := List.mem_append_right _ (List.mem_append_right _ (List.mem_append_right _ (List.mem_append_right _ (List.mem_append_right _ (List.mem_append_right _ (List.mem_append_left _ (List.mem_of_getElem? (i := 98) rfl)))))))
set_option maxRecDepth 100000 in
theorem cw_MRm_takenBy : codeW MRm_takenBy ∈ lw_tbl := List.mem_append_right _ (List.mem_append_right _ (List.mem_append_right _ (List.mem_append_right _ (List.mem_append_right _ (List.mem_append_right _ (List.mem_append_left _ (List.mem_of_getElem? (i := 111) rfl)))))))
set_option maxRecDepth 100000 in
theorem cw_MRm_go : codeW MRm_go ∈ lw_tbl := List.mem_append_right _ (List.mem_append_right _ (List.mem_append_right _ (List.mem_append_right _ (List.mem_append_right _ (List.mem_append_right _ (List.mem_append_left _ (List.mem_of_getElem? (i := 106) rfl)))))))
set_option maxRecDepth 100000 in
theorem cw_MRm_note : codeW MRm_note ∈ lw_tbl := List.mem_append_right _ (List.mem_append_right _ (List.mem_append_right _ (List.mem_append_right _ (List.mem_append_right _ (List.mem_append_right _ (List.mem_append_left _ (List.mem_of_getElem? (i := 102) rfl)))))))
set_option maxRecDepth 100000 in
theorem cw_MRm_roll : codeW MRm_roll ∈ lw_tbl := List.mem_append_right _ (List.mem_append_right _ (List.mem_append_right _ (List.mem_append_right _ (List.mem_append_right _ (List.mem_append_right _ (List.mem_append_left _ (List.mem_of_getElem? (i := 82) rfl)))))))
set_option maxRecDepth 100000 in
theorem cw_MRm_going : codeW MRm_going ∈ lw_tbl := List.mem_append_right _ (List.mem_append_right _ (List.mem_append_right _ (List.mem_append_right _ (List.mem_append_right _ (List.mem_append_right _ (List.mem_append_left _ (List.mem_of_getElem? (i := 126) rfl)))))))
set_option maxRecDepth 100000 in
theorem cw_MRm_back : codeW MRm_back ∈ lw_tbl := List.mem_append_right _ (List.mem_append_right _ (List.mem_append_right _ (List.mem_append_right _ (List.mem_append_right _ (List.mem_append_right _ (List.mem_append_left _ (List.mem_of_getElem? (i := 130) rfl)))))))
set_option maxRecDepth 100000 in
theorem cw_MRm_told : codeW MRm_told ∈ lw_tbl := List.mem_append_right _ (List.mem_append_right _ (List.mem_append_right _ (List.mem_append_right _ (List.mem_append_right _ (List.mem_append_right _ (List.mem_append_left _ (List.mem_of_getElem? (i := 134) rfl)))))))
set_option maxRecDepth 100000 in
theorem cw_MRm_lookBack : codeW MRm_lookBack ∈ lw_tbl := List.mem_append_right _ (List.mem_append_right _ (List.mem_append_right _ (List.mem_append_right _ (List.mem_append_right _ (List.mem_append_right _ (List.mem_append_left _ (List.mem_of_getElem? (i := 146) rfl)))))))
set_option maxRecDepth 100000 in
theorem cw_MRm_goThrough : codeW MRm_goThrough ∈ lw_tbl := List.mem_append_right _ (List.mem_append_right _ (List.mem_append_right _ (List.mem_append_right _ (List.mem_append_right _ (List.mem_append_right _ (List.mem_append_left _ (List.mem_of_getElem? (i := 142) rfl)))))))
set_option maxRecDepth 100000 in
theorem cw_MRm_even : codeW MRm_even ∈ lw_tbl := List.mem_append_right _ (List.mem_append_right _ (List.mem_append_right _ (List.mem_append_right _ (List.mem_append_right _ (List.mem_append_right _ (List.mem_append_left _ (List.mem_of_getElem? (i := 138) rfl)))))))
set_option maxRecDepth 100000 in
theorem cw_MRm_soonest : codeW MRm_soonest ∈ lw_tbl := List.mem_append_right _ (List.mem_append_right _ (List.mem_append_right _ (List.mem_append_right _ (List.mem_append_right _ (List.mem_append_right _ (List.mem_append_left _ (List.mem_of_getElem? (i := 150) rfl)))))))
set_option maxRecDepth 100000 in
theorem cw_MRm_screwed : codeW MRm_screwed ∈ lw_tbl := List.mem_append_right _ (List.mem_append_right _ (List.mem_append_right _ (List.mem_append_right _ (List.mem_append_right _ (List.mem_append_right _ (List.mem_append_left _ (List.mem_of_getElem? (i := 158) rfl)))))))
set_option maxRecDepth 100000 in
theorem cw_MRm_screws : codeW MRm_screws ∈ lw_tbl := List.mem_append_right _ (List.mem_append_right _ (List.mem_append_right _ (List.mem_append_right _ (List.mem_append_right _ (List.mem_append_right _ (List.mem_append_left _ (List.mem_of_getElem? (i := 154) rfl)))))))
set_option maxRecDepth 100000 in
theorem cw_MRm_lightest : codeW MRm_lightest ∈ lw_tbl := List.mem_append_right _ (List.mem_append_right _ (List.mem_append_right _ (List.mem_append_right _ (List.mem_append_right _ (List.mem_append_right _ (List.mem_append_left _ (List.mem_of_getElem? (i := 162) rfl)))))))
set_option maxRecDepth 100000 in
theorem cw_MRm_seen : codeW MRm_seen ∈ lw_tbl := List.mem_append_right _ (List.mem_append_right _ (List.mem_append_right _ (List.mem_append_right _ (List.mem_append_right _ (List.mem_append_right _ (List.mem_append_left _ (List.mem_of_getElem? (i := 166) rfl)))))))
set_option maxRecDepth 100000 in
theorem cw_MRm_pressed : codeW MRm_pressed ∈ lw_tbl := List.mem_append_right _ (List.mem_append_right _ (List.mem_append_right _ (List.mem_append_right _ (List.mem_append_right _ (List.mem_append_right _ (List.mem_append_left _ (List.mem_of_getElem? (i := 170) rfl)))))))
set_option maxRecDepth 100000 in
theorem cw_MRm_draw : codeW MRm_draw ∈ lw_tbl := List.mem_append_right _ (List.mem_append_right _ (List.mem_append_right _ (List.mem_append_right _ (List.mem_append_right _ (List.mem_append_right _ (List.mem_append_left _ (List.mem_of_getElem? (i := 178) rfl)))))))
set_option maxRecDepth 100000 in
theorem cw_MRm_hands : codeW MRm_hands ∈ lw_tbl := List.mem_append_right _ (List.mem_append_right _ (List.mem_append_right _ (List.mem_append_right _ (List.mem_append_right _ (List.mem_append_right _ (List.mem_append_left _ (List.mem_of_getElem? (i := 174) rfl)))))))
set_option maxRecDepth 100000 in
theorem cw_MRm_isFrame : codeW MRm_isFrame ∈ lw_tbl := List.mem_append_right _ (List.mem_append_right _ (List.mem_append_right _ (List.mem_append_right _ (List.mem_append_right _ (List.mem_append_right _ (List.mem_append_left _ (List.mem_of_getElem? (i := 187) rfl)))))))
set_option maxRecDepth 100000 in
theorem cw_MRm_addFrame : codeW MRm_addFrame ∈ lw_tbl := List.mem_append_right _ (List.mem_append_right _ (List.mem_append_right _ (List.mem_append_right _ (List.mem_append_right _ (List.mem_append_right _ (List.mem_append_left _ (List.mem_of_getElem? (i := 191) rfl)))))))
set_option maxRecDepth 100000 in
theorem cw_MRm_frame : codeW MRm_frame ∈ lw_tbl := List.mem_append_right _ (List.mem_append_right _ (List.mem_append_right _ (List.mem_append_right _ (List.mem_append_right _ (List.mem_append_right _ (List.mem_append_left _ (List.mem_of_getElem? (i := 183) rfl)))))))
set_option maxRecDepth 100000 in
theorem cw_MRm_frames : codeW MRm_frames ∈ lw_tbl := List.mem_append_right _ (List.mem_append_right _ (List.mem_append_right _ (List.mem_append_right _ (List.mem_append_right _ (List.mem_append_right _ (List.mem_append_left _ (List.mem_of_getElem? (i := 195) rfl)))))))
set_option maxRecDepth 100000 in
theorem cw_MRm_cut : codeW MRm_cut ∈ lw_tbl := List.mem_append_right _ (List.mem_append_right _ (List.mem_append_right _ (List.mem_append_right _ (List.mem_append_right _ (List.mem_append_right _ (List.mem_append_left _ (List.mem_of_getElem? (i := 202) rfl)))))))
set_option maxRecDepth 100000 in
theorem cw_MRm_offBy : codeW MRm_offBy ∈ lw_tbl := List.mem_append_right _ (List.mem_append_right _ (List.mem_append_right _ (List.mem_append_right _ (List.mem_append_right _ (List.mem_append_right _ (List.mem_append_left _ (List.mem_of_getElem? (i := 210) rfl)))))))
set_option maxRecDepth 100000 in
theorem cw_MRm_off : codeW MRm_off ∈ lw_tbl := List.mem_append_right _ (List.mem_append_right _ (List.mem_append_right _ (List.mem_append_right _ (List.mem_append_right _ (List.mem_append_right _ (List.mem_append_left _ (List.mem_of_getElem? (i := 206) rfl)))))))
set_option maxRecDepth 100000 in
theorem cw_MRm_shape : codeW MRm_shape ∈ lw_tbl := List.mem_append_right _ (List.mem_append_right _ (List.mem_append_right _ (List.mem_append_right _ (List.mem_append_right _ (List.mem_append_right _ (List.mem_append_left _ (List.mem_of_getElem? (i := 214) rfl)))))))
set_option maxRecDepth 100000 in
theorem cw_MRm_span : codeW MRm_span ∈ lw_tbl := List.mem_append_right _ (List.mem_append_right _ (List.mem_append_right _ (List.mem_append_right _ (List.mem_append_right _ (List.mem_append_right _ (List.mem_append_left _ (List.mem_of_getElem? (i := 218) rfl)))))))
set_option maxRecDepth 100000 in
theorem cw_MRm_which : codeW MRm_which ∈ lw_tbl := List.mem_append_right _ (List.mem_append_right _ (List.mem_append_right _ (List.mem_append_right _ (List.mem_append_right _ (List.mem_append_right _ (List.mem_append_left _ (List.mem_of_getElem? (i := 222) rfl)))))))
set_option maxRecDepth 100000 in
theorem cw_MRm_chance : codeW MRm_chance ∈ lw_tbl := List.mem_append_right _ (List.mem_append_right _ (List.mem_append_right _ (List.mem_append_right _ (List.mem_append_right _ (List.mem_append_right _ (List.mem_append_left _ (List.mem_of_getElem? (i := 226) rfl)))))))
set_option maxRecDepth 100000 in
theorem cw_MRm_isBody : codeW MRm_isBody ∈ lw_tbl := List.mem_append_right _ (List.mem_append_right _ (List.mem_append_right _ (List.mem_append_right _ (List.mem_append_right _ (List.mem_append_right _ (List.mem_append_right _ (List.mem_of_getElem? (i := 3) rfl)))))))
set_option maxRecDepth 100000 in
theorem cw_MRm_ran : codeW MRm_ran ∈ lw_tbl := List.mem_append_right _ (List.mem_append_right _ (List.mem_append_right _ (List.mem_append_right _ (List.mem_append_right _ (List.mem_append_right _ (List.mem_append_right _ (List.mem_of_getElem? (i := 11) rfl)))))))
set_option maxRecDepth 100000 in
theorem cw_MRm_trace : codeW MRm_trace ∈ lw_tbl := List.mem_append_right _ (List.mem_append_right _ (List.mem_append_right _ (List.mem_append_right _ (List.mem_append_right _ (List.mem_append_right _ (List.mem_append_left _ (List.mem_of_getElem? (i := 231) rfl)))))))
set_option maxRecDepth 100000 in
theorem cw_MRm_body : codeW MRm_body ∈ lw_tbl := List.mem_append_right _ (List.mem_append_right _ (List.mem_append_right _ (List.mem_append_right _ (List.mem_append_right _ (List.mem_append_right _ (List.mem_append_left _ (List.mem_of_getElem? (i := 235) rfl)))))))
set_option maxRecDepth 100000 in
theorem cw_MRm_isUnder : codeW MRm_isUnder ∈ lw_tbl := List.mem_append_right _ (List.mem_append_right _ (List.mem_append_right _ (List.mem_append_right _ (List.mem_append_right _ (List.mem_append_right _ (List.mem_append_right _ (List.mem_of_getElem? (i := 42) rfl)))))))
set_option maxRecDepth 100000 in
theorem cw_MRm_plainRolls : codeW MRm_plainRolls ∈ lw_tbl := List.mem_append_right _ (List.mem_append_right _ (List.mem_append_right _ (List.mem_append_right _ (List.mem_append_right _ (List.mem_append_right _ (List.mem_append_right _ (List.mem_of_getElem? (i := 19) rfl)))))))
set_option maxRecDepth 100000 in
theorem cw_MRm_keptRolls : codeW MRm_keptRolls ∈ lw_tbl := List.mem_append_right _ (List.mem_append_right _ (List.mem_append_right _ (List.mem_append_right _ (List.mem_append_right _ (List.mem_append_right _ (List.mem_append_right _ (List.mem_of_getElem? (i := 15) rfl)))))))
set_option maxRecDepth 100000 in
theorem cw_MRm_rolls : codeW MRm_rolls ∈ lw_tbl := List.mem_append_right _ (List.mem_append_right _ (List.mem_append_right _ (List.mem_append_right _ (List.mem_append_right _ (List.mem_append_right _ (List.mem_append_right _ (List.mem_of_getElem? (i := 7) rfl)))))))
set_option maxRecDepth 100000 in
theorem cw_MRm_plainTrades : codeW MRm_plainTrades ∈ lw_tbl := List.mem_append_right _ (List.mem_append_right _ (List.mem_append_right _ (List.mem_append_right _ (List.mem_append_right _ (List.mem_append_right _ (List.mem_append_right _ (List.mem_of_getElem? (i := 31) rfl)))))))
set_option maxRecDepth 100000 in
theorem cw_MRm_turnedTrades : codeW MRm_turnedTrades ∈ lw_tbl := List.mem_append_right _ (List.mem_append_right _ (List.mem_append_right _ (List.mem_append_right _ (List.mem_append_right _ (List.mem_append_right _ (List.mem_append_right _ (List.mem_of_getElem? (i := 27) rfl)))))))
set_option maxRecDepth 100000 in
theorem cw_MRm_trades : codeW MRm_trades ∈ lw_tbl := List.mem_append_right _ (List.mem_append_right _ (List.mem_append_right _ (List.mem_append_right _ (List.mem_append_right _ (List.mem_append_right _ (List.mem_append_right _ (List.mem_of_getElem? (i := 23) rfl)))))))
set_option maxRecDepth 100000 in
theorem cw_MRm_plainEnds : codeW MRm_plainEnds ∈ lw_tbl := List.mem_append_right _ (List.mem_append_right _ (List.mem_append_right _ (List.mem_append_right _ (List.mem_append_right _ (List.mem_append_right _ (List.mem_append_right _ (List.mem_of_getElem? (i := 39) rfl)))))))
set_option maxRecDepth 100000 in
theorem cw_MRm_ends : codeW MRm_ends ∈ lw_tbl := List.mem_append_right _ (List.mem_append_right _ (List.mem_append_right _ (List.mem_append_right _ (List.mem_append_right _ (List.mem_append_right _ (List.mem_append_right _ (List.mem_of_getElem? (i := 35) rfl)))))))
set_option maxRecDepth 100000 in
theorem cw_MRm_plainTells : codeW MRm_plainTells ∈ lw_tbl := List.mem_append_right _ (List.mem_append_right _ (List.mem_append_right _ (List.mem_append_right _ (List.mem_append_right _ (List.mem_append_right _ (List.mem_append_right _ (List.mem_of_getElem? (i := 50) rfl)))))))
set_option maxRecDepth 100000 in
theorem cw_MRm_tells : codeW MRm_tells ∈ lw_tbl := List.mem_append_right _ (List.mem_append_right _ (List.mem_append_right _ (List.mem_append_right _ (List.mem_append_right _ (List.mem_append_right _ (List.mem_append_right _ (List.mem_of_getElem? (i := 46) rfl)))))))
set_option maxRecDepth 100000 in
theorem cw_MRm_act : codeW MRm_act ∈ lw_tbl := List.mem_append_right _ (List.mem_append_right _ (List.mem_append_right _ (List.mem_append_right _ (List.mem_append_right _ (List.mem_append_right _ (List.mem_append_left _ (List.mem_of_getElem? (i := 239) rfl)))))))
set_option maxRecDepth 100000 in
theorem cw_MRm_count : codeW MRm_count ∈ lw_tbl := List.mem_append_right _ (List.mem_append_right _ (List.mem_append_right _ (List.mem_append_right _ (List.mem_append_right _ (List.mem_append_right _ (List.mem_append_right _ (List.mem_of_getElem? (i := 54) rfl)))))))
set_option maxRecDepth 100000 in
theorem cw_MRm_isShelf : codeW MRm_isShelf ∈ lw_tbl := List.mem_append_right _ (List.mem_append_right _ (List.mem_append_right _ (List.mem_append_right _ (List.mem_append_right _ (List.mem_append_right _ (List.mem_append_left _ (List.mem_of_getElem? (i := 198) rfl)))))))
set_option maxRecDepth 100000 in
theorem cw_MRm_keep : codeW MRm_keep ∈ lw_tbl := List.mem_append_right _ (List.mem_append_right _ (List.mem_append_right _ (List.mem_append_right _ (List.mem_append_right _ (List.mem_append_right _ (List.mem_append_right _ (List.mem_of_getElem? (i := 58) rfl)))))))
set_option maxRecDepth 100000 in
theorem cw_MRm_row : codeW MRm_row ∈ lw_tbl := List.mem_append_right _ (List.mem_append_right _ (List.mem_append_right _ (List.mem_append_right _ (List.mem_append_right _ (List.mem_append_right _ (List.mem_append_right _ (List.mem_of_getElem? (i := 62) rfl)))))))
set_option maxRecDepth 100000 in
theorem cw_MRm_whyNoPlace : codeW MRm_whyNoPlace ∈ lw_tbl := List.mem_append_right _ (List.mem_append_right _ (List.mem_append_right _ (List.mem_append_right _ (List.mem_append_right _ (List.mem_append_right _ (List.mem_append_right _ (List.mem_of_getElem? (i := 70) rfl)))))))
set_option maxRecDepth 100000 in
theorem cw_MRm_put : codeW MRm_put ∈ lw_tbl := List.mem_append_right _ (List.mem_append_right _ (List.mem_append_right _ (List.mem_append_right _ (List.mem_append_right _ (List.mem_append_right _ (List.mem_append_right _ (List.mem_of_getElem? (i := 66) rfl)))))))
set_option maxRecDepth 100000 in
theorem cw_MRm_element : codeW MRm_element ∈ lw_tbl := List.mem_append_right _ (List.mem_append_right _ (List.mem_append_right _ (List.mem_append_right _ (List.mem_append_right _ (List.mem_append_right _ (List.mem_append_right _ (List.mem_of_getElem? (i := 74) rfl)))))))
set_option maxRecDepth 100000 in
theorem cw_MRm_shift : codeW MRm_shift ∈ lw_tbl := List.mem_append_right _ (List.mem_append_right _ (List.mem_append_right _ (List.mem_append_right _ (List.mem_append_right _ (List.mem_append_right _ (List.mem_append_right _ (List.mem_of_getElem? (i := 79) rfl)))))))
set_option maxRecDepth 100000 in
theorem cw_MRm_taken : codeW MRm_taken ∈ lw_tbl := List.mem_append_right _ (List.mem_append_right _ (List.mem_append_right _ (List.mem_append_right _ (List.mem_append_right _ (List.mem_append_right _ (List.mem_append_right _ (List.mem_of_getElem? (i := 83) rfl)))))))
set_option maxRecDepth 100000 in
theorem cw_MIn_signum : codeW MIn_signum ∈ lw_tbl := List.mem_append_right _ (List.mem_append_right _ (List.mem_append_right _ (List.mem_append_left _ (List.mem_of_getElem? (i := 96) rfl))))
theorem cw_l0 : ∀ M ∈ ML_0, codeW M ∈ lw_tbl := List.forall_mem_cons.mpr <| And.intro cw_MBo_init <| List.forall_mem_cons.mpr <| And.intro cw_MBo_append <| List.forall_mem_cons.mpr <| And.intro cw_MBo_kindOf <| List.forall_mem_cons.mpr <| And.intro cw_MBo_above <| List.forall_mem_cons.mpr <| And.intro cw_MBo_isUnder <| List.forall_mem_cons.mpr <| And.intro cw_MBo_ownNumber <| List.forall_mem_cons.mpr <| And.intro cw_MBo_traced <| List.forall_mem_cons.mpr <| And.intro cw_MBo_perform <| List.forall_mem_cons.mpr <| And.intro cw_MBo_ask <| List.forall_mem_cons.mpr <| And.intro cw_MBo_run <| List.forall_mem_cons.mpr <| And.intro cw_MCh_init <| List.forall_mem_cons.mpr <| And.intro cw_MCh_note <| List.forall_mem_cons.mpr <| And.intro cw_MCh_write <| List.forall_mem_cons.mpr <| And.intro cw_MCh_part <| List.forall_mem_cons.mpr <| And.intro cw_MFi_init <| List.forall_mem_cons.mpr <| And.intro cw_MFi_mayCome <| List.forall_mem_cons.mpr <| And.intro cw_MFi_append <| List.forall_mem_cons.mpr <| And.intro cw_MFi_takeFrom <| List.forall_mem_cons.mpr <| And.intro cw_MFi_tickAt <| List.forall_mem_cons.mpr <| And.intro cw_MFi_turnAt <| List.forall_mem_cons.mpr <| And.intro cw_MFl_init <| List.forall_mem_cons.mpr <| And.intro cw_MFl_readFrom <| List.forall_mem_cons.mpr <| And.intro cw_MFl_readLine <| List.forall_mem_cons.mpr <| And.intro cw_MFl_readJoined <| List.forall_mem_cons.mpr <| And.intro cw_MFl_levelOf <| List.forall_mem_cons.mpr <| And.intro cw_MFl_readOne <| List.forall_mem_cons.mpr <| And.intro cw_MFl_readOpened <| List.forall_mem_cons.mpr <| And.intro cw_MFl_append <| List.forall_mem_cons.mpr <| And.intro cw_MFl_appendNumber <| List.forall_mem_cons.mpr <| And.intro cw_MFl_name <| fun _ h => absurd h List.not_mem_nil
theorem cw_l1 : ∀ M ∈ ML_1, codeW M ∈ lw_tbl := List.forall_mem_cons.mpr <| And.intro cw_MFl_takes <| List.forall_mem_cons.mpr <| And.intro cw_MFl_valueAt <| List.forall_mem_cons.mpr <| And.intro cw_MFl_result <| List.forall_mem_cons.mpr <| And.intro cw_MGo_init <| List.forall_mem_cons.mpr <| And.intro cw_MGo_isThere <| List.forall_mem_cons.mpr <| And.intro cw_MGo_record <| List.forall_mem_cons.mpr <| And.intro cw_MGo_note <| List.forall_mem_cons.mpr <| And.intro cw_MGo_at <| List.forall_mem_cons.mpr <| And.intro cw_MGo_backTick <| List.forall_mem_cons.mpr <| And.intro cw_MGo_summary <| List.forall_mem_cons.mpr <| And.intro cw_MGo_ended <| List.forall_mem_cons.mpr <| And.intro cw_MMo_init <| List.forall_mem_cons.mpr <| And.intro cw_MMo_rule <| List.forall_mem_cons.mpr <| And.intro cw_MMo_start <| List.forall_mem_cons.mpr <| And.intro cw_MMo_run <| List.forall_mem_cons.mpr <| And.intro cw_MMo_step <| List.forall_mem_cons.mpr <| And.intro cw_MMo_growRattle <| List.forall_mem_cons.mpr <| And.intro cw_MMo_grown <| List.forall_mem_cons.mpr <| And.intro cw_MMo_pushTurn <| List.forall_mem_cons.mpr <| And.intro cw_MMo_lose <| List.forall_mem_cons.mpr <| And.intro cw_MMo_lossOf <| List.forall_mem_cons.mpr <| And.intro cw_MMo_nearer <| List.forall_mem_cons.mpr <| And.intro cw_MMo_heldTurn <| List.forall_mem_cons.mpr <| And.intro cw_MMo_heldRattle <| List.forall_mem_cons.mpr <| And.intro cw_MSh_init <| List.forall_mem_cons.mpr <| And.intro cw_MSh_hold <| List.forall_mem_cons.mpr <| And.intro cw_MSh_holdRow <| List.forall_mem_cons.mpr <| And.intro cw_MSh_isRow <| List.forall_mem_cons.mpr <| And.intro cw_MSh_isRowOf <| List.forall_mem_cons.mpr <| And.intro cw_MSh_isEmpty <| fun _ h => absurd h List.not_mem_nil
theorem cw_l2 : ∀ M ∈ ML_2, codeW M ∈ lw_tbl := List.forall_mem_cons.mpr <| And.intro cw_MSh_hasPlaces <| List.forall_mem_cons.mpr <| And.intro cw_MSh_refusal <| List.forall_mem_cons.mpr <| And.intro cw_MSh_read <| List.forall_mem_cons.mpr <| And.intro cw_MSh_write <| List.forall_mem_cons.mpr <| And.intro cw_MSh_cutDown <| List.forall_mem_cons.mpr <| And.intro cw_MSt_init <| List.forall_mem_cons.mpr <| And.intro cw_MSt_readFrom <| List.forall_mem_cons.mpr <| And.intro cw_MSt_readLump <| List.forall_mem_cons.mpr <| And.intro cw_MSt_readSigned <| List.forall_mem_cons.mpr <| And.intro cw_MSt_readRate <| List.forall_mem_cons.mpr <| And.intro cw_MSt_mostRate <| List.forall_mem_cons.mpr <| And.intro cw_MSt_weigh <| List.forall_mem_cons.mpr <| And.intro cw_MSt_keen <| List.forall_mem_cons.mpr <| And.intro cw_MSt_keenWith <| List.forall_mem_cons.mpr <| And.intro cw_MSt_screwPlace <| List.forall_mem_cons.mpr <| And.intro cw_MSt_rate <| List.forall_mem_cons.mpr <| And.intro cw_MSt_measure <| List.forall_mem_cons.mpr <| And.intro cw_MSt_lumpPart <| List.forall_mem_cons.mpr <| And.intro cw_MSt_isRate <| List.forall_mem_cons.mpr <| And.intro cw_MSt_mayBecome <| List.forall_mem_cons.mpr <| And.intro cw_MSt_change <| List.forall_mem_cons.mpr <| And.intro cw_MTa_init <| List.forall_mem_cons.mpr <| And.intro cw_MTa_append <| List.forall_mem_cons.mpr <| And.intro cw_MTa_clear <| List.forall_mem_cons.mpr <| And.intro cw_MTa_rewind <| List.forall_mem_cons.mpr <| And.intro cw_MTa_isAtEnd <| List.forall_mem_cons.mpr <| And.intro cw_MTa_here <| List.forall_mem_cons.mpr <| And.intro cw_MTa_skip <| List.forall_mem_cons.mpr <| And.intro cw_MTa_digit <| List.forall_mem_cons.mpr <| And.intro cw_MTa_number <| fun _ h => absurd h List.not_mem_nil
theorem cw_l3 : ∀ M ∈ ML_3, codeW M ∈ lw_tbl := List.forall_mem_cons.mpr <| And.intro cw_MTo_init <| List.forall_mem_cons.mpr <| And.intro cw_MTo_feed <| List.forall_mem_cons.mpr <| And.intro cw_MTo_stone <| List.forall_mem_cons.mpr <| And.intro cw_MTo_of <| List.forall_mem_cons.mpr <| And.intro cw_MTo_lump <| List.forall_mem_cons.mpr <| And.intro cw_MTo_set <| List.forall_mem_cons.mpr <| And.intro cw_MTo_floor <| List.forall_mem_cons.mpr <| And.intro cw_MTo_grows <| List.forall_mem_cons.mpr <| And.intro cw_MTo_roll <| List.forall_mem_cons.mpr <| And.intro cw_MTo_going <| List.forall_mem_cons.mpr <| And.intro cw_MTo_back <| List.forall_mem_cons.mpr <| And.intro cw_MTo_told <| List.forall_mem_cons.mpr <| And.intro cw_MTo_even <| List.forall_mem_cons.mpr <| And.intro cw_MTo_soonest <| List.forall_mem_cons.mpr <| And.intro cw_MTo_screws <| List.forall_mem_cons.mpr <| And.intro cw_MTo_lightest <| List.forall_mem_cons.mpr <| And.intro cw_MTo_seen <| List.forall_mem_cons.mpr <| And.intro cw_MTo_pressed <| List.forall_mem_cons.mpr <| And.intro cw_MTo_hands <| List.forall_mem_cons.mpr <| And.intro cw_MTo_frame <| List.forall_mem_cons.mpr <| And.intro cw_MTo_frames <| List.forall_mem_cons.mpr <| And.intro cw_MTo_cut <| List.forall_mem_cons.mpr <| And.intro cw_MTo_off <| List.forall_mem_cons.mpr <| And.intro cw_MTo_shape <| List.forall_mem_cons.mpr <| And.intro cw_MTo_span <| List.forall_mem_cons.mpr <| And.intro cw_MTo_which <| List.forall_mem_cons.mpr <| And.intro cw_MTo_chance <| List.forall_mem_cons.mpr <| And.intro cw_MTo_undo <| List.forall_mem_cons.mpr <| And.intro cw_MTo_redo <| List.forall_mem_cons.mpr <| And.intro cw_MTo_body <| fun _ h => absurd h List.not_mem_nil
theorem cw_l4 : ∀ M ∈ ML_4, codeW M ∈ lw_tbl := List.forall_mem_cons.mpr <| And.intro cw_MTo_act <| List.forall_mem_cons.mpr <| And.intro cw_MTo_trace <| List.forall_mem_cons.mpr <| And.intro cw_MTo_keep <| List.forall_mem_cons.mpr <| And.intro cw_MTo_row <| List.forall_mem_cons.mpr <| And.intro cw_MTo_put <| List.forall_mem_cons.mpr <| And.intro cw_MTo_element <| List.forall_mem_cons.mpr <| And.intro cw_MTo_shift <| List.forall_mem_cons.mpr <| And.intro cw_MTo_taken <| List.forall_mem_cons.mpr <| And.intro cw_MTo_count <| List.forall_mem_cons.mpr <| And.intro cw_MTo_isWithin <| List.forall_mem_cons.mpr <| And.intro cw_MTo_isKeen <| List.forall_mem_cons.mpr <| And.intro cw_MTo_isStart <| List.forall_mem_cons.mpr <| And.intro cw_MTo_drawn <| List.forall_mem_cons.mpr <| And.intro cw_MTo_stoneAt <| List.forall_mem_cons.mpr <| And.intro cw_MTo_floorAt <| List.forall_mem_cons.mpr <| And.intro cw_MTo_shelfAt <| List.forall_mem_cons.mpr <| And.intro cw_MTo_isFloorOrNone <| List.forall_mem_cons.mpr <| And.intro cw_MTo_isGround <| List.forall_mem_cons.mpr <| And.intro cw_MTo_lay <| List.forall_mem_cons.mpr <| And.intro cw_MTo_layOwn <| List.forall_mem_cons.mpr <| And.intro cw_MTo_start <| List.forall_mem_cons.mpr <| And.intro cw_MTo_firstBack <| List.forall_mem_cons.mpr <| And.intro cw_MTo_offBy <| List.forall_mem_cons.mpr <| And.intro cw_MTo_changeTo <| List.forall_mem_cons.mpr <| And.intro cw_MRm_init <| List.forall_mem_cons.mpr <| And.intro cw_MRm_in <| List.forall_mem_cons.mpr <| And.intro cw_MRm_sizeOf <| List.forall_mem_cons.mpr <| And.intro cw_MRm_held <| List.forall_mem_cons.mpr <| And.intro cw_MRm_feed <| List.forall_mem_cons.mpr <| And.intro cw_MRm_isStone <| fun _ h => absurd h List.not_mem_nil
theorem cw_l5 : ∀ M ∈ ML_5, codeW M ∈ lw_tbl := List.forall_mem_cons.mpr <| And.intro cw_MRm_isHere <| List.forall_mem_cons.mpr <| And.intro cw_MRm_takes <| List.forall_mem_cons.mpr <| And.intro cw_MRm_digit <| List.forall_mem_cons.mpr <| And.intro cw_MRm_signed <| List.forall_mem_cons.mpr <| And.intro cw_MRm_readNumber <| List.forall_mem_cons.mpr <| And.intro cw_MRm_readLump <| List.forall_mem_cons.mpr <| And.intro cw_MRm_stone <| List.forall_mem_cons.mpr <| And.intro cw_MRm_sumOf <| List.forall_mem_cons.mpr <| And.intro cw_MRm_wideX <| List.forall_mem_cons.mpr <| And.intro cw_MRm_wideY <| List.forall_mem_cons.mpr <| And.intro cw_MRm_slant <| List.forall_mem_cons.mpr <| And.intro cw_MRm_keenOf <| List.forall_mem_cons.mpr <| And.intro cw_MRm_of <| List.forall_mem_cons.mpr <| And.intro cw_MRm_lump <| List.forall_mem_cons.mpr <| And.intro cw_MRm_valueAt <| List.forall_mem_cons.mpr <| And.intro cw_MRm_place <| List.forall_mem_cons.mpr <| And.intro cw_MRm_changes <| List.forall_mem_cons.mpr <| And.intro cw_MRm_undo <| List.forall_mem_cons.mpr <| And.intro cw_MRm_redo <| List.forall_mem_cons.mpr <| And.intro cw_MRm_set <| List.forall_mem_cons.mpr <| And.intro cw_MRm_look <| List.forall_mem_cons.mpr <| And.intro cw_MRm_wrong <| List.forall_mem_cons.mpr <| And.intro cw_MRm_addStep <| List.forall_mem_cons.mpr <| And.intro cw_MRm_nameOf <| List.forall_mem_cons.mpr <| And.intro cw_MRm_opens <| List.forall_mem_cons.mpr <| And.intro cw_MRm_figure <| List.forall_mem_cons.mpr <| And.intro cw_MRm_operand <| List.forall_mem_cons.mpr <| And.intro cw_MRm_product <| List.forall_mem_cons.mpr <| And.intro cw_MRm_sum <| List.forall_mem_cons.mpr <| And.intro cw_MRm_compared <| fun _ h => absurd h List.not_mem_nil
theorem cw_l6 : ∀ M ∈ ML_6, codeW M ∈ lw_tbl := List.forall_mem_cons.mpr <| And.intro cw_MRm_both <| List.forall_mem_cons.mpr <| And.intro cw_MRm_either <| List.forall_mem_cons.mpr <| And.intro cw_MRm_line <| List.forall_mem_cons.mpr <| And.intro cw_MRm_readText <| List.forall_mem_cons.mpr <| And.intro cw_MRm_twoOf <| List.forall_mem_cons.mpr <| And.intro cw_MRm_worked <| List.forall_mem_cons.mpr <| And.intro cw_MRm_gives <| List.forall_mem_cons.mpr <| And.intro cw_MRm_isFloor <| List.forall_mem_cons.mpr <| And.intro cw_MRm_floor <| List.forall_mem_cons.mpr <| And.intro cw_MRm_grows <| List.forall_mem_cons.mpr <| And.intro cw_MRm_isStart <| List.forall_mem_cons.mpr <| And.intro cw_MRm_isGoing <| List.forall_mem_cons.mpr <| And.intro cw_MRm_begin <| List.forall_mem_cons.mpr <| And.intro cw_MRm_takenBy <| List.forall_mem_cons.mpr <| And.intro cw_MRm_go <| List.forall_mem_cons.mpr <| And.intro cw_MRm_note <| List.forall_mem_cons.mpr <| And.intro cw_MRm_roll <| List.forall_mem_cons.mpr <| And.intro cw_MRm_going <| List.forall_mem_cons.mpr <| And.intro cw_MRm_back <| List.forall_mem_cons.mpr <| And.intro cw_MRm_told <| List.forall_mem_cons.mpr <| And.intro cw_MRm_lookBack <| List.forall_mem_cons.mpr <| And.intro cw_MRm_goThrough <| List.forall_mem_cons.mpr <| And.intro cw_MRm_even <| List.forall_mem_cons.mpr <| And.intro cw_MRm_soonest <| List.forall_mem_cons.mpr <| And.intro cw_MRm_screwed <| List.forall_mem_cons.mpr <| And.intro cw_MRm_screws <| List.forall_mem_cons.mpr <| And.intro cw_MRm_lightest <| List.forall_mem_cons.mpr <| And.intro cw_MRm_seen <| List.forall_mem_cons.mpr <| And.intro cw_MRm_pressed <| List.forall_mem_cons.mpr <| And.intro cw_MRm_draw <| fun _ h => absurd h List.not_mem_nil
theorem cw_l7 : ∀ M ∈ ML_7, codeW M ∈ lw_tbl := List.forall_mem_cons.mpr <| And.intro cw_MRm_hands <| List.forall_mem_cons.mpr <| And.intro cw_MRm_isFrame <| List.forall_mem_cons.mpr <| And.intro cw_MRm_addFrame <| List.forall_mem_cons.mpr <| And.intro cw_MRm_frame <| List.forall_mem_cons.mpr <| And.intro cw_MRm_frames <| List.forall_mem_cons.mpr <| And.intro cw_MRm_cut <| List.forall_mem_cons.mpr <| And.intro cw_MRm_offBy <| List.forall_mem_cons.mpr <| And.intro cw_MRm_off <| List.forall_mem_cons.mpr <| And.intro cw_MRm_shape <| List.forall_mem_cons.mpr <| And.intro cw_MRm_span <| List.forall_mem_cons.mpr <| And.intro cw_MRm_which <| List.forall_mem_cons.mpr <| And.intro cw_MRm_chance <| List.forall_mem_cons.mpr <| And.intro cw_MRm_isBody <| List.forall_mem_cons.mpr <| And.intro cw_MRm_ran <| List.forall_mem_cons.mpr <| And.intro cw_MRm_trace <| List.forall_mem_cons.mpr <| And.intro cw_MRm_body <| List.forall_mem_cons.mpr <| And.intro cw_MRm_isUnder <| List.forall_mem_cons.mpr <| And.intro cw_MRm_plainRolls <| List.forall_mem_cons.mpr <| And.intro cw_MRm_keptRolls <| List.forall_mem_cons.mpr <| And.intro cw_MRm_rolls <| List.forall_mem_cons.mpr <| And.intro cw_MRm_plainTrades <| List.forall_mem_cons.mpr <| And.intro cw_MRm_turnedTrades <| List.forall_mem_cons.mpr <| And.intro cw_MRm_trades <| List.forall_mem_cons.mpr <| And.intro cw_MRm_plainEnds <| List.forall_mem_cons.mpr <| And.intro cw_MRm_ends <| List.forall_mem_cons.mpr <| And.intro cw_MRm_plainTells <| List.forall_mem_cons.mpr <| And.intro cw_MRm_tells <| List.forall_mem_cons.mpr <| And.intro cw_MRm_act <| List.forall_mem_cons.mpr <| And.intro cw_MRm_count <| List.forall_mem_cons.mpr <| And.intro cw_MRm_isShelf <| fun _ h => absurd h List.not_mem_nil
theorem cw_l8 : ∀ M ∈ ML_8, codeW M ∈ lw_tbl := List.forall_mem_cons.mpr <| And.intro cw_MRm_keep <| List.forall_mem_cons.mpr <| And.intro cw_MRm_row <| List.forall_mem_cons.mpr <| And.intro cw_MRm_whyNoPlace <| List.forall_mem_cons.mpr <| And.intro cw_MRm_put <| List.forall_mem_cons.mpr <| And.intro cw_MRm_element <| List.forall_mem_cons.mpr <| And.intro cw_MRm_shift <| List.forall_mem_cons.mpr <| And.intro cw_MRm_taken <| List.forall_mem_cons.mpr <| And.intro cw_MIn_signum <| fun _ h => absurd h List.not_mem_nil
theorem cw_gd {l : List MI} (h : ∀ M ∈ l, codeW M ∈ lw_tbl) (k : Nat) : codeW (l.getD k MBo_init) ∈ lw_tbl := by
  rw [List.getD_eq_getElem?_getD]
  cases hk : l[k]? with
  | none => exact cw_MBo_init
  | some M => exact h M (List.mem_of_getElem? hk)
theorem cw_all (j : Nat) : codeW (mI j) ∈ lw_tbl := by
  unfold mI
  split
  · exact cw_gd cw_l0 _
  · exact cw_gd cw_l1 _
  · exact cw_gd cw_l2 _
  · exact cw_gd cw_l3 _
  · exact cw_gd cw_l4 _
  · exact cw_gd cw_l5 _
  · exact cw_gd cw_l6 _
  · exact cw_gd cw_l7 _
  · exact cw_gd cw_l8 _
set_option maxRecDepth 100000 in
theorem lay_0 : ckWs (u_ws "TurnsOneWay$Bodies" T0 6) [296, 298, 300, 302, 304, 306] = true := by decide +kernel
theorem nm_0 : ∀ a, a < 6 → ∀ b, b < 6 → a ≠ b → (T0 a).2.1 ≠ (T0 b).2.1 := by decide +kernel
theorem ft_0 : ∀ k, k < 6 → parseFieldDescriptor (T0 k).2.2.1 = some (ft0 k) := by decide +kernel
theorem df_0 : ∀ k, k < 6 → defaultValue (ft0 k) = vp_V (dfl 0) k := by decide +kernel
set_option maxRecDepth 100000 in
theorem lay_1 : ckWs (u_ws "TurnsOneWay$Changes" T1 3) [275, 277, 279] = true := by decide +kernel
theorem nm_1 : ∀ a, a < 3 → ∀ b, b < 3 → a ≠ b → (T1 a).2.1 ≠ (T1 b).2.1 := by decide +kernel
theorem ft_1 : ∀ k, k < 3 → parseFieldDescriptor (T1 k).2.2.1 = some (ft1 k) := by decide +kernel
theorem df_1 : ∀ k, k < 3 → defaultValue (ft1 k) = vp_V (dfl 1) k := by decide +kernel
set_option maxRecDepth 100000 in
theorem lay_2 : ckWs (u_ws "TurnsOneWay$Film" T2 3) [257, 259, 261] = true := by decide +kernel
theorem nm_2 : ∀ a, a < 3 → ∀ b, b < 3 → a ≠ b → (T2 a).2.1 ≠ (T2 b).2.1 := by decide +kernel
theorem ft_2 : ∀ k, k < 3 → parseFieldDescriptor (T2 k).2.2.1 = some (ft2 k) := by decide +kernel
theorem df_2 : ∀ k, k < 3 → defaultValue (ft2 k) = vp_V (dfl 2) k := by decide +kernel
set_option maxRecDepth 100000 in
theorem lay_3 : ckWs (u_ws "TurnsOneWay$Floor" T3 11) [365, 367, 369, 371, 373, 375, 377, 379, 381, 383, 385] = true := by decide +kernel
theorem nm_3 : ∀ a, a < 11 → ∀ b, b < 11 → a ≠ b → (T3 a).2.1 ≠ (T3 b).2.1 := by decide +kernel
theorem ft_3 : ∀ k, k < 11 → parseFieldDescriptor (T3 k).2.2.1 = some (ft3 k) := by decide +kernel
theorem df_3 : ∀ k, k < 11 → defaultValue (ft3 k) = vp_V (dfl 3) k := by decide +kernel
set_option maxRecDepth 100000 in
theorem lay_4 : ckWs (u_ws "TurnsOneWay$Going" T4 9) [227, 229, 231, 233, 235, 237, 239, 241, 243] = true := by decide +kernel
theorem nm_4 : ∀ a, a < 9 → ∀ b, b < 9 → a ≠ b → (T4 a).2.1 ≠ (T4 b).2.1 := by decide +kernel
theorem ft_4 : ∀ k, k < 9 → parseFieldDescriptor (T4 k).2.2.1 = some (ft4 k) := by decide +kernel
theorem df_4 : ∀ k, k < 9 → defaultValue (ft4 k) = vp_V (dfl 4) k := by decide +kernel
set_option maxRecDepth 100000 in
theorem lay_5 : ckWs (u_ws "TurnsOneWay$Motion" T5 17) [175, 177, 179, 181, 183, 185, 187, 189, 191, 193, 195, 197, 199, 201, 203, 205, 207] = true := by decide +kernel
theorem nm_5 : ∀ a, a < 17 → ∀ b, b < 17 → a ≠ b → (T5 a).2.1 ≠ (T5 b).2.1 := by decide +kernel
theorem ft_5 : ∀ k, k < 17 → parseFieldDescriptor (T5 k).2.2.1 = some (ft5 k) := by decide +kernel
theorem df_5 : ∀ k, k < 17 → defaultValue (ft5 k) = vp_V (dfl 5) k := by decide +kernel
set_option maxRecDepth 100000 in
theorem lay_6 : ckWs (u_ws "TurnsOneWay$Shelf" T6 4) [400, 402, 404, 406] = true := by decide +kernel
theorem nm_6 : ∀ a, a < 4 → ∀ b, b < 4 → a ≠ b → (T6 a).2.1 ≠ (T6 b).2.1 := by decide +kernel
theorem ft_6 : ∀ k, k < 4 → parseFieldDescriptor (T6 k).2.2.1 = some (ft6 k) := by decide +kernel
theorem df_6 : ∀ k, k < 4 → defaultValue (ft6 k) = vp_V (dfl 6) k := by decide +kernel
set_option maxRecDepth 100000 in
theorem lay_7 : ckWs (u_ws "TurnsOneWay$Stone" T7 11) [326, 328, 330, 332, 334, 336, 338, 340, 342, 344, 346] = true := by decide +kernel
theorem nm_7 : ∀ a, a < 11 → ∀ b, b < 11 → a ≠ b → (T7 a).2.1 ≠ (T7 b).2.1 := by decide +kernel
theorem ft_7 : ∀ k, k < 11 → parseFieldDescriptor (T7 k).2.2.1 = some (ft7 k) := by decide +kernel
theorem df_7 : ∀ k, k < 11 → defaultValue (ft7 k) = vp_V (dfl 7) k := by decide +kernel
set_option maxRecDepth 100000 in
theorem lay_8 : ckWs (u_ws "TurnsOneWay$Tape" T8 3) [125, 127, 129] = true := by decide +kernel
theorem nm_8 : ∀ a, a < 3 → ∀ b, b < 3 → a ≠ b → (T8 a).2.1 ≠ (T8 b).2.1 := by decide +kernel
theorem ft_8 : ∀ k, k < 3 → parseFieldDescriptor (T8 k).2.2.1 = some (ft8 k) := by decide +kernel
theorem df_8 : ∀ k, k < 3 → defaultValue (ft8 k) = vp_V (dfl 8) k := by decide +kernel
set_option maxRecDepth 100000 in
theorem lay_9 : ckWs (u_ws "TurnsOneWay" T9 11) [421, 423, 425, 427, 429, 431, 433, 435, 437, 439, 441] = true := by decide +kernel
theorem nm_9 : ∀ a, a < 11 → ∀ b, b < 11 → a ≠ b → (T9 a).2.1 ≠ (T9 b).2.1 := by decide +kernel
theorem ft_9 : ∀ k, k < 11 → parseFieldDescriptor (T9 k).2.2.1 = some (ft9 k) := by decide +kernel
theorem df_9 : ∀ k, k < 11 → defaultValue (ft9 k) = vp_V (dfl 9) k := by decide +kernel
set_option maxRecDepth 100000 in
theorem lay_10 : ckWs (u_ws "TurnsOneWayModel" T10 59) [1088, 1090, 1092, 1094, 1096, 1098, 1100, 1102, 1104, 1106, 1108, 1110, 1112, 1114, 1116, 1118, 1120, 1122, 1124, 1126, 1128, 1130, 1132, 1134, 1136, 1138, 1140, 1142, 1144, 1146, 1148, 1150, 1152, 1154, 1156, 1158, 1160, 1162, 1164, 1166, 1168, 1170, 1172, 1174, 1176, 1178, 1180, 1182, 1184, 1186, 1188, 1190, 1192, 1194, 1196, 1198, 1200, 1202, 1204] = true := by decide +kernel
theorem nm_10 : ∀ a, a < 59 → ∀ b, b < 59 → a ≠ b → (T10 a).2.1 ≠ (T10 b).2.1 := by decide +kernel
theorem ft_10 : ∀ k, k < 59 → parseFieldDescriptor (T10 k).2.2.1 = some (ft10 k) := by decide +kernel
theorem df_10 : ∀ k, k < 59 → defaultValue (ft10 k) = vp_V (dfl 10) k := by decide +kernel
set_option maxRecDepth 100000 in
theorem ac_all : ckWs [.arrayClass .int, .arrayClass .long, .arrayClass .byte, .arrayClass .short] [246, 409, 132, 1207] = true := by decide +kernel
set_option maxRecDepth 100000 in
theorem ao_all : ckWs [.arrayOver (.object "TurnsOneWay$Stone"), .arrayOver (.object "TurnsOneWay$Floor"), .arrayOver (.object "TurnsOneWay$Shelf")] [134, 136, 138] = true := by decide +kernel
set_option maxRecDepth 100000 in
theorem ins_0 : ckW (.instantiable "TurnsOneWay$Bodies" 6) 283 = true := by decide +kernel
set_option maxRecDepth 100000 in
theorem ins_1 : ckW (.instantiable "TurnsOneWay$Changes" 3) 265 = true := by decide +kernel
set_option maxRecDepth 100000 in
theorem ins_2 : ckW (.instantiable "TurnsOneWay$Film" 3) 248 = true := by decide +kernel
set_option maxRecDepth 100000 in
theorem ins_3 : ckW (.instantiable "TurnsOneWay$Floor" 11) 349 = true := by decide +kernel
set_option maxRecDepth 100000 in
theorem ins_4 : ckW (.instantiable "TurnsOneWay$Going" 9) 211 = true := by decide +kernel
set_option maxRecDepth 100000 in
theorem ins_5 : ckW (.instantiable "TurnsOneWay$Motion" 17) 140 = true := by decide +kernel
set_option maxRecDepth 100000 in
theorem ins_6 : ckW (.instantiable "TurnsOneWay$Shelf" 4) 388 = true := by decide +kernel
set_option maxRecDepth 100000 in
theorem ins_7 : ckW (.instantiable "TurnsOneWay$Stone" 11) 309 = true := by decide +kernel
set_option maxRecDepth 100000 in
theorem ins_8 : ckW (.instantiable "TurnsOneWay$Tape" 3) 114 = true := by decide +kernel
set_option maxRecDepth 100000 in
theorem ins_9 : ckW (.instantiable "TurnsOneWay" 11) 106 = true := by decide +kernel
set_option maxRecDepth 100000 in
theorem ins_10 : ckW (.instantiable "TurnsOneWayModel" 59) 1025 = true := by decide +kernel
