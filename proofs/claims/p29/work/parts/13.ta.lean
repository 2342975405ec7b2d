-- ===== instructions read off a list of bytes, one behind another
abbrev KI : Type := Nat × Instr × (Nat → Instr) × (Int → Instr)
def opL_0 : List (Nat × KI) := [(1, (0, .aconst_null, fun _ => .nop, fun _ => .nop)), (2, (0, .iconst (-1), fun _ => .nop, fun _ => .nop)), (3, (0, .iconst 0, fun _ => .nop, fun _ => .nop)), (4, (0, .iconst 1, fun _ => .nop, fun _ => .nop)), (5, (0, .iconst 2, fun _ => .nop, fun _ => .nop)), (6, (0, .iconst 3, fun _ => .nop, fun _ => .nop)), (7, (0, .iconst 4, fun _ => .nop, fun _ => .nop)), (8, (0, .iconst 5, fun _ => .nop, fun _ => .nop)), (9, (0, .lconst 0, fun _ => .nop, fun _ => .nop))]
def opL_1 : List (Nat × KI) := [(10, (0, .lconst 1, fun _ => .nop, fun _ => .nop)), (16, (2, .nop, fun _ => .nop, fun x => .bipush x)), (17, (4, .nop, fun _ => .nop, fun x => .sipush x)), (18, (1, .nop, fun x => .ldc x, fun _ => .nop)), (19, (3, .nop, fun x => .ldc_w x, fun _ => .nop)), (20, (3, .nop, fun x => .ldc2_w x, fun _ => .nop)), (21, (1, .nop, fun x => .iload x, fun _ => .nop)), (22, (1, .nop, fun x => .lload x, fun _ => .nop)), (25, (1, .nop, fun x => .aload x, fun _ => .nop))]
def opL_2 : List (Nat × KI) := [(26, (0, .iload_n 0, fun _ => .nop, fun _ => .nop)), (27, (0, .iload_n 1, fun _ => .nop, fun _ => .nop)), (28, (0, .iload_n 2, fun _ => .nop, fun _ => .nop)), (29, (0, .iload_n 3, fun _ => .nop, fun _ => .nop)), (30, (0, .lload_n 0, fun _ => .nop, fun _ => .nop)), (31, (0, .lload_n 1, fun _ => .nop, fun _ => .nop)), (32, (0, .lload_n 2, fun _ => .nop, fun _ => .nop)), (33, (0, .lload_n 3, fun _ => .nop, fun _ => .nop)), (42, (0, .aload_n 0, fun _ => .nop, fun _ => .nop))]
def opL_3 : List (Nat × KI) := [(43, (0, .aload_n 1, fun _ => .nop, fun _ => .nop)), (44, (0, .aload_n 2, fun _ => .nop, fun _ => .nop)), (45, (0, .aload_n 3, fun _ => .nop, fun _ => .nop)), (46, (0, .iaload, fun _ => .nop, fun _ => .nop)), (47, (0, .laload, fun _ => .nop, fun _ => .nop)), (50, (0, .aaload, fun _ => .nop, fun _ => .nop)), (51, (0, .baload, fun _ => .nop, fun _ => .nop)), (53, (0, .saload, fun _ => .nop, fun _ => .nop)), (54, (1, .nop, fun x => .istore x, fun _ => .nop))]
def opL_4 : List (Nat × KI) := [(55, (1, .nop, fun x => .lstore x, fun _ => .nop)), (58, (1, .nop, fun x => .astore x, fun _ => .nop)), (60, (0, .istore_n 1, fun _ => .nop, fun _ => .nop)), (61, (0, .istore_n 2, fun _ => .nop, fun _ => .nop)), (62, (0, .istore_n 3, fun _ => .nop, fun _ => .nop)), (76, (0, .astore_n 1, fun _ => .nop, fun _ => .nop)), (77, (0, .astore_n 2, fun _ => .nop, fun _ => .nop)), (78, (0, .astore_n 3, fun _ => .nop, fun _ => .nop)), (79, (0, .iastore, fun _ => .nop, fun _ => .nop))]
def opL_5 : List (Nat × KI) := [(80, (0, .lastore, fun _ => .nop, fun _ => .nop)), (83, (0, .aastore, fun _ => .nop, fun _ => .nop)), (84, (0, .bastore, fun _ => .nop, fun _ => .nop)), (86, (0, .sastore, fun _ => .nop, fun _ => .nop)), (87, (0, .pop, fun _ => .nop, fun _ => .nop)), (88, (0, .pop2, fun _ => .nop, fun _ => .nop)), (89, (0, .dup, fun _ => .nop, fun _ => .nop)), (92, (0, .dup2, fun _ => .nop, fun _ => .nop)), (96, (0, .iadd, fun _ => .nop, fun _ => .nop))]
def opL_6 : List (Nat × KI) := [(97, (0, .ladd, fun _ => .nop, fun _ => .nop)), (100, (0, .isub, fun _ => .nop, fun _ => .nop)), (104, (0, .imul, fun _ => .nop, fun _ => .nop)), (105, (0, .lmul, fun _ => .nop, fun _ => .nop)), (108, (0, .idiv, fun _ => .nop, fun _ => .nop)), (109, (0, .ldiv, fun _ => .nop, fun _ => .nop)), (112, (0, .irem, fun _ => .nop, fun _ => .nop)), (116, (0, .ineg, fun _ => .nop, fun _ => .nop)), (121, (0, .lshl, fun _ => .nop, fun _ => .nop))]
def opL_7 : List (Nat × KI) := [(122, (0, .ishr, fun _ => .nop, fun _ => .nop)), (124, (0, .iushr, fun _ => .nop, fun _ => .nop)), (126, (0, .iand, fun _ => .nop, fun _ => .nop)), (127, (0, .land, fun _ => .nop, fun _ => .nop)), (128, (0, .ior, fun _ => .nop, fun _ => .nop)), (129, (0, .lor, fun _ => .nop, fun _ => .nop)), (130, (0, .ixor, fun _ => .nop, fun _ => .nop)), (132, (5, .nop, fun _ => .nop, fun _ => .nop)), (133, (0, .i2l, fun _ => .nop, fun _ => .nop))]
def opL_8 : List (Nat × KI) := [(136, (0, .l2i, fun _ => .nop, fun _ => .nop)), (145, (0, .i2b, fun _ => .nop, fun _ => .nop)), (147, (0, .i2s, fun _ => .nop, fun _ => .nop)), (148, (0, .lcmp, fun _ => .nop, fun _ => .nop)), (153, (4, .nop, fun _ => .nop, fun x => .ifCond .eq x)), (154, (4, .nop, fun _ => .nop, fun x => .ifCond .ne x)), (155, (4, .nop, fun _ => .nop, fun x => .ifCond .lt x)), (156, (4, .nop, fun _ => .nop, fun x => .ifCond .ge x)), (157, (4, .nop, fun _ => .nop, fun x => .ifCond .gt x))]
def opL_9 : List (Nat × KI) := [(158, (4, .nop, fun _ => .nop, fun x => .ifCond .le x)), (159, (4, .nop, fun _ => .nop, fun x => .if_icmp .eq x)), (160, (4, .nop, fun _ => .nop, fun x => .if_icmp .ne x)), (161, (4, .nop, fun _ => .nop, fun x => .if_icmp .lt x)), (162, (4, .nop, fun _ => .nop, fun x => .if_icmp .ge x)), (163, (4, .nop, fun _ => .nop, fun x => .if_icmp .gt x)), (164, (4, .nop, fun _ => .nop, fun x => .if_icmp .le x)), (167, (4, .nop, fun _ => .nop, fun x => .goto x)), (172, (0, .ireturn, fun _ => .nop, fun _ => .nop))]
def opL_10 : List (Nat × KI) := [(173, (0, .lreturn, fun _ => .nop, fun _ => .nop)), (176, (0, .areturn, fun _ => .nop, fun _ => .nop)), (177, (0, .return_, fun _ => .nop, fun _ => .nop)), (178, (3, .nop, fun x => .getstatic x, fun _ => .nop)), (180, (3, .nop, fun x => .getfield x, fun _ => .nop)), (181, (3, .nop, fun x => .putfield x, fun _ => .nop)), (182, (3, .nop, fun x => .invokevirtual x, fun _ => .nop)), (183, (3, .nop, fun x => .invokespecial x, fun _ => .nop)), (184, (3, .nop, fun x => .invokestatic x, fun _ => .nop))]
def opL_11 : List (Nat × KI) := [(187, (3, .nop, fun x => .new x, fun _ => .nop)), (189, (3, .nop, fun x => .anewarray x, fun _ => .nop)), (190, (0, .arraylength, fun _ => .nop, fun _ => .nop)), (198, (4, .nop, fun _ => .nop, fun x => .ifnull x)), (199, (4, .nop, fun _ => .nop, fun x => .ifnonnull x))]
def opL : List (Nat × List (Nat × KI)) := [(9, opL_0), (25, opL_1), (42, opL_2), (54, opL_3), (79, opL_4), (96, opL_5), (121, opL_6), (133, opL_7), (157, opL_8), (172, opL_9), (184, opL_10), (199, opL_11)]
noncomputable def lkO1 (l : List (Nat × KI)) (op : Nat) : Option KI := List.rec none (fun p _ r => cond (Nat.beq p.1 op) (some p.2) r) l
theorem lkO1_c (p : Nat) (e : KI) (l : List (Nat × KI)) (op : Nat) : lkO1 ((p, e) :: l) op = if Nat.beq p op = true then some e else lkO1 l op := by
  show cond (Nat.beq p op) (some e) (lkO1 l op) = _
  cases Nat.beq p op <;> rfl
noncomputable def lkO (t : List (Nat × List (Nat × KI))) (op : Nat) : Option KI := List.rec none (fun p _ r => cond (Nat.ble op p.1) (lkO1 p.2 op) r) t
theorem lkO_c (mx : Nat) (l : List (Nat × KI)) (t : List (Nat × List (Nat × KI))) (op : Nat) : lkO ((mx, l) :: t) op = if Nat.ble op mx = true then lkO1 l op else lkO t op := by
  show cond (Nat.ble op mx) (lkO1 l op) (lkO t op) = _
  cases Nat.ble op mx <;> rfl
theorem lkO1_mem {op : Nat} {e : KI} : ∀ {l : List (Nat × KI)}, lkO1 l op = some e → (op, e) ∈ l
  | [], h => by cases h
  | (p, e') :: r, h => by
    rw [lkO1_c] at h
    split at h
    · rename_i q
      cases h
      rw [Nat.eq_of_beq_eq_true q]
      exact List.mem_cons_self
    · exact List.mem_cons_of_mem _ (lkO1_mem h)
theorem lkO_mem {op : Nat} {e : KI} : ∀ {t : List (Nat × List (Nat × KI))}, lkO t op = some e → ∃ c ∈ t, (op, e) ∈ c.2
  | [], h => by cases h
  | (mx, l) :: r, h => by
    rw [lkO_c] at h
    split at h
    · exact ⟨(mx, l), List.mem_cons_self, lkO1_mem h⟩
    · obtain ⟨c, hc, hm⟩ := lkO_mem h
      exact ⟨c, List.mem_cons_of_mem _ hc, hm⟩
def kdD (q : KI) : Decoder Instr := match q.1 with
  | 0 => pure q.2.1
  | 1 => do pure (q.2.2.1 (← Reader.u1))
  | 2 => do pure (q.2.2.2 (← Reader.s1))
  | 3 => do pure (q.2.2.1 (← Reader.u2))
  | 4 => do pure (q.2.2.2 (← Reader.s2))
  | _ => do pure (.iinc (← Reader.u1) (← Reader.s1))
theorem fcN {α : Type} {P : α → Prop} : ∀ x, x ∈ ([] : List α) → P x := fun _ h => absurd h List.not_mem_nil
theorem fcC {α : Type} {P : α → Prop} {a : α} {l : List α} (h : P a) (t : ∀ x, x ∈ l → P x) : ∀ x, x ∈ a :: l → P x := fun x hx => by
  rcases List.mem_cons.mp hx with rfl | h2
  · exact h
  · exact t x h2
set_option maxHeartbeats 4000000 in
theorem ins_f (pc : Nat) : ∃ f : Nat → Decoder Instr, Decoder.instr pc = (Reader.u1 >>= f) ∧ ((∀ q, q ∈ opL_0 → f q.1 = kdD q.2) ∧ (∀ q, q ∈ opL_1 → f q.1 = kdD q.2) ∧ (∀ q, q ∈ opL_2 → f q.1 = kdD q.2) ∧ (∀ q, q ∈ opL_3 → f q.1 = kdD q.2) ∧ (∀ q, q ∈ opL_4 → f q.1 = kdD q.2) ∧ (∀ q, q ∈ opL_5 → f q.1 = kdD q.2) ∧ (∀ q, q ∈ opL_6 → f q.1 = kdD q.2) ∧ (∀ q, q ∈ opL_7 → f q.1 = kdD q.2) ∧ (∀ q, q ∈ opL_8 → f q.1 = kdD q.2) ∧ (∀ q, q ∈ opL_9 → f q.1 = kdD q.2) ∧ (∀ q, q ∈ opL_10 → f q.1 = kdD q.2) ∧ (∀ q, q ∈ opL_11 → f q.1 = kdD q.2)) := by
  refine ⟨_, rfl, ?_, ?_, ?_, ?_, ?_, ?_, ?_, ?_, ?_, ?_, ?_, ?_⟩
  · exact fcC rfl (fcC rfl (fcC rfl (fcC rfl (fcC rfl (fcC rfl (fcC rfl (fcC rfl (fcC rfl (fcN)))))))))
  · exact fcC rfl (fcC rfl (fcC rfl (fcC rfl (fcC rfl (fcC rfl (fcC rfl (fcC rfl (fcC rfl (fcN)))))))))
  · exact fcC rfl (fcC rfl (fcC rfl (fcC rfl (fcC rfl (fcC rfl (fcC rfl (fcC rfl (fcC rfl (fcN)))))))))
  · exact fcC rfl (fcC rfl (fcC rfl (fcC rfl (fcC rfl (fcC rfl (fcC rfl (fcC rfl (fcC rfl (fcN)))))))))
  · exact fcC rfl (fcC rfl (fcC rfl (fcC rfl (fcC rfl (fcC rfl (fcC rfl (fcC rfl (fcC rfl (fcN)))))))))
  · exact fcC rfl (fcC rfl (fcC rfl (fcC rfl (fcC rfl (fcC rfl (fcC rfl (fcC rfl (fcC rfl (fcN)))))))))
  · exact fcC rfl (fcC rfl (fcC rfl (fcC rfl (fcC rfl (fcC rfl (fcC rfl (fcC rfl (fcC rfl (fcN)))))))))
  · exact fcC rfl (fcC rfl (fcC rfl (fcC rfl (fcC rfl (fcC rfl (fcC rfl (fcC rfl (fcC rfl (fcN)))))))))
  · exact fcC rfl (fcC rfl (fcC rfl (fcC rfl (fcC rfl (fcC rfl (fcC rfl (fcC rfl (fcC rfl (fcN)))))))))
  · exact fcC rfl (fcC rfl (fcC rfl (fcC rfl (fcC rfl (fcC rfl (fcC rfl (fcC rfl (fcC rfl (fcN)))))))))
  · exact fcC rfl (fcC rfl (fcC rfl (fcC rfl (fcC rfl (fcC rfl (fcC rfl (fcC rfl (fcC rfl (fcN)))))))))
  · exact fcC rfl (fcC rfl (fcC rfl (fcC rfl (fcC rfl (fcN)))))
section
variable {code : ByteArray} {p p' pc i l : Nat} {b : UInt8}
theorem rd_b {α β : Type} {x : Decoder α} {g : α → Decoder β} {a : α} {p p' : Nat} (h : Reader.runAt x code p = .ok (a, p')) : Reader.runAt (x >>= g) code p = Reader.runAt (g a) code p' := by
  have e : Reader.runAt (x >>= g) code p = (match Reader.runAt x code p with
    | .ok z => Reader.runAt (g z.1) code z.2
    | .error e => .error e) := by
    show Except.bind (Reader.runAt x code p) (fun z => Reader.runAt (g z.1) code z.2) = _
    cases Reader.runAt x code p <;> rfl
  rw [e, h]
theorem u1_run (h : code.data.toList[p]? = some b) : Reader.runAt (Reader.u1 : Decoder Nat) code p = .ok (b.toNat, p + 1) := by
  obtain ⟨h1, h2⟩ := List.getElem?_eq_some_iff.mp h
  have hs : p < code.size := h1
  have h3 : code[p]'hs = b := h2
  show Reader.runAt (dite (p < code.size) (fun h => (do set (p + 1); pure (code[p]'h).toNat : Decoder Nat)) (fun _ => throw (HasTruncated.truncated p))) code p = _
  rw [dif_pos hs, h3]
  rfl
theorem u2_run {b c : UInt8} (h1 : code.data.toList[p]? = some b) (h2 : code.data.toList[p + 1]? = some c) : Reader.runAt (Reader.u2 : Decoder Nat) code p = .ok (b.toNat * 256 + c.toNat, p + 1 + 1) := by
  show Reader.runAt ((Reader.u1 : Decoder Nat) >>= fun hi => (Reader.u1 : Decoder Nat) >>= fun lo => pure (hi * 256 + lo)) code p = _
  rw [rd_b (u1_run h1), rd_b (u1_run h2)]
  rfl
theorem mp_run {α β : Type} {x : Decoder α} {g : α → β} {a : α} (h : Reader.runAt x code p = .ok (a, p')) : Reader.runAt (g <$> x) code p = .ok (g a, p') := by
  have e : Reader.runAt (g <$> x) code p = (match Reader.runAt x code p with
    | .ok z => .ok (g z.1, z.2)
    | .error e => .error e) := by
    show Except.map (fun z => (g z.1, z.2)) (Reader.runAt x code p) = _
    cases Reader.runAt x code p <;> rfl
  rw [e, h]
theorem dr_c {L r : List UInt8} {c : UInt8} {p : Nat} (h : L.drop p = c :: r) : L[p]? = some c ∧ L.drop (p + 1) = r := by
  constructor
  · have := congrArg (fun z => z[0]?) h
    simpa [List.getElem?_drop] using this
  · rw [← List.tail_drop, h]
    rfl
noncomputable def evK (k : KI) (r : List UInt8) : Option (Instr × Nat × List UInt8) := match k.1 with
  | 0 => some (k.2.1, 1, r)
  | 1 => (match r with
    | c :: r => some (k.2.2.1 c.toNat, 2, r)
    | [] => none)
  | 2 => (match r with
    | c :: r => some (k.2.2.2 (Reader.signed 8 c.toNat), 2, r)
    | [] => none)
  | 3 => (match r with
    | c :: e :: r => some (k.2.2.1 (c.toNat * 256 + e.toNat), 3, r)
    | _ => none)
  | 4 => (match r with
    | c :: e :: r => some (k.2.2.2 (Reader.signed 16 (c.toNat * 256 + e.toNat)), 3, r)
    | _ => none)
  | _ => (match r with
    | c :: e :: r => some (.iinc c.toNat (Reader.signed 8 e.toNat), 3, r)
    | _ => none)
theorem ev_ok {k : KI} {r r' : List UInt8} {x : Instr} {l : Nat} (hd : code.data.toList.drop (p + 1) = r) (h : evK k r = some (x, l, r')) : Reader.runAt (kdD k) code (p + 1) = .ok (x, p + l) ∧ code.data.toList.drop (p + l) = r' := by
  obtain ⟨t, i0, g, hI⟩ := k
  match t, h with
  | 0, h =>
    have h : some (i0, 1, r) = some (x, l, r') := h
    cases h
    exact ⟨rfl, hd⟩
  | 1, h =>
    cases r with
    | nil => cases h
    | cons c r2 =>
      have h : some (g c.toNat, 2, r2) = some (x, l, r') := h
      cases h
      obtain ⟨a1, a2⟩ := dr_c hd
      refine ⟨?_, a2⟩
      show Reader.runAt ((Reader.u1 : Decoder Nat) >>= fun y => pure (g y)) code (p + 1) = _
      rw [rd_b (u1_run a1)]
      rfl
  | 2, h =>
    cases r with
    | nil => cases h
    | cons c r2 =>
      have h : some (hI (Reader.signed 8 c.toNat), 2, r2) = some (x, l, r') := h
      cases h
      obtain ⟨a1, a2⟩ := dr_c hd
      refine ⟨?_, a2⟩
      show Reader.runAt ((Reader.signed 8 <$> Reader.u1 : Decoder Int) >>= fun y => pure (hI y)) code (p + 1) = _
      rw [rd_b (mp_run (u1_run a1))]
      rfl
  | 3, h =>
    match r, hd, h with
    | [], hd, h => cases h
    | [c], hd, h => cases h
    | c :: e :: r2, hd, h =>
      have h : some (g (c.toNat * 256 + e.toNat), 3, r2) = some (x, l, r') := h
      cases h
      obtain ⟨a1, a2⟩ := dr_c hd
      obtain ⟨b1, b2⟩ := dr_c a2
      refine ⟨?_, b2⟩
      show Reader.runAt ((Reader.u2 : Decoder Nat) >>= fun y => pure (g y)) code (p + 1) = _
      rw [rd_b (u2_run a1 b1)]
      rfl
  | 4, h =>
    match r, hd, h with
    | [], hd, h => cases h
    | [c], hd, h => cases h
    | c :: e :: r2, hd, h =>
      have h : some (hI (Reader.signed 16 (c.toNat * 256 + e.toNat)), 3, r2) = some (x, l, r') := h
      cases h
      obtain ⟨a1, a2⟩ := dr_c hd
      obtain ⟨b1, b2⟩ := dr_c a2
      refine ⟨?_, b2⟩
      show Reader.runAt ((Reader.signed 16 <$> Reader.u2 : Decoder Int) >>= fun y => pure (hI y)) code (p + 1) = _
      rw [rd_b (mp_run (u2_run a1 b1))]
      rfl
  | n + 5, h =>
    match r, hd, h with
    | [], hd, h => cases h
    | [c], hd, h => cases h
    | c :: e :: r2, hd, h =>
      have h : some (Instr.iinc c.toNat (Reader.signed 8 e.toNat), 3, r2) = some (x, l, r') := h
      cases h
      obtain ⟨a1, a2⟩ := dr_c hd
      obtain ⟨b1, b2⟩ := dr_c a2
      refine ⟨?_, b2⟩
      show Reader.runAt ((Reader.u1 : Decoder Nat) >>= fun y => (Reader.signed 8 <$> Reader.u1 : Decoder Int) >>= fun z => pure (Instr.iinc y z)) code (p + 1) = _
      rw [rd_b (u1_run a1), rd_b (mp_run (u1_run b1))]
      rfl
/-- one instruction, off the bytes from its place on -/
noncomputable def stpB (bs : List UInt8) : Option (Instr × Nat × List UInt8) := match bs with
  | [] => none
  | b :: r => match lkO opL b.toNat with
    | none => none
    | some k => evK k r
theorem stp_ok {bs r : List UInt8} {x : Instr} {l : Nat} (hd : code.data.toList.drop p = bs) (h : stpB bs = some (x, l, r)) : decode code p = .ok (x, l) ∧ code.data.toList.drop (p + l) = r := by
  cases bs with
  | nil => cases h
  | cons b r0 =>
    have h : (match lkO opL b.toNat with
      | none => none
      | some k => evK k r0) = some (x, l, r) := h
    cases ek : lkO opL b.toNat with
    | none =>
      rw [ek] at h
      cases h
    | some k =>
      rw [ek] at h
      have h : evK k r0 = some (x, l, r) := h
      obtain ⟨a1, a2⟩ := dr_c hd
      obtain ⟨e1, e2⟩ := ev_ok a2 h
      refine ⟨?_, e2⟩
      obtain ⟨f, ef, F⟩ := ins_f p
      have fk : f b.toNat = kdD k := by
        obtain ⟨c, hc, hm⟩ := lkO_mem ek
        obtain ⟨F0, F1, F2, F3, F4, F5, F6, F7, F8, F9, F10, F11⟩ := F
        have G : ∀ c, c ∈ opL → ∀ q, q ∈ c.2 → f q.1 = kdD q.2 := fcC F0 (fcC F1 (fcC F2 (fcC F3 (fcC F4 (fcC F5 (fcC F6 (fcC F7 (fcC F8 (fcC F9 (fcC F10 (fcC F11 (fcN))))))))))))
        exact G c hc _ hm
      have e3 : Reader.runAt (Decoder.instr p) code p = .ok (x, p + l) := by
        rw [ef, rd_b (u1_run a1), fk]
        exact e1
      unfold decode
      rw [e3]
      show Except.ok (x, p + l - p) = _
      rw [Nat.add_sub_cancel_left]
/-- a table against the bytes, from place p on -/
noncomputable def walkB (code : ByteArray) (t : List (Nat × Instr × Nat)) : List UInt8 → Nat → Bool := List.rec (fun _ _ => true) (fun e _ ih bs p => Nat.beq e.1 p && (match stpB bs with
  | some z => decide (z.1 = e.2.1) && (Nat.beq z.2.1 e.2.2 && ih z.2.2 (p + e.2.2))
  | none => decide (decode code p = .ok e.2) && ih (bs.drop e.2.2) (p + e.2.2))) t
theorem walk_ok : ∀ (t : List (Nat × Instr × Nat)) (bs : List UInt8) (p : Nat), code.data.toList.drop p = bs → walkB code t bs p = true → ∀ e, e ∈ t → decode code e.1 = .ok e.2
  | [], _, _, _, _ => fcN
  | (q, x, l) :: t, bs, p, hd, h => by
    have h : (Nat.beq q p && (match stpB bs with
      | some z => decide (z.1 = x) && (Nat.beq z.2.1 l && walkB code t z.2.2 (p + l))
      | none => decide (decode code p = .ok (x, l)) && walkB code t (bs.drop l) (p + l))) = true := h
    rw [Bool.and_eq_true] at h
    obtain ⟨h1, h2⟩ := h
    have hq : q = p := Nat.eq_of_beq_eq_true h1
    subst hq
    cases es : stpB bs with
    | none =>
      rw [es] at h2
      have h2 : (decide (decode code q = .ok (x, l)) && walkB code t (bs.drop l) (q + l)) = true := h2
      rw [Bool.and_eq_true] at h2
      exact fcC (of_decide_eq_true h2.1) (walk_ok t _ _ (by rw [← hd, List.drop_drop]) h2.2)
    | some z =>
      obtain ⟨x', l', r⟩ := z
      rw [es] at h2
      have h2 : (decide (x' = x) && (Nat.beq l' l && walkB code t r (q + l))) = true := h2
      rw [Bool.and_eq_true, Bool.and_eq_true] at h2
      obtain ⟨a1, a2, a3⟩ := h2
      have e1 : x' = x := of_decide_eq_true a1
      have e2 : l' = l := Nat.eq_of_beq_eq_true a2
      subst e1
      subst e2
      obtain ⟨d1, d2⟩ := stp_ok hd es
      exact fcC d1 (walk_ok t _ _ d2 a3)
end
