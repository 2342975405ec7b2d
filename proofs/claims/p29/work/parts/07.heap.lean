theorem tyL_lt {t : Nat} (h : t < 7) : ∃ ty, tyL[t]? = some ty := by
  have : t < tyL.length := h
  exact ⟨_, List.getElem?_eq_getElem this⟩
theorem tyL_q {t : Nat} (h : 4 ≤ t ∧ t ≤ 6) : ∃ C, tyL[t]? = some (.object C) := by
  have h4 : t = 4 ∨ t = 5 ∨ t = 6 := by omega
  rcases h4 with rfl | rfl | rfl
  · exact ⟨_, rfl⟩
  · exact ⟨_, rfl⟩
  · exact ⟨_, rfl⟩
theorem okV_fit {N : Nat} {sb : UInt32 → Addr} {ty : Nat} {v : Value} (h : okV ty v = true) {t : FieldType} (h0 : ty = 0 → t = .int) (h1 : ty ≠ 0 → t.isReference = true) : narrow t (cv N sb v) = cv N sb v ∧ fits t (cv N sb v) = true := by
  unfold okV at h
  split at h
  · rw [h0 rfl]
    exact ⟨rfl, rfl⟩
  · have h2 := h1 (by decide)
    cases t <;> first | (cases h2; done) | exact ⟨rfl, rfl⟩
  · have h2 := h1 (by decide)
    cases t <;> first | (cases h2; done) | exact ⟨rfl, rfl⟩
  · cases h
theorem map_getD {N : Nat} {sb : UInt32 → Addr} (fs : List Value) (k : Nat) {v : Value} (h : fs[k]? = some v) : (fs.map (cv N sb))[k]? = some (cv N sb v) := by
  rw [List.getElem?_map, h]
  rfl
theorem dfl_cv (N : Nat) (sb : UInt32 → Addr) : ∀ ci, ci < 11 → (dfl ci).map (cv N sb) = dfl ci := by
  intro ci h
  match ci, h with
  | 0, _ => rfl
  | 1, _ => rfl
  | 2, _ => rfl
  | 3, _ => rfl
  | 4, _ => rfl
  | 5, _ => rfl
  | 6, _ => rfl
  | 7, _ => rfl
  | 8, _ => rfl
  | 9, _ => rfl
  | 10, _ => rfl
  | n + 11, h => exact absurd h (by omega)
section HPS
variable {X : Tok} {G : va_G} {tyC : Nat → ClassId} {sb : UInt32 → Addr} {H0 : Heap} {p : Program} {l : Launch} {e : Env} {R : Room} {s : State} {m : MethodId} {args : Array Value} {below : List Frame} {meth : Method} {c : Code} {Q : State → Prop} {M : MI} {n0 : Nat}
variable {pc pc1 pc' i len : Nat} {L st L' st' : List Value} {h h' : Hp}
theorem n_ldc (hx : p.tables.exec = Jvm.exec) (C0 : CX X G tyC sb H0 p s m args meth c M) (row : ∀ (v : Int32) (H : Heap) (locs : List Loc) (ls : Array Slot) (cells slots : Nat) (rest : List Value), (Jvm.Cond.constant (oN M.1) i v).before args s = true → W p l e R s m args below meth c H locs cells slots Q (F0 m pc1 ls (.int v :: rest)) → W p l e R s m args below meth c H locs cells slots Q (F0 m pc ls rest)) (ho : o_ldc M.1 i L st h pc1 = some (.inl (pc', L', st', h'))) (k : WA sb G tyC H0 p l e R s m args below meth c Q M.2.2.2.1 n0 pc' L' st' h') : WA sb G tyC H0 p l e R s m args below meth c Q M.2.2.2.1 n0 pc L st h := by
  unfold o_ldc at ho
  split at ho
  · rename_i v hv
    obtain ⟨rfl, rfl, rfl, rfl⟩ := nx_inj ho
    intro H locs ls hH hS hL hn
    exact row _ _ _ _ _ _ _ (okT_use C0.2.2.2.2.1 C0.2.2.2.2.2.1 (fK_ok hv)) (k H locs ls hH hS hL hn)
  · cases ho
theorem n_ldl (C0 : CX X G tyC sb H0 p s m args meth c M) (hd : decode M.2.2.1 pc = .ok (.ldc2_w i, 3)) (ho : o_ldl M.1 i L st h (pc + 3) = some (.inl (pc', L', st', h'))) (k : WA sb G tyC H0 p l e R s m args below meth c Q M.2.2.2.1 n0 pc' L' st' h') : WA sb G tyC H0 p l e R s m args below meth c Q M.2.2.2.1 n0 pc L st h := by
  obtain ⟨hx, hb, hml, hown, h5, h6, -⟩ := C0
  unfold o_ldl at ho
  split at ho
  · rename_i v hv
    obtain ⟨rfl, rfl, rfl, rfl⟩ := nx_inj ho
    intro H locs ls hH hS hL hn
    exact lv_ldc2 hx hb hown (okT_use h5 h6 (fL_ok hv)) hd (k H locs ls hH hS hL hn)
  · cases ho
theorem n_gf (C0 : CX X G tyC sb H0 p s m args meth c M) (hd : decode M.2.2.1 pc = .ok (.getfield i, 3)) (ho : o_gf M.1 i L st h (pc + 3) = some (.inl (pc', L', st', h'))) (k : WA sb G tyC H0 p l e R s m args below meth c Q M.2.2.2.1 n0 pc' L' st' h') : WA sb G tyC H0 p l e R s m args below meth c Q M.2.2.2.1 n0 pc L st h := by
  obtain ⟨hx, hb, hml, hown, h5, h6, -, hK, -⟩ := C0
  unfold o_gf at ho
  split at ho
  · rename_i a r
    split at ho
    · rename_i ci kk ty fin hf
      split at ho
      · rename_i c' fs hc
        split at ho
        · rename_i hcc
          subst hcc
          split at ho
          · rename_i v hv
            obtain ⟨rfl, rfl, rfl, rfl⟩ := nx_inj ho
            intro H locs ls hH hS hL hn
            obtain ⟨C, T, N, q1, q2, q3, q4, -⟩ := fF_ok hf
            have hw := cls_ok _ _ _ _ q1
            have hP : va_P G cls [(H0.size + a, .inr (c', fs.map (cv H0.size sb)))] H := va_P1 (hH.2 a _ hc)
            rcases q4 with q4 | q4
            · exact va_get (D := G) (Ts := u_ws C T N) hx hb (fun w hw' => okT_use h5 h6 (hw.1 w hw')) (fun w hw' => hw') hown hK hP 0 rfl q1 kk q2 (okT_use h5 h6 q4) (fun x h9 => by rw [q3] at h9; exact h9) (map_getD fs kk hv) hd (k H locs ls hH hS hL hn)
            · exact va_getN (D := G) (Ts := u_ws C T N) hx hb (fun w hw' => okT_use h5 h6 (hw.1 w hw')) (fun w hw' => hw') hown hK hP 0 rfl q1 kk q2 (okT_use h5 h6 q4) (fun x h9 => by rw [q3] at h9; exact h9) (map_getD fs kk hv) hd (k H locs ls hH hS hL hn)
          · cases ho
        · cases ho
      · cases ho
    · cases ho
  · cases ho
theorem n_pf (C0 : CX X G tyC sb H0 p s m args meth c M) (hd : decode M.2.2.1 pc = .ok (.putfield i, 3)) (ho : o_pf (decide (M.2.1.name = "<init>")) M.1 i L st h (pc + 3) = some (.inl (pc', L', st', h'))) (k : WA sb G tyC H0 p l e R s m args below meth c Q M.2.2.2.1 n0 pc' L' st' h') : WA sb G tyC H0 p l e R s m args below meth c Q M.2.2.2.1 n0 pc L st h := by
  obtain ⟨hx, hb, hml, hown, h5, h6, hini, hK, -⟩ := C0
  unfold o_pf at ho
  split at ho
  · rename_i v a r
    split at ho
    · rename_i ci kk ty fin hf
      split at ho
      · rename_i c' fs hc
        split at ho
        · rename_i hcc
          obtain ⟨rfl, hlen, hok, hfi⟩ := hcc
          obtain ⟨rfl, rfl, rfl, rfl⟩ := nx_inj ho
          intro H locs ls hH hS hL hn
          obtain ⟨C, T, N, q1, q2, q3, q4, q5, q6, q7⟩ := fF_ok hf
          obtain ⟨w1, w2, w3, w4, w5, w6⟩ := cls_ok _ _ _ _ q1
          have hts : ∀ w ∈ u_ws C T N, w.before args s = true := fun w hw' => okT_use h5 h6 (w1 w hw')
          have hap := va_apart (own := oN M.1) (D := G) hts (fun w hw' => hw') (ftC c') w3 w2 hK q1
          obtain ⟨r', h1, cell, g1, g2, g3, g4⟩ := hH.2 a _ hc
          have hr : r' = (C, T, N) := Option.some.inj (h1.symm.trans q1)
          subst hr
          obtain ⟨hSl, hfc, kC, hkC, hkind⟩ := hK.1 c' _ q1
          obtain ⟨cf, kf, fi, f, hi, hsl⟩ := hSl kk q2
          have hlay := hts _ (u_in_lay q2)
          have hst := (u_facts hfc hkC (u_lays hts (fun w hw' => hw') q2) hi).1
          have hd2 := w3 kk q2
          obtain ⟨hnar, hfit⟩ := okV_fit (N := H0.size) (sb := sb) hok (t := ftC c' kk) (fun hz => by
            have e1 := w3 kk q2
            rw [q6 hz] at e1
            exact (Option.some.inj (e1.symm.trans (show parseFieldDescriptor "I" = some .int by decide)))) q7
          have hi2 : s.fieldFound? C (T kk).2.1 (T kk).2.2.1 = some (cf, kf, fi, f) := by rw [← hi, q3]
          have key : ∀ H' : Heap, H'[H0.size + a]? = some (cell.setSlot f.slot (cv H0.size sb v)) → H'.size = H.size → (∀ q, q ≠ H0.size + a → H'[q]? = H[q]?) → W p l e R s m args below meth c H' (locs ++ [⟨H0.size + a, f.slot⟩]) (h.1 - n0) (700 * (h.1 - n0)) Q (F0 m (pc + 3) ls (r.map (cv H0.size sb))) := by
            intro H' e1 e2 e3
            refine k H' _ ls (HR_set hH e2 e3 ?_) (hS.put e2 e3 (Nat.le_add_right _ _)) hL hn
            rw [hsl] at e1
            refine ⟨_, q1, t_OB.to (V := updV (vp_V (fs.map (cv H0.size sb))) kk (cv H0.size sb v)) ⟨_, e1, g2, g3, t_set g4 hap q2 (cv H0.size sb v)⟩ (fun j _ => ?_)⟩
            rw [List.map_set]
            exact vp_updV_set (by rw [List.length_map]; exact hlen) _ j
          have hlt : f.slot < cell.slots.size := by rw [hsl]; exact k2_hasslot (g4 kk q2)
          by_cases hfin : fin = 1
          · have hT : (T kk).2.2.2 = true := by rw [q5, hfin]; rfl
            unfold u_lay at hlay
            rw [if_pos hT] at hlay
            have hini2 : M.2.1.name = "<init>" ∧ c' = M.1 := by
              rcases hfi with z | z
              · rw [hfin] at z; cases z
              · exact ⟨of_decide_eq_true z.1, z.2⟩
            have hcf : m.cls = cf := by
              obtain ⟨_, _, c2, _, _, _, -, -, hf', -, -, -, hown2, -⟩ := Cond.laysFinal_spec hlay
              have e1 : c2 = cf := by have := hi.symm.trans hf'; simp at this; exact this.1.symm
              rw [q3, ← w6, hini2.2] at hown2
              rw [← e1]
              exact Option.some.inj (hown.symm.trans hown2)
            have h6f := u_fits hfc hkC hkind (Or.inr hlay) hi hd2 hnar hfit
            rcases q4 with q4 | q4
            · exact W.putFinK hx hb hown (okT_use h5 h6 q4) hi2 hst hcf (hini hini2.1) (by rw [g2]; exact h6f) g1 g3 hlt rfl rfl hd key
            · exact va_Wputf hx hb hown (okT_use h5 h6 q4) hi2 hst (Or.inr ⟨hcf, hini hini2.1⟩) g1 (by rw [g3]; exact fun q => by cases q) hlt (by rw [g2] at *; exact h6f.1) (by rw [g3, g2]; exact h6f.2) rfl rfl hd (key _ (by simp [Array.getElem?_setIfInBounds, (Array.getElem?_eq_some_iff.mp g1).1]) (by simp) (fun q hq => by simp [Array.getElem?_setIfInBounds, Ne.symm hq]))
          · have hT : (T kk).2.2.2 = false := by rw [q5]; simp [hfin]
            unfold u_lay at hlay
            rw [if_neg (by rw [hT]; decide)] at hlay
            have h6s := u_store hfc hkC hkind hlay hi hd2 hnar hfit
            rcases q4 with q4 | q4
            · exact W.putK hx hb (f := f) ⟨hown, okT_use h5 h6 q4, ⟨_, _, _, hi2⟩, hst⟩ (by rw [g2]; exact h6s) g1 g3 hlt rfl rfl hd key
            · exact va_WputK hx hb (f := f) hown (okT_use h5 h6 q4) hi2 hst (by rw [g2]; exact h6s) g1 g3 hlt rfl rfl hd key
        · cases ho
      · cases ho
    · cases ho
  · cases ho
theorem T_ld {A : Nat → Prop} {cc : ByteArray} {H : Heap} {locs : List Loc} {cells slots : Nat} {ls : Array Slot} {rest : List Value} (hx : p.tables.exec = Jvm.exec) (hb : c.code = cc) {t N : Nat} {xs : Nat → Int32} (hT : va_T .int t N (fun j => .int (xs j)) A s H0) (hS : va_S A H0 H locs) {j : Int32} (hin : ¬ (j < 0 ∨ N ≤ j.toNatClampNeg)) (hd : decode cc pc = .ok (.iaload, 1))
    (kk : W p l e R s m args below meth c H locs cells slots Q (F0 m (pc + 1) ls (.int (xs j.toNatClampNeg) :: rest))) : W p l e R s m args below meth c H locs cells slots Q (F0 m pc ls (.int j :: .ref t :: rest)) := by
  obtain ⟨cell, h1, h2, h3, h4, h5, h6, h7⟩ := hT
  have hlt : j.toNatClampNeg < N := Nat.not_le.mp fun q => hin (Or.inr q)
  exact W.iald (v := .int (xs j.toNatClampNeg)) hx hb (by rw [hS.2.1 t (Array.getElem?_eq_some_iff.mp h1).1 h7]; exact h1) h2 h3 (fun q => hin (q.elim Or.inl fun z => Or.inr (Nat.le_trans h4 z))) (h6 _ hlt) rfl rfl hd kk
theorem T_len {A : Nat → Prop} {cc : ByteArray} {H : Heap} {locs : List Loc} {cells slots : Nat} {ls : Array Slot} {rest : List Value} (hx : p.tables.exec = Jvm.exec) (hb : c.code = cc) {t N : Nat} {xs : Nat → Int32} (hT : va_T .int t N (fun j => .int (xs j)) A s H0) (hS : va_S A H0 H locs) (hd : decode cc pc = .ok (.arraylength, 1))
    (kk : W p l e R s m args below meth c H locs cells slots Q (F0 m (pc + 1) ls (.int (Int32.ofNat N) :: rest))) : W p l e R s m args below meth c H locs cells slots Q (F0 m pc ls (.ref t :: rest)) := by
  obtain ⟨cell, h1, h2, h3, h4, h5, h6, h7⟩ := hT
  exact W.alen (n := Int32.ofNat N) hx hb (by rw [hS.2.1 t (Array.getElem?_eq_some_iff.mp h1).1 h7]; exact h1) h2 h5 rfl rfl hd kk
theorem gs_in {o i : Nat} {t : UInt32} (h : fS o i = some t) : o = 0 ∧ ((i = 22 ∧ t = 1) ∨ (i = 29 ∧ t = 2)) := by
  unfold fS at h
  split at h
  · rename_i h0
    refine ⟨h0, ?_⟩
    split at h
    · rename_i h1
      cases h
      exact Or.inl ⟨h1, rfl⟩
    · split at h
      · rename_i h1
        cases h
        exact Or.inr ⟨h1, rfl⟩
      · cases h
  · cases h
set_option maxRecDepth 100000 in
theorem gs_w1 : ckW (.fieldLink "TurnsOneWay$Bodies" 22 "TurnsOneWay$Bodies" "ABOVE" "[I") 943 = true := by decide +kernel
set_option maxRecDepth 100000 in
theorem gs_w2 : ckW (.fieldLink "TurnsOneWay$Bodies" 29 "TurnsOneWay$Bodies" "OWN" "[I") 948 = true := by decide +kernel
theorem n_gs (C0 : CX X G tyC sb H0 p s m args meth c M) (hd : decode M.2.2.1 pc = .ok (.getstatic i, 3)) (ho : o_gs M.1 i L st h (pc + 3) = some (.inl (pc', L', st', h'))) (k : WA sb G tyC H0 p l e R s m args below meth c Q M.2.2.2.1 n0 pc' L' st' h') : WA sb G tyC H0 p l e R s m args below meth c Q M.2.2.2.1 n0 pc L st h := by
  obtain ⟨hx, hb, hml, hown, h5, h6, -, hK, hX⟩ := C0
  unfold o_gs at ho
  split at ho
  · rename_i t hf
    obtain ⟨rfl, rfl, rfl, rfl⟩ := nx_inj ho
    obtain ⟨h0, h1⟩ := gs_in hf
    intro H locs ls hH hS hL hn
    rw [h0] at hown
    rcases h1 with ⟨rfl, rfl⟩ | ⟨rfl, rfl⟩
    · obtain ⟨cf, kf, fi, f, a, cell, z1, z2, z3, z4, z5, z6, z7, z8⟩ := hX.2 1 (Or.inl rfl)
      exact W.gets hx hb hown (okT_use h5 h6 (ckW_ok gs_w1)) z1 z2 z3 z4 (by rw [hS.2.1 a (Array.getElem?_eq_some_iff.mp z5).1 z8]; exact z5) (fun e => by rw [e] at z6; cases z6) z7 rfl hd (k H locs ls hH hS hL hn)
    · obtain ⟨cf, kf, fi, f, a, cell, z1, z2, z3, z4, z5, z6, z7, z8⟩ := hX.2 2 (Or.inr rfl)
      exact W.gets hx hb hown (okT_use h5 h6 (ckW_ok gs_w2)) z1 z2 z3 z4 (by rw [hS.2.1 a (Array.getElem?_eq_some_iff.mp z5).1 z8]; exact z5) (fun e => by rw [e] at z6; cases z6) z7 rfl hd (k H locs ls hH hS hL hn)
  · cases ho
theorem i_nn {z : Int32} (hz : ¬ z < 0) : z.toInt = (z.toNatClampNeg : Int) := by
  have hz0 : (0 : Int) ≤ z.toInt := by
    have := Int32.not_lt.mp hz
    simpa using Int32.le_iff_toInt_le.mp this
  show z.toInt = ((z.toInt.toNat : Nat) : Int)
  omega
/-- numbers copied from a row to a row -/
theorem W_cp {α : Type} {wr : α → Value} {cc : ByteArray} {H : Heap} {locs : List Loc} {cells slots : Nat} {ls : Array Slot} {rest : List Value} {own : String} (hx : p.tables.exec = Jvm.exec) (hb : c.code = cc) (hml : c.maxLocals = ls.size) (hown : s.vm.findClass own = some m.cls) (hlink : (Cond.methodLink own i arraycopyName).before args s = true) (hnat : (Cond.native arraycopyName).before args s = true) (hstat : (Cond.static arraycopyName).before args s = true) (hini : (Cond.initialized "java/lang/System").before args s = true)
    (hK : va_K G cls (tyV tyC) s) {t : Nat} {ty : FieldType} (hty : tyL[t]? = some ty) (hprim : refKind ty = false) {a b na nb : Nat} {f g : Nat → α} (ha : H[a]? = some (arrV (tyC t) na (fun j => wr (f j)))) (hbb : H[b]? = some (arrV (tyC t) nb (fun j => wr (g j)))) (hfit : ∀ x, fits ty (wr x) = true) (hres : ∀ x, match wr x with | .ref _ => False | _ => True)
    {sp dp n : Int32} (h1 : ¬ sp < 0) (h2 : ¬ dp < 0) (h3 : ¬ n < 0) (h4 : sp.toNatClampNeg + n.toNatClampNeg ≤ na) (h5 : dp.toNatClampNeg + n.toNatClampNeg ≤ nb)
    (hframes : 1 ≤ R.frames) (hlocals : (rest.map fun v => v.category).sum + (nativeFrameWords "java/lang/System" "arraycopy" 5 + 11) ≤ R.locals) (hd : decode cc pc = .ok (.invokestatic i, 3))
    (kk : ∀ (H1 : Heap) (locs1 : List Loc), H1[b]? = some (arrV (tyC t) nb (fun j => wr (va_cpy f g sp.toNatClampNeg dp.toNatClampNeg n.toNatClampNeg j))) → H1.size = H.size → (∀ q : Nat, q ≠ b → H1[q]? = H[q]?) → (∀ q ∈ locs1, q ∈ locs ∨ q.base = b) → W p l e R s m args below meth c H1 locs1 cells slots Q (F0 m (pc + 3) ls rest)) : W p l e R s m args below meth c H locs cells slots Q (F0 m pc ls (.int n :: .int dp :: .ref b :: .int sp :: .ref a :: rest)) := by
  intro T hT X'
  obtain ⟨-, k0, hk0, cm0, hkk0⟩ := (hK.2 t _ (tyV_at hty)).1 na (fun j => wr (f j))
  obtain ⟨-, k1, hk1, cm1, hkk1⟩ := (hK.2 t _ (tyV_at hty)).1 nb (fun j => wr (g j))
  obtain ⟨vm', X2, step⟩ := X'.arraycopy hx hown hlink hnat hstat hini (src := a) (dst := b) (cs := arrV (tyC t) na (fun j => wr (f j))) (cd := arrV (tyC t) nb (fun j => wr (g j))) (srcPos := sp) (destPos := dp) (n := n) (by rw [hT]; exact ha) (by rw [hT]; exact hbb)
    (fun _ h => by cases h) (fun _ h => by cases h) (fun h => by cases h) (fun h => by cases h) hk0 hk1 hkk0 hkk1 (by simp [hprim]) h1 h2 h3
    (by rw [i_nn h1, i_nn h3]; rw [arrV_size]; omega)
    (by rw [i_nn h2, i_nn h3]; rw [arrV_size]; omega)
    (fun vm₁ _ j hj => by
      have e : (arrV (tyC t) na (fun j => wr (f j))).slots.getD (sp.toNatClampNeg + j) .null = wr (f (sp.toNatClampNeg + j)) := by
        rw [Array.getD_eq_getD_getElem?, arrV_read _ _ (by omega)]
        rfl
      refine ⟨?_, ?_⟩
      · rw [e]
        exact hfit _
      · rw [e]
        have := hres (f (sp.toNatClampNeg + j))
        revert this
        generalize wr (f (sp.toNatClampNeg + j)) = w
        intro this
        cases w <;> first | exact trivial | exact this.elim)
    (g := F0 m pc ls (.int n :: .int dp :: .ref b :: .int sp :: .ref a :: rest)) rfl (by rw [hml]) (rest := rest) rfl (by rw [hb]; exact hd) hframes (by show 2 * 0 + _ + _ ≤ _; omega)
  have e1 : copied (arrV (tyC t) na (fun j => wr (f j))) (arrV (tyC t) nb (fun j => wr (g j))) sp dp n = arrV (tyC t) nb (fun j => wr (va_cpy f g sp.toNatClampNeg dp.toNatClampNeg n.toNatClampNeg j)) := va_copied wr (tyC t) (tyC t) f g h4
  rw [e1] at X2 step
  have hl : b < H.size := (Array.getElem?_eq_some_iff.mp hbb).1
  have hheap : ((T.setVm vm').setCell b (arrV (tyC t) nb (fun j => wr (va_cpy f g sp.toNatClampNeg dp.toNatClampNeg n.toNatClampNeg j)))).heap = H.setIfInBounds b (arrV (tyC t) nb (fun j => wr (va_cpy f g sp.toNatClampNeg dp.toNatClampNeg n.toNatClampNeg j))) := by rw [← hT]; rfl
  obtain ⟨t2, a1, b1⟩ := kk _ _ (by simp [Array.getElem?_setIfInBounds, hl]) (by simp) (fun q hq => by simp [Array.getElem?_setIfInBounds, Ne.symm hq]) (fun q hq => by
      rcases List.mem_append.mp hq with h | h
      · exact Or.inl h
      · obtain ⟨z, -, hz⟩ := List.mem_map.mp h
        rw [← hz]
        exact Or.inr rfl) _ hheap X2
  exact ⟨t2, step t2 a1, b1⟩
theorem n_ial0 (C0 : CX X G tyC sb H0 p s m args meth c M) (hd : decode M.2.2.1 pc = .ok (.iaload, 1)) (ho : o_ial X 0 L st h (pc + 1) = some (.inl (pc', L', st', h'))) (k : WA sb G tyC H0 p l e R s m args below meth c Q M.2.2.2.1 n0 pc' L' st' h') : WA sb G tyC H0 p l e R s m args below meth c Q M.2.2.2.1 n0 pc L st h := by
  obtain ⟨hx, hb, hml, hown, h5, h6, -, hK, hX⟩ := C0
  unfold o_ial at ho
  split at ho
  · rename_i j a r
    split at ho
    · rename_i t' n f hc
      split at ho
      · rename_i hcc
        obtain ⟨rfl, hin⟩ := hcc
        obtain ⟨rfl, rfl, rfl, rfl⟩ := nx_inj ho
        intro H locs ls hH hS hL hn
        have hP : va_P G cls [(H0.size + a, .inl (tyC 0, n, .inl f))] H := va_P1 (hH.2 a _ hc)
        exact va_iald (D := G) hx hb hK hP 0 0 rfl (tyV_at rfl) hin hd (k H locs ls hH hS hL hn)
      · cases ho
    · cases ho
  · rename_i j t r
    split at ho
    · rename_i n f hc
      split at ho
      · rename_i hcc
        obtain ⟨rfl, rfl, rfl, rfl⟩ := nx_inj ho
        intro H locs ls hH hS hL hn
        exact T_ld hx hb (hX.1 _ _ hc) hS hcc.2 hd (k H locs ls hH hS hL hn)
      · cases ho
    · cases ho
  · cases ho
theorem n_ial2 (C0 : CX X G tyC sb H0 p s m args meth c M) (hd : decode M.2.2.1 pc = .ok (.baload, 1)) (ho : o_ial X 2 L st h (pc + 1) = some (.inl (pc', L', st', h'))) (k : WA sb G tyC H0 p l e R s m args below meth c Q M.2.2.2.1 n0 pc' L' st' h') : WA sb G tyC H0 p l e R s m args below meth c Q M.2.2.2.1 n0 pc L st h := by
  obtain ⟨hx, hb, hml, hown, h5, h6, -, hK, hX⟩ := C0
  unfold o_ial at ho
  split at ho
  · rename_i j a r
    split at ho
    · rename_i t' n f hc
      split at ho
      · rename_i hcc
        obtain ⟨rfl, hin⟩ := hcc
        obtain ⟨rfl, rfl, rfl, rfl⟩ := nx_inj ho
        intro H locs ls hH hS hL hn
        have hP : va_P G cls [(H0.size + a, .inl (tyC 2, n, .inl f))] H := va_P1 (hH.2 a _ hc)
        exact va_bald (D := G) hx hb hK hP 0 2 rfl (tyV_at rfl) hin hd (k H locs ls hH hS hL hn)
      · cases ho
    · cases ho
  · rename_i j t r
    split at ho
    · rename_i n f hc
      split at ho
      · rename_i hcc
        exact absurd hcc.1 (by decide)
      · cases ho
    · cases ho
  · cases ho
theorem n_ial3 (C0 : CX X G tyC sb H0 p s m args meth c M) (hd : decode M.2.2.1 pc = .ok (.saload, 1)) (ho : o_ial X 3 L st h (pc + 1) = some (.inl (pc', L', st', h'))) (k : WA sb G tyC H0 p l e R s m args below meth c Q M.2.2.2.1 n0 pc' L' st' h') : WA sb G tyC H0 p l e R s m args below meth c Q M.2.2.2.1 n0 pc L st h := by
  obtain ⟨hx, hb, hml, hown, h5, h6, -, hK, hX⟩ := C0
  unfold o_ial at ho
  split at ho
  · rename_i j a r
    split at ho
    · rename_i t' n f hc
      split at ho
      · rename_i hcc
        obtain ⟨rfl, hin⟩ := hcc
        obtain ⟨rfl, rfl, rfl, rfl⟩ := nx_inj ho
        intro H locs ls hH hS hL hn
        have hP : va_P G cls [(H0.size + a, .inl (tyC 3, n, .inl f))] H := va_P1 (hH.2 a _ hc)
        exact va_sald (D := G) hx hb hK hP 0 3 rfl (tyV_at rfl) hin hd (k H locs ls hH hS hL hn)
      · cases ho
    · cases ho
  · rename_i j t r
    split at ho
    · rename_i n f hc
      split at ho
      · rename_i hcc
        exact absurd hcc.1 (by decide)
      · cases ho
    · cases ho
  · cases ho
theorem n_lal (C0 : CX X G tyC sb H0 p s m args meth c M) (hd : decode M.2.2.1 pc = .ok (.laload, 1)) (ho : o_lal L st h (pc + 1) = some (.inl (pc', L', st', h'))) (k : WA sb G tyC H0 p l e R s m args below meth c Q M.2.2.2.1 n0 pc' L' st' h') : WA sb G tyC H0 p l e R s m args below meth c Q M.2.2.2.1 n0 pc L st h := by
  obtain ⟨hx, hb, hml, hown, h5, h6, -, hK, hX⟩ := C0
  unfold o_lal at ho
  split at ho
  · rename_i j a r
    split at ho
    · rename_i t' n f hc
      split at ho
      · rename_i hcc
        obtain ⟨rfl, hin⟩ := hcc
        obtain ⟨rfl, rfl, rfl, rfl⟩ := nx_inj ho
        intro H locs ls hH hS hL hn
        have hP : va_P G cls [(H0.size + a, .inl (tyC 1, n, .inr (.inl f)))] H := va_P1 (hH.2 a _ hc)
        exact va_lald (D := G) hx hb hK hP 0 1 rfl (tyV_at rfl) hin hd (k H locs ls hH hS hL hn)
      · cases ho
    · cases ho
  · cases ho
theorem n_aal (C0 : CX X G tyC sb H0 p s m args meth c M) (hd : decode M.2.2.1 pc = .ok (.aaload, 1)) (ho : o_aal L st h (pc + 1) = some (.inl (pc', L', st', h'))) (k : WA sb G tyC H0 p l e R s m args below meth c Q M.2.2.2.1 n0 pc' L' st' h') : WA sb G tyC H0 p l e R s m args below meth c Q M.2.2.2.1 n0 pc L st h := by
  obtain ⟨hx, hb, hml, hown, h5, h6, -, hK, hX⟩ := C0
  unfold o_aal at ho
  split at ho
  · rename_i j a r
    split at ho
    · rename_i t' n f hc
      split at ho
      · rename_i hcc
        obtain ⟨ht, hin⟩ := hcc
        obtain ⟨rfl, rfl, rfl, rfl⟩ := nx_inj ho
        intro H locs ls hH hS hL hn
        obtain ⟨C, hC⟩ := tyL_q ht
        have hP : va_P G cls [(H0.size + a, .inl (tyC t', n, .inr (.inr (.inr (.inr fun j => (f j).map fun x => H0.size + x)))))] H := va_P1 (hH.2 a _ hc)
        have k2 := k H locs ls hH hS hL hn
        rw [List.map_cons, cv_rf] at k2
        exact va_aldq (D := G) hx hb hK hP 0 t' rfl (tyV_at hC) hin hd k2
      · cases ho
    · cases ho
  · cases ho
theorem n_ias0 (C0 : CX X G tyC sb H0 p s m args meth c M) (hd : decode M.2.2.1 pc = .ok (.iastore, 1)) (ho : o_ias 0 (fun x => x) L st h (pc + 1) = some (.inl (pc', L', st', h'))) (k : WA sb G tyC H0 p l e R s m args below meth c Q M.2.2.2.1 n0 pc' L' st' h') : WA sb G tyC H0 p l e R s m args below meth c Q M.2.2.2.1 n0 pc L st h := by
  obtain ⟨hx, hb, hml, hown, h5, h6, -, hK, hX⟩ := C0
  unfold o_ias at ho
  split at ho
  · rename_i x j a r
    split at ho
    · rename_i t' n f hc
      split at ho
      · rename_i hcc
        obtain ⟨rfl, hin⟩ := hcc
        obtain ⟨rfl, rfl, rfl, rfl⟩ := nx_inj ho
        intro H locs ls hH hS hL hn
        refine W.iast hx hb (hH.2 a _ hc) ((hK.2 0 _ (tyV_at rfl)).1 n (fun j => .int (f j))) (fun q => by cases q) (by show ¬ (j < 0 ∨ (arrV _ _ _).slots.size ≤ _); rw [arrV_size]; exact hin) rfl rfl hd fun H1 e1 z oq => ?_
        refine k H1 _ ls (HR_set hH z oq ?_) (hS.put z oq (Nat.le_add_right _ _)) hL hn
        show H1[H0.size + a]? = some (vp_cell _ _)
        rw [e1]
        show some ((arrV (tyC 0) n (fun j => .int (f j))).setSlot _ _) = some (arrV (tyC 0) n (fun j => .int (upd f _ _ j)))
        rw [arrV_store]
        congr 2
        funext q
        by_cases hq : q = j.toNatClampNeg
        · subst hq
          simp [updV, upd]
          try rfl
        · simp [updV, upd, hq]
      · cases ho
    · cases ho
  · cases ho
theorem n_ias2 (C0 : CX X G tyC sb H0 p s m args meth c M) (hd : decode M.2.2.1 pc = .ok (.bastore, 1)) (ho : o_ias 2 (fun x => x.toInt8.toInt32) L st h (pc + 1) = some (.inl (pc', L', st', h'))) (k : WA sb G tyC H0 p l e R s m args below meth c Q M.2.2.2.1 n0 pc' L' st' h') : WA sb G tyC H0 p l e R s m args below meth c Q M.2.2.2.1 n0 pc L st h := by
  obtain ⟨hx, hb, hml, hown, h5, h6, -, hK, hX⟩ := C0
  unfold o_ias at ho
  split at ho
  · rename_i x j a r
    split at ho
    · rename_i t' n f hc
      split at ho
      · rename_i hcc
        obtain ⟨rfl, hin⟩ := hcc
        obtain ⟨rfl, rfl, rfl, rfl⟩ := nx_inj ho
        intro H locs ls hH hS hL hn
        refine W.bast hx hb (hH.2 a _ hc) ((hK.2 2 _ (tyV_at rfl)).1 n (fun j => .int (f j))) (fun q => by cases q) (by show ¬ (j < 0 ∨ (arrV _ _ _).slots.size ≤ _); rw [arrV_size]; exact hin) rfl rfl hd fun H1 e1 z oq => ?_
        refine k H1 _ ls (HR_set hH z oq ?_) (hS.put z oq (Nat.le_add_right _ _)) hL hn
        show H1[H0.size + a]? = some (vp_cell _ _)
        rw [e1]
        show some ((arrV (tyC 2) n (fun j => .int (f j))).setSlot _ _) = some (arrV (tyC 2) n (fun j => .int (upd f _ _ j)))
        rw [arrV_store]
        congr 2
        funext q
        by_cases hq : q = j.toNatClampNeg
        · subst hq
          simp [updV, upd]
          try rfl
        · simp [updV, upd, hq]
      · cases ho
    · cases ho
  · cases ho
theorem n_ias3 (C0 : CX X G tyC sb H0 p s m args meth c M) (hd : decode M.2.2.1 pc = .ok (.sastore, 1)) (ho : o_ias 3 (fun x => x.toInt16.toInt32) L st h (pc + 1) = some (.inl (pc', L', st', h'))) (k : WA sb G tyC H0 p l e R s m args below meth c Q M.2.2.2.1 n0 pc' L' st' h') : WA sb G tyC H0 p l e R s m args below meth c Q M.2.2.2.1 n0 pc L st h := by
  obtain ⟨hx, hb, hml, hown, h5, h6, -, hK, hX⟩ := C0
  unfold o_ias at ho
  split at ho
  · rename_i x j a r
    split at ho
    · rename_i t' n f hc
      split at ho
      · rename_i hcc
        obtain ⟨rfl, hin⟩ := hcc
        obtain ⟨rfl, rfl, rfl, rfl⟩ := nx_inj ho
        intro H locs ls hH hS hL hn
        refine W.sast hx hb (hH.2 a _ hc) ((hK.2 3 _ (tyV_at rfl)).1 n (fun j => .int (f j))) (fun q => by cases q) (by show ¬ (j < 0 ∨ (arrV _ _ _).slots.size ≤ _); rw [arrV_size]; exact hin) rfl rfl hd fun H1 e1 z oq => ?_
        refine k H1 _ ls (HR_set hH z oq ?_) (hS.put z oq (Nat.le_add_right _ _)) hL hn
        show H1[H0.size + a]? = some (vp_cell _ _)
        rw [e1]
        show some ((arrV (tyC 3) n (fun j => .int (f j))).setSlot _ _) = some (arrV (tyC 3) n (fun j => .int (upd f _ _ j)))
        rw [arrV_store]
        congr 2
        funext q
        by_cases hq : q = j.toNatClampNeg
        · subst hq
          simp [updV, upd]
          try rfl
        · simp [updV, upd, hq]
      · cases ho
    · cases ho
  · cases ho
theorem n_las (C0 : CX X G tyC sb H0 p s m args meth c M) (hd : decode M.2.2.1 pc = .ok (.lastore, 1)) (ho : o_las L st h (pc + 1) = some (.inl (pc', L', st', h'))) (k : WA sb G tyC H0 p l e R s m args below meth c Q M.2.2.2.1 n0 pc' L' st' h') : WA sb G tyC H0 p l e R s m args below meth c Q M.2.2.2.1 n0 pc L st h := by
  obtain ⟨hx, hb, hml, hown, h5, h6, -, hK, hX⟩ := C0
  unfold o_las at ho
  split at ho
  · rename_i x j a r
    split at ho
    · rename_i t' n f hc
      split at ho
      · rename_i hcc
        obtain ⟨rfl, hin⟩ := hcc
        obtain ⟨rfl, rfl, rfl, rfl⟩ := nx_inj ho
        intro H locs ls hH hS hL hn
        refine W.last hx hb (hH.2 a _ hc) ((hK.2 1 _ (tyV_at rfl)).1 n (fun j => .long (f j))) (fun q => by cases q) (by show ¬ (j < 0 ∨ (arrV _ _ _).slots.size ≤ _); rw [arrV_size]; exact hin) rfl rfl hd fun H1 e1 z oq => ?_
        refine k H1 _ ls (HR_set hH z oq ?_) (hS.put z oq (Nat.le_add_right _ _)) hL hn
        show H1[H0.size + a]? = some (vp_cell _ _)
        rw [e1]
        show some ((arrV (tyC 1) n (fun j => .long (f j))).setSlot _ _) = some (arrV (tyC 1) n (fun j => .long (vp_updL f _ _ j)))
        rw [arrV_store]
        congr 2
        funext q
        by_cases hq : q = j.toNatClampNeg
        · subst hq
          simp [updV, vp_updL]
        · simp [updV, vp_updL, hq]
      · cases ho
    · cases ho
  · cases ho
theorem n_aas (C0 : CX X G tyC sb H0 p s m args meth c M) (hd : decode M.2.2.1 pc = .ok (.aastore, 1)) (ho : o_aas L st h (pc + 1) = some (.inl (pc', L', st', h'))) (k : WA sb G tyC H0 p l e R s m args below meth c Q M.2.2.2.1 n0 pc' L' st' h') : WA sb G tyC H0 p l e R s m args below meth c Q M.2.2.2.1 n0 pc L st h := by
  obtain ⟨hx, hb, hml, hown, h5, h6, -, hK, hX⟩ := C0
  unfold o_aas at ho
  split at ho
  · rename_i v j a r
    split at ho
    · rename_i t' n f hc
      split at ho
      · rename_i ci vs hcv
        split at ho
        · rename_i hcc
          obtain ⟨ht, ht7, hci, hin⟩ := hcc
          obtain ⟨rfl, rfl, rfl, rfl⟩ := nx_inj ho
          intro H locs ls hH hS hL hn
          have hlt : j.toNatClampNeg < n := Nat.not_le.mp fun q => hin (Or.inr q)
          have h0 : ¬ j < 0 := fun q => hin (Or.inl q)
          obtain ⟨r', hr', cellV, g1, g2, g3, -⟩ := hH.2 v _ hcv
          have ht2 : tyL[t']? = some (.object r'.1) := by rw [ht, hr']; rfl
          have hcls := (hK.1 ci r' hr').2
          obtain ⟨kA, comp, k1, k2, k3, -⟩ := (hK.2 t' _ (tyV_at ht2)).2
          have hcomp : comp = G.1 ci := Option.some.inj (k3.symm.trans hcls.1)
          subst hcomp
          obtain ⟨kC, hkC, -⟩ := hcls.2
          refine W.aast hx hb (hH.2 a _ hc) (fun q h => by cases h) (fun h => by cases h) k1 k2 rfl hkC ⟨h0, by show _ < (arrV _ _ _).slots.size; rw [arrV_size]; exact hlt⟩ g1 (fun q h => by rw [g3] at h; cases h) (by rw [g2]; exact hkC) (by rw [g2]; exact va_assign hcls) rfl rfl hd fun H1 e1 z oq => ?_
          refine k H1 _ ls (HR_set hH z oq ?_) (hS.put z oq (Nat.le_add_right _ _)) hL hn
          show H1[H0.size + a]? = some (vp_cell _ _)
          rw [e1]
          show some ((arrV (tyC t') n (fun j => va_rf ((f j).map fun x => H0.size + x))).setSlot _ _) = some (arrV (tyC t') n (fun j => va_rf ((va_up f _ _ j).map fun x => H0.size + x)))
          rw [arrV_store]
          congr 2
          funext q
          by_cases hq : q = j.toNatClampNeg
          · subst hq
            simp [updV, va_up, va_rf]
          · simp [updV, va_up, hq]
        · cases ho
      · cases ho
    · cases ho
  · cases ho
theorem n_len (C0 : CX X G tyC sb H0 p s m args meth c M) (hd : decode M.2.2.1 pc = .ok (.arraylength, 1)) (ho : o_len X L st h (pc + 1) = some (.inl (pc', L', st', h'))) (k : WA sb G tyC H0 p l e R s m args below meth c Q M.2.2.2.1 n0 pc' L' st' h') : WA sb G tyC H0 p l e R s m args below meth c Q M.2.2.2.1 n0 pc L st h := by
  obtain ⟨hx, hb, hml, hown, h5, h6, -, hK, hX⟩ := C0
  unfold o_len at ho
  split at ho
  · rename_i a r
    split at ho
    · rename_i t' n x hc
      split at ho
      · rename_i ht
        obtain ⟨rfl, rfl, rfl, rfl⟩ := nx_inj ho
        intro H locs ls hH hS hL hn
        obtain ⟨ty, hty⟩ := tyL_lt ht
        have hP : va_P G cls [(H0.size + a, .inl (tyC t', n, cA H0.size x))] H := va_P1 (hH.2 a _ hc)
        exact va_alen (D := G) hx hb hK hP 0 t' rfl (tyV_at hty) rfl hd (k H locs ls hH hS hL hn)
      · cases ho
    · cases ho
  · rename_i t r
    split at ho
    · rename_i n f hc
      obtain ⟨rfl, rfl, rfl, rfl⟩ := nx_inj ho
      intro H locs ls hH hS hL hn
      exact T_len hx hb (hX.1 _ _ hc) hS hd (k H locs ls hH hS hL hn)
    · cases ho
  · cases ho
theorem n_new (C0 : CX X G tyC sb H0 p s m args meth c M) (hd : decode M.2.2.1 pc = .ok (.new i, 3)) (ho : o_new M.1 i L st h (pc + 3) = some (.inl (pc', L', st', h'))) (hr1 : h'.1 - n0 ≤ R.cells) (hr2 : 700 * (h'.1 - n0) ≤ R.slots) (k : WA sb G tyC H0 p l e R s m args below meth c Q M.2.2.2.1 n0 pc' L' st' h') : WA sb G tyC H0 p l e R s m args below meth c Q M.2.2.2.1 n0 pc L st h := by
  obtain ⟨hx, hb, hml, hown, h5, h6, -, hK, hX⟩ := C0
  unfold o_new at ho
  split at ho
  · rename_i ci hf
    split at ho
    · rename_i hci
      obtain ⟨rfl, rfl, rfl, rfl⟩ := nx_inj ho
      intro H locs ls hH hS hL hn
      obtain ⟨C, T, N, q1, q2, q3, q4⟩ := fN_ok hf
      obtain ⟨w1, w2, w3, w4, w5, w6⟩ := cls_ok _ _ _ _ q1
      have hts : ∀ w ∈ u_ws C T N, w.before args s = true := fun w hw' => okT_use h5 h6 (w1 w hw')
      have hKn := hK.1 ci _ q1
      have hc1 : (nE h (.inr (ci, dfl ci))).1 = h.1 + 1 := rfl
      rw [hc1] at hr1 hr2
      refine W.newcK hx hb hown (okT_use h5 h6 q2) (okT_use h5 h6 q3) (okT_use h5 h6 q4) rfl hd (by omega) (by omega) hKn.2.1 rfl fun H1 kC hkC e1 z1 o1 => ?_
      refine W.widen (k := (nE h (.inr (ci, dfl ci))).1 - n0) (n := 700 * ((nE h (.inr (ci, dfl ci))).1 - n0)) (by rw [hc1]; omega) (by rw [hc1]; omega) ?_
      rw [show Value.ref H.size = cv H0.size sb (.ref h.1) by rw [hH.1]; rfl]
      refine k H1 locs ls (HR_push hH z1 o1 ?_) ⟨Nat.le_trans hS.1 (by omega), fun x h1 h2 => (o1 x (Nat.lt_of_lt_of_le h1 hS.1)).trans (hS.2.1 x h1 h2), hS.2.2⟩ hL (by rw [hc1]; omega)
      refine ⟨_, q1, (u_born (ftC ci) hts (fun w hw' => hw') hKn hkC e1 w3).to fun j hj => ?_⟩
      rw [dfl_cv _ _ _ hci]
      exact w4 j hj
    · cases ho
  · cases ho
theorem n_nwa {at' : ArrayType} (C0 : CX X G tyC sb H0 p s m args meth c M) (hd : decode M.2.2.1 pc = .ok (.newarray at', 2)) (ho : o_nwa at' L st h (pc + 2) = some (.inl (pc', L', st', h'))) (hr1 : h'.1 - n0 ≤ R.cells) (hr2 : 700 * (h'.1 - n0) ≤ R.slots) (k : WA sb G tyC H0 p l e R s m args below meth c Q M.2.2.2.1 n0 pc' L' st' h') : WA sb G tyC H0 p l e R s m args below meth c Q M.2.2.2.1 n0 pc L st h := by
  obtain ⟨hx, hb, hml, hown, h5, h6, -, hK, hX⟩ := C0
  unfold o_nwa at ho
  split at ho
  · rename_i n r
    split at ho
    · rename_i t a hf
      split at ho
      · cases ho
      · rename_i hcc
        obtain ⟨rfl, rfl, rfl, rfl⟩ := nx_inj ho
        intro H locs ls hH hS hL hn
        have hn0 : ¬ n < 0 := fun q => hcc (Or.inl q)
        have hn7 : n.toNatClampNeg ≤ 700 := Nat.not_lt.mp fun q => hcc (Or.inr q)
        have hc1 : (nE h (.inl (t, n.toNatClampNeg, a))).1 = h.1 + 1 := rfl
        rw [hc1] at hr1 hr2
        have hac : ∀ w ∈ ([.arrayClass .int, .arrayClass .long, .arrayClass .byte, .arrayClass .short] : List Cond), w.before args s = true := fun w hw => okT_use h5 h6 (ckWs_ok ac_all w hw)
        have key : ∀ (ty : FieldType), tyL[t]? = some ty → (∀ kA, vp_cell kA (n.toNatClampNeg, cA H0.size a) = arrV kA n.toNatClampNeg (fun _ => defaultValue ty)) → newarray.typeOf at' = ty → (Cond.arrayClass (newarray.typeOf at')).before args s = true → componentBytes ty ≤ 8 → ("[" ++ (newarray.typeOf at').toString) = "[" ++ ty.toString → va_RA s (tyC t) ty = (s.vm.findClass ("[" ++ ty.toString) = some (tyC t)) → W p l e R s m args below meth c H locs (h.1 - n0) (700 * (h.1 - n0)) Q (F0 m pc ls (List.map (cv H0.size sb) (.int n :: r))) := by
          intro ty hty hcell hat hac2 hcb hstr hra
          subst hat
          refine va_newaK hx hb hac2 rfl hd rfl hn0 rfl ?_ (by omega) (by omega) rfl fun H1 kA e1 z1 o1 hAr hNm => ?_
          · exact Nat.le_trans (Nat.mul_le_mul hn7 hcb) (by decide)
          · have hcA : kA = tyC t := by
              have h9 := (hK.2 t _ (tyV_at hty)).2
              rw [hra] at h9
              exact Option.some.inj (hNm.symm.trans h9)
            subst hcA
            refine W.widen (k := (nE h (.inl (t, n.toNatClampNeg, a))).1 - n0) (n := 700 * ((nE h (.inl (t, n.toNatClampNeg, a))).1 - n0)) (by rw [hc1]; omega) (by rw [hc1]; omega) ?_
            show W _ _ _ _ _ _ _ _ _ _ _ _ _ _ _ (F0 m (pc + 2) ls (Value.ref H.size :: r.map (cv H0.size sb)))
            rw [show Value.ref H.size = cv H0.size sb (.ref h.1) by rw [hH.1]; rfl]
            refine k H1 locs ls (HR_push hH z1 o1 ?_) ⟨Nat.le_trans hS.1 (by omega), fun x h1 h2 => (o1 x (Nat.lt_of_lt_of_le h1 hS.1)).trans (hS.2.1 x h1 h2), hS.2.2⟩ hL (by rw [hc1]; omega)
            show H1[H.size]? = some (vp_cell (tyC t) (n.toNatClampNeg, cA H0.size a))
            rw [hcell]
            exact e1
        unfold nwA at hf
        split at hf
        · cases hf; exact key .int rfl (fun _ => rfl) rfl (hac _ (by simp [newarray.typeOf])) (by decide) rfl rfl
        · cases hf; exact key .long rfl (fun _ => rfl) rfl (hac _ (by simp [newarray.typeOf])) (by decide) rfl rfl
        · cases hf; exact key .byte rfl (fun _ => rfl) rfl (hac _ (by simp [newarray.typeOf])) (by decide) rfl rfl
        · cases hf; exact key .short rfl (fun _ => rfl) rfl (hac _ (by simp [newarray.typeOf])) (by decide) rfl rfl
        · cases hf
    · cases ho
  · cases ho
theorem n_anw (C0 : CX X G tyC sb H0 p s m args meth c M) (hd : decode M.2.2.1 pc = .ok (.anewarray i, 3)) (ho : o_anw M.1 i L st h (pc + 3) = some (.inl (pc', L', st', h'))) (hr1 : h'.1 - n0 ≤ R.cells) (hr2 : 700 * (h'.1 - n0) ≤ R.slots) (k : WA sb G tyC H0 p l e R s m args below meth c Q M.2.2.2.1 n0 pc' L' st' h') : WA sb G tyC H0 p l e R s m args below meth c Q M.2.2.2.1 n0 pc L st h := by
  obtain ⟨hx, hb, hml, hown, h5, h6, -, hK, hX⟩ := C0
  unfold o_anw at ho
  split at ho
  · rename_i n r
    split at ho
    · rename_i t hf
      split at ho
      · cases ho
      · rename_i hcc
        obtain ⟨rfl, rfl, rfl, rfl⟩ := nx_inj ho
        intro H locs ls hH hS hL hn
        have hn0 : ¬ n < 0 := fun q => hcc (Or.inl q)
        have hn7 : n.toNatClampNeg ≤ 700 := Nat.not_lt.mp fun q => hcc (Or.inr (Or.inl q))
        obtain ⟨C, hC, w1, w2⟩ := fA_ok hf
        generalize he : (.inl (t, n.toNatClampNeg, .inr (.inr (.inr (.inr fun _ => none)))) : va_E) = e0 at k hr1 hr2
        have hc1 : (nE h e0).1 = h.1 + 1 := rfl
        rw [hc1] at hr1 hr2
        refine W.anew hx hb hown (okT_use h5 h6 w1) (okT_use h5 h6 w2) rfl hd rfl hn0 (by omega) (by omega) (by omega) fun cA kA comp f1 f2 f3 f4 => ?_
        have hcA : cA = tyC t := by
          obtain ⟨_, _, _, _, _, h9⟩ := (hK.2 t _ (tyV_at hC)).2
          exact Option.some.inj (f1.symm.trans h9)
        subst hcA
        generalize hH1 : H.push ({ cls := tyC t, slots := Array.replicate n.toNatClampNeg .null, vm := .none } : Cell) = H1
        have z1 : H1.size = H.size + 1 := by rw [← hH1, Array.size_push]
        have e1 : H1[H.size]? = some (arrV (tyC t) n.toNatClampNeg (fun _ => .null)) := by rw [← hH1, Array.getElem?_push_size, ← arrV_new]
        have o1 : ∀ q : Nat, q < H.size → H1[q]? = H[q]? := fun q hq => by rw [← hH1, Array.getElem?_push, if_neg (Nat.ne_of_lt hq)]
        refine W.widen (k := (nE h e0).1 - n0) (n := 700 * ((nE h e0).1 - n0)) (by rw [hc1]; omega) (by rw [hc1]; omega) ?_
        show W _ _ _ _ _ _ _ _ _ _ _ _ _ _ _ (F0 m (pc + 3) ls (Value.ref H.size :: r.map (cv H0.size sb)))
        rw [show Value.ref H.size = cv H0.size sb (.ref h.1) by rw [hH.1]; rfl]
        refine k H1 locs ls (HR_push hH z1 o1 ?_) ⟨Nat.le_trans hS.1 (by omega), fun x h1 h2 => (o1 x (Nat.lt_of_lt_of_le h1 hS.1)).trans (hS.2.1 x h1 h2), hS.2.2⟩ hL (by rw [hc1]; omega)
        subst he
        exact e1
    · cases ho
  · cases ho
theorem n_obj (C0 : CX X G tyC sb H0 p s m args meth c M) {d a : Nat} {ci n : Nat} {M' : MI} {rest : List Value} (hd : decode M.2.2.1 pc = .ok (.invokespecial i, 3)) (hq : fC M.1 i = some (3, ci, n, M')) (hdp : 0 < d) (hfr : d ≤ R.frames) (hlo : 64 * d ≤ R.locals) (hr : (rest.map fun v => v.category).sum ≤ 8) (k : WA sb G tyC H0 p l e R s m args below meth c Q M.2.2.2.1 n0 (pc + 3) L rest h) : WA sb G tyC H0 p l e R s m args below meth c Q M.2.2.2.1 n0 pc L (.ref a :: rest) h := by
  obtain ⟨hx, hb, hml, hown, h5, h6, -, hK, hX⟩ := C0
  intro H locs ls hH hS hL hn
  have hw : ∀ w ∈ callWs M.1 i (3, ci, n, M'), w.before args s = true := fun w hw' => okT_use h5 h6 ((fC_ok hq).1 w hw')
  refine W.objInit hx hb hown (hw _ (by simp [callWs])) (hw _ (by simp [callWs])) (hw _ (by simp [callWs])) rfl (by rw [hml]; exact hL.1) rfl hd (by omega) ?_ (k H locs ls hH hS hL hn)
  rw [cv_cats]
  show 2 * 0 + _ + 12 ≤ _
  omega
theorem n_math {d : Nat} {rest st0 : List Value} {v : Value} (row : ∀ (H : Heap) (locs : List Loc) (ls : Array Slot), ls.size = M.2.2.2.1 → n0 ≤ h.1 → W p l e R s m args below meth c H locs (h.1 - n0) (700 * (h.1 - n0)) Q (F0 m (pc + 3) ls (cv H0.size sb v :: rest.map (cv H0.size sb))) → W p l e R s m args below meth c H locs (h.1 - n0) (700 * (h.1 - n0)) Q (F0 m pc ls (st0.map (cv H0.size sb)))) (ho : o_math d pc L rest h v = some (.inl (pc', L', st', h'))) (k : WA sb G tyC H0 p l e R s m args below meth c Q M.2.2.2.1 n0 pc' L' st' h') : WA sb G tyC H0 p l e R s m args below meth c Q M.2.2.2.1 n0 pc L st0 h := by
  unfold o_math at ho
  split at ho
  · obtain ⟨rfl, rfl, rfl, rfl⟩ := nx_inj ho
    intro H locs ls hH hS hL hn
    exact row _ _ _ hL.1 hn (k H locs ls hH hS hL hn)
  · cases ho
theorem n_cp {ci n d : Nat} {M1 : MI} (C0 : CX X G tyC sb H0 p s m args meth c M) (hd : decode M.2.2.1 pc = .ok (.invokestatic i, 3)) (hf : fC M.1 i = some (10, ci, n, M1)) (hfr : d ≤ R.frames) (hlo : 64 * d ≤ R.locals) (ho : o_cp d pc L st h = some (.inl (pc', L', st', h'))) (k : WA sb G tyC H0 p l e R s m args below meth c Q M.2.2.2.1 n0 pc' L' st' h') : WA sb G tyC H0 p l e R s m args below meth c Q M.2.2.2.1 n0 pc L st h := by
  obtain ⟨hx, hb, hml, hown, h5, h6, -, hK, hX⟩ := C0
  have hw : ∀ w ∈ callWs M.1 i (10, ci, n, M1), w.before args s = true := fun w hw' => okT_use h5 h6 ((fC_ok hf).1 w hw')
  have hnw : nativeFrameWords "java/lang/System" "arraycopy" 5 + 11 ≤ 56 := by decide +kernel
  unfold o_cp at ho
  split at ho
  · rename_i nn j b j2 a rest
    split at ho
    · rename_i na f nb g hca hcb
      split at ho
      · rename_i hcc
        obtain ⟨c1, c2, c3, c4, c5, c6, c7⟩ := hcc
        obtain ⟨rfl, rfl, rfl, rfl⟩ := nx_inj ho
        intro H locs ls hH hS hL hn
        refine W_cp (wr := Value.int) (t := 0) (ty := .int) hx hb (hml.trans hL.1.symm) hown (hw _ (by simp [callWs])) (hw _ (by simp [callWs])) (hw _ (by simp [callWs])) (hw _ (by simp [callWs])) hK rfl rfl (hH.2 a _ hca) (hH.2 b _ hcb) (fun _ => rfl) (fun _ => trivial) c3 c4 c5 c6 c7 (by omega) (by rw [cv_cats]; omega) hd fun H1 locs1 e1 z oq lq => ?_
        refine k H1 locs1 ls (HR_set hH z oq e1) ⟨by rw [z]; exact hS.1, fun q q1 q2 => (oq q (by omega)).trans (hS.2.1 q q1 q2), fun q hq => ?_⟩ hL hn
        rcases lq q hq with h1 | h1
        · exact hS.2.2 q h1
        · rw [h1]; exact Nat.le_add_right _ _
      · cases ho
    · rename_i na f nb g hca hcb
      split at ho
      · rename_i hcc
        obtain ⟨c1, c2, c3, c4, c5, c6, c7⟩ := hcc
        obtain ⟨rfl, rfl, rfl, rfl⟩ := nx_inj ho
        intro H locs ls hH hS hL hn
        refine W_cp (wr := Value.long) (t := 1) (ty := .long) hx hb (hml.trans hL.1.symm) hown (hw _ (by simp [callWs])) (hw _ (by simp [callWs])) (hw _ (by simp [callWs])) (hw _ (by simp [callWs])) hK rfl rfl (hH.2 a _ hca) (hH.2 b _ hcb) (fun _ => rfl) (fun _ => trivial) c3 c4 c5 c6 c7 (by omega) (by rw [cv_cats]; omega) hd fun H1 locs1 e1 z oq lq => ?_
        refine k H1 locs1 ls (HR_set hH z oq e1) ⟨by rw [z]; exact hS.1, fun q q1 q2 => (oq q (by omega)).trans (hS.2.1 q q1 q2), fun q hq => ?_⟩ hL hn
        rcases lq q hq with h1 | h1
        · exact hS.2.2 q h1
        · rw [h1]; exact Nat.le_add_right _ _
      · cases ho
    · cases ho
  · cases ho
end HPS
