def WT : List Cond := lw_tbl.filter goodWord
def PcM (X : Tok) (G : va_G) (tyC : Nat → ClassId) (sb : UInt32 → Addr) (H0 : Heap) (av : List Value) (h : Hp) : Array Value → State → Prop := va_Pc (av.map (cv H0.size sb)) fun U => HR G tyC sb H0.size h U.heap ∧ va_S (fun q : Nat => H0.size ≤ q) H0 U.heap [] ∧ va_K G cls (tyV tyC) U ∧ (∀ w ∈ lw_tbl, nestW w = true → va_Nw w U) ∧ XT X sb H0 U
def QcM (G : va_G) (tyC : Nat → ClassId) (sb : UInt32 → Addr) (H0 : Heap) (v : Option Value) (h : Hp) : Array Value → State → Outcome → State → Prop := fun _ _ oc t => oc = .returned (v.map (cv H0.size sb)) ∧ HR G tyC sb H0.size h t.heap ∧ va_S (fun q : Nat => H0.size ≤ q) H0 t.heap []
theorem nest_warm {w : Cond} (hw : nestW w = true) {s U : State} (hW : s.WarmedH U.vm) (h : va_Nw w s) : va_Nw w U := by
  unfold nestW at hw
  split at hw
  · exact va_Nw.warmF hW h
  · exact va_Nw.warmM hW h
  · exact va_AO.moved hW.alike h
  · cases hw
theorem nest_same {w : Cond} (hw : nestW w = true) {s U : State} (hv : s.vm = U.vm) (h : va_Nw w s) : va_Nw w U := by
  unfold nestW at hw
  split at hw
  · exact va_Nw.same rfl hv h
  · exact va_Nw.same rfl hv h
  · exact va_AO.moved (by rw [hv]; exact Vm.Alike.refl _) h
  · cases hw
theorem PcM_blind {X : Tok} {G : va_G} {tyC : Nat → ClassId} {sb : UInt32 → Addr} {H0 : Heap} {av : List Value} {h : Hp} : FrameBlind (PcM X G tyC sb H0 av h) := by
  intro a U g mk q
  obtain ⟨q0, q1, q2, q3, q4, q5⟩ := q
  exact ⟨q0, q1, q2, va_K.moved (u := U) (U := U.calling g mk a) (Vm.Alike.refl U.vm) q3, fun w hw hn => nest_same (s := U) (U := U.calling g mk a) hn rfl (q4 w hw hn), XT_moved (u := U) (U := U.calling g mk a) (Vm.Alike.refl U.vm) q5⟩
theorem call_inl {M : MI} {av rest : List Value} {q : Nat × List Value × List Value × Hp} (h : o_call M av rest = some (.inl q)) : False := by
  unfold o_call at h
  split at h <;> cases h
theorem call_inr {M M' : MI} {av av' rest rest' : List Value} (h : o_call M av rest = some (.inr (.inl (M', av', rest')))) : M = M' ∧ av = av' ∧ rest = rest' ∧ (exL av).length ≤ M.2.2.2.1 ∧ M.2.2.2.1 ≤ 45 ∧ (rest.map fun v => v.category).sum ≤ 8 := by
  unfold o_call at h
  split at h
  · rename_i hc
    cases h
    exact ⟨rfl, rfl, rfl, hc⟩
  · cases h
theorem call_ret {M : MI} {av rest : List Value} {v : Option Value} (h : o_call M av rest = some (.inr (.inr v))) : False := by
  unfold o_call at h
  split at h <;> cases h
theorem jp_inr {pc : Nat} {off : Int} {L st : List Value} {h : Hp} {v : (MI × List Value × List Value) ⊕ Option Value} (ho : o_jp pc off L st h = some (.inr v)) : False := by
  obtain ⟨_, _, hh⟩ := jp_inj ho
  cases hh
theorem cp_inr {d pc : Nat} {L st : List Value} {h : Hp} {v : (MI × List Value × List Value) ⊕ Option Value} (ho : o_cp d pc L st h = some (.inr v)) : False := by
  unfold o_cp at ho
  repeat' split at ho
  all_goals (cases ho; done)
theorem math_inr {d pc : Nat} {L rest : List Value} {h : Hp} {w : Value} {v : (MI × List Value × List Value) ⊕ Option Value} (ho : o_math d pc L rest h w = some (.inr v)) : False := by
  unfold o_math at ho
  split at ho
  · cases ho
  · cases ho
theorem psh_map (N : Nat) (sb : UInt32 → Addr) (v : Option Value) (rest : List Value) : (v.map (cv N sb)).toList ++ rest.map (cv N sb) = (psh v rest).map (cv N sb) := by
  cases v <;> rfl
theorem stp_inv {X : Tok} {d : Nat} {M : MI} {pc : Nat} {L st : List Value} {h : Hp} {o : Out} (hs : stp X d M pc L st h = some o) : ∃ ins len, decode M.2.2.1 pc = .ok (ins, len) ∧ ex X d M pc ins len L st h = some o := by
  unfold stp at hs
  split at hs
  · rename_i ins len hd
    exact ⟨ins, len, hd, hs⟩
  · cases hs
section WLK
variable {X : Tok} {G : va_G} {tyC : Nat → ClassId} {sb : UInt32 → Addr} {H0 : Heap} {p : Program} {l : Launch} {e : Env} {R : Room} {s : State} {m : MethodId} {args : Array Value} {below : List Frame} {meth : Method} {c : Code} {Q : State → Prop} {M : MI} {n0 : Nat}
variable {pc pc' i len d : Nat} {L st L' st' : List Value} {h h' : Hp}
theorem PcM_of (C0 : CX X G tyC sb H0 p s m args meth c M) {H : Heap} {locs : List Loc} (hH : HR G tyC sb H0.size h H) (hS : va_S (fun q : Nat => H0.size ≤ q) H0 H locs) {av : List Value} : ∀ U : State, U.heap = H → s.WarmedH U.vm → PcM X G tyC sb H0 av h (av.map (cv H0.size sb)).toArray U := by
  intro U hU hW
  obtain ⟨hx, hb, hml, hown, h5, h6, -, hK, hX⟩ := C0
  exact ⟨rfl, by rw [hU]; exact hH, by rw [hU]; exact ⟨hS.1, hS.2.1, fun _ z => by cases z⟩, va_K.moved hW.alike hK, fun w hw hn => nest_warm hn hW (h6 w hw hn), XT_moved hW.alike hX⟩
theorem n_use {H : Heap} {locs : List Loc} {ls : Array Slot} {st0 : List Value} {a : Array Value} {rest : List Value} {v : Option Value} (hr : va_Run p l e R s m args below meth c H locs (h.1 - n0) (700 * (h.1 - n0)) (h'.1 - h.1) (700 * (h'.1 - h.1)) (F0 m pc ls st0) (rest.map (cv H0.size sb)) (QcM G tyC sb H0 v h' a) (fun q => H0.size ≤ q)) (hg : h.1 ≤ h'.1) (hS : va_S (fun q : Nat => H0.size ≤ q) H0 H locs) (hL : LR H0.size sb M.2.2.2.1 ls L) (hn : n0 ≤ h.1) (k : WA sb G tyC H0 p l e R s m args below meth c Q M.2.2.2.1 n0 (pc + 3) L (psh v rest) h') : W p l e R s m args below meth c H locs (h.1 - n0) (700 * (h.1 - n0)) Q (F0 m pc ls st0) := by
  intro T hT X'
  obtain ⟨v', st₀, t, T', L2, h0, X2, hL2, e1, e2, ⟨hv, hH', hS'⟩, stp'⟩ := hr T hT X'
  cases hv
  have k2 := k T'.heap (locs ++ L2) ls (by rw [e1]; exact hH') ⟨by rw [e1]; exact hS'.1, fun q h1 h2 => by rw [e1]; exact hS'.2.1 q h1 h2, fun q hq => by
    rcases List.mem_append.mp hq with z | z
    · exact hS.2.2 q z
    · exact hL2 q z⟩ hL (Nat.le_trans hn hg)
  rw [show h'.1 - n0 = (h.1 - n0) + (h'.1 - h.1) by omega, show 700 * (h.1 - n0 + (h'.1 - h.1)) = 700 * (h.1 - n0) + 700 * (h'.1 - h.1) by omega] at k2
  obtain ⟨t2, a1, b1⟩ := k2 T' rfl X2
  refine ⟨t2, stp' t2 ?_, b1⟩
  rw [psh_map]
  exact a1
theorem cb_of (C0 : CX X G tyC sb H0 p s m args meth c M) {M' : MI} {mc ms d' n : Nat} (hM : okMI M') (hcw : codeW M' ∈ lw_tbl) (hini : (Cond.initialized M'.2.1.cls).before args s = true) (hn : (parseMethodDescriptor M'.2.1.desc).map (fun d => d.parameters.length) = some n) (hl : (Cond.methodLink (oN M.1) i M'.2.1).before args s = true) (hfr : d' + 1 ≤ R.frames) (hlo : 64 * (d' + 1) ≤ R.locals) (h45 : M'.2.2.2.1 ≤ 45) :
    CallB R s args (oN M.1) i M'.2.1 M'.2.2.1 M'.2.2.2.1 M'.2.2.2.2 (codeW M' :: WT) { frames := d', cells := mc, slots := ms, locals := 64 * d' } mc ms n := by
  obtain ⟨hx, hb, hml, hown, h5, h6, -⟩ := C0
  have hgw : goodWord (codeW M') = true := rfl
  refine ⟨rfl, rfl, hfr, by show 8 + (M'.2.2.2.1 + 11) + 64 * d' ≤ R.locals; omega, fun w hw a' U hW => ?_, List.mem_cons_self, h5 _ hcw hgw, hini, ⟨hM.2.1, hM.2.2.1⟩, fun sig hs => ?_, hl⟩
  · rcases List.mem_cons.mp hw with rfl | hw
    · exact word_at hW (good_of_word hgw) (h5 _ hcw hgw)
    · obtain ⟨w1, w2⟩ := List.mem_filter.mp hw
      exact word_at hW (good_of_word w2) (h5 _ w1 w2)
  · rw [hs] at hn
    exact (Option.some.inj hn).symm
theorem cn_of (C0 : CX X G tyC sb H0 p s m args meth c M) {M' : MI} {mc ms d' n : Nat} (hM : okMI M') (hcw : codeW M' ∈ lw_tbl) (hini : (Cond.initialized M'.2.1.cls).before args s = true) (hn : (parseMethodDescriptor M'.2.1.desc).map (fun d => d.parameters.length) = some n) (hl : (Cond.methodLinkNest (oN M.1) i M'.2.1 "TurnsOneWay").before args s = true) (hfr : d' + 1 ≤ R.frames) (hlo : 64 * (d' + 1) ≤ R.locals) (h45 : M'.2.2.2.1 ≤ 45) :
    va_CN R s args (oN M.1) i M'.2.1 "TurnsOneWay" M'.2.2.1 M'.2.2.2.1 M'.2.2.2.2 (codeW M' :: WT) { frames := d', cells := mc, slots := ms, locals := 64 * d' } mc ms n := by
  obtain ⟨hx, hb, hml, hown, h5, h6, -⟩ := C0
  have hgw : goodWord (codeW M') = true := rfl
  refine ⟨⟨rfl, rfl, hfr, by show 8 + (M'.2.2.2.1 + 11) + 64 * d' ≤ R.locals; omega, fun w hw a' U hW => ?_, List.mem_cons_self⟩, h5 _ hcw hgw, hini, ⟨hM.2.1, hM.2.2.1⟩, fun sig hs => ?_, hl⟩
  · rcases List.mem_cons.mp hw with rfl | hw
    · exact word_at hW (good_of_word hgw) (h5 _ hcw hgw)
    · obtain ⟨w1, w2⟩ := List.mem_filter.mp hw
      exact word_at hW (good_of_word w2) (h5 _ w1 w2)
  · rw [hs] at hn
    exact (Option.some.inj hn).symm
theorem stk_eq {N : Nat} {sb : UInt32 → Addr} {st rest : List Value} {n : Nat} {a : Nat} (h : st.drop n = .ref a :: rest) : st.map (cv N sb) = ((st.take n).reverse.map (cv N sb)).reverse ++ Value.ref (N + a) :: rest.map (cv N sb) := by
  conv => lhs; rw [← List.take_append_drop n st, h]
  rw [List.map_append, List.map_reverse, List.reverse_reverse]
  rfl
theorem stk_eqS {N : Nat} {sb : UInt32 → Addr} {st : List Value} {n : Nat} : st.map (cv N sb) = ((st.take n).reverse.map (cv N sb)).reverse ++ (st.drop n).map (cv N sb) := by
  conv => lhs; rw [← List.take_append_drop n st]
  rw [List.map_append, List.map_reverse, List.reverse_reverse]
/-- a call -/
theorem snd_call (C0 : CX X G tyC sb H0 p s m args meth c M) {M' : MI} {av rest : List Value} {d' : Nat} {v : Option Value} (hs : stp X (d' + 1) M pc L st h = some (.inr (.inl (M', av, rest)))) (hfr : d' + 1 ≤ R.frames) (hlo : 64 * (d' + 1) ≤ R.locals) (hc1 : h'.1 - n0 ≤ R.cells) (hc2 : 700 * (h'.1 - n0) ≤ R.slots) (hg : h.1 ≤ h'.1)
    (hMet : okMI M' → (exL av).length ≤ M'.2.2.2.1 → Met l M'.2.1 (codeW M' :: WT) { frames := d', cells := h'.1 - h.1, slots := 700 * (h'.1 - h.1), locals := 64 * d' } (PcM X G tyC sb H0 av h) (QcM G tyC sb H0 v h') (h'.1 - h.1) (700 * (h'.1 - h.1)) (fun q => H0.size ≤ q))
    (k : WA sb G tyC H0 p l e R s m args below meth c Q M.2.2.2.1 n0 (pc + 3) L (psh v rest) h') : WA sb G tyC H0 p l e R s m args below meth c Q M.2.2.2.1 n0 pc L st h := by
  obtain ⟨hx, hb, hml, hown, h5, h6, hini, hK, hX⟩ := id C0
  have S : CallFix p m c M.2.2.1 M.2.2.2.1 s args [] (oN M.1) := ⟨hx, hb, hml, hown, fun _ z => by cases z⟩
  replace hs := stp_inv hs
  obtain ⟨ins, len, hd, hs⟩ := hs
  cases ins
  case invokevirtual ix =>
    obtain ⟨rfl, ho⟩ := g1_inj hs
    unfold o_iv at ho
    split at ho
    · rename_i ci n M1 hf
      split at ho
      · rename_i a rest1 hst
        split at ho
        · rename_i c' fs hcell
          split at ho
          · rename_i hcc
            obtain ⟨rfl, hlen⟩ := hcc
            obtain ⟨rfl, rfl, rfl, q1, q2, q3⟩ := call_inr ho
            obtain ⟨hw, hq, hcw⟩ := fC_ok hf
            rcases hq with hq | ⟨hM, hn, hcl, -⟩
            · simp at hq
            have hw2 : ∀ w ∈ callWs M.1 ix (0, c', n, M1), w.before args s = true := fun w z => okT_use h5 h6 (hw w z)
            intro H locs ls hH hS hL hn0
            refine n_use (M := M) (L := L) (rest := rest1) (v := v) (a := ((Value.ref a :: (st.take n).reverse).map (cv H0.size sb)).toArray) ?_ hg hS hL hn0 k
            obtain ⟨r', hr', cellV, g1', g2, g3, -⟩ := hH.2 a _ hcell
            refine va_runV (C := M1.2.1.cls) (b := H0.size + a) (As := (st.take n).reverse.map (cv H0.size sb)) (n := n) S (hMet hM q1) ⟨cb_of C0 hM hcw (hw2 _ (by simp [callWs])) hn (hw2 _ (by simp [callWs])) hfr hlo q2, hw2 _ (by simp [callWs]), hw2 _ (by simp [callWs])⟩ ⟨PcM_blind, ⟨cellV, g1', by rw [g3]; rfl, ?_⟩, PcM_of (av := Value.ref a :: (st.take n).reverse) C0 hH hS⟩ rfl (by rw [List.length_map, List.length_reverse]; exact hlen) hL.1 (stk_eq hst) (lv_room (rest := []) (pc := 0) (m := m) (ls := ls) (by rw [cv_cats]; exact q3)) hd ⟨by omega, by omega⟩
            have h1 := hcl (Or.inl rfl)
            have h2 : cls[c']? = some r' := hr'
            simp only [h2, Option.map_some, Option.some.injEq] at h1
            rw [← h1, g2]
            exact (hK.1 c' r' h2).2.1
          · cases ho
        · cases ho
      · cases ho
    · cases ho
  case invokestatic ix =>
    obtain ⟨rfl, ho⟩ := g1_inj hs
    unfold o_is1 at ho
    split at ho
    · rename_i ci n M1 hf
      split at ho
      · rename_i hlen
        obtain ⟨rfl, rfl, rfl, q1, q2, q3⟩ := call_inr ho
        obtain ⟨hw, hq, hcw⟩ := fC_ok hf
        rcases hq with hq | ⟨hM, hn, hcl, -⟩
        · simp at hq
        have hw2 : ∀ w ∈ callWs M.1 ix (1, ci, n, M1), w.before args s = true := fun w z => okT_use h5 h6 (hw w z)
        intro H locs ls hH hS hL hn0
        refine n_use (M := M) (L := L) (rest := st.drop n) (v := v) (a := ((st.take n).reverse.map (cv H0.size sb)).toArray) ?_ hg hS hL hn0 k
        exact va_runS (As := (st.take n).reverse.map (cv H0.size sb)) (n := n) S (hMet hM q1) ⟨cb_of C0 hM hcw (hw2 _ (by simp [callWs])) hn (hw2 _ (by simp [callWs])) hfr hlo q2, hw2 _ (by simp [callWs])⟩ ⟨PcM_blind, PcM_of C0 hH hS⟩ rfl (by rw [List.length_map, List.length_reverse]; exact hlen) hL.1 stk_eqS (lv_room (rest := []) (pc := 0) (m := m) (ls := ls) (by rw [cv_cats]; exact q3)) hd ⟨by omega, by omega⟩
      · cases ho
    · rename_i ci n M1 hf
      split at ho
      · rename_i hlen
        obtain ⟨rfl, rfl, rfl, q1, q2, q3⟩ := call_inr ho
        obtain ⟨hw, hq, hcw⟩ := fC_ok hf
        rcases hq with hq | ⟨hM, hn, hcl, -⟩
        · simp at hq
        have hw2 : ∀ w ∈ callWs M.1 ix (4, ci, n, M1), w.before args s = true := fun w z => okT_use h5 h6 (hw w z)
        intro H locs ls hH hS hL hn0
        refine n_use (M := M) (L := L) (rest := st.drop n) (v := v) (a := ((st.take n).reverse.map (cv H0.size sb)).toArray) ?_ hg hS hL hn0 k
        exact va_runSN (As := (st.take n).reverse.map (cv H0.size sb)) (n := n) S (hMet hM q1) ⟨cn_of C0 hM hcw (hw2 _ (by simp [callWs])) hn (hw2 _ (by simp [callWs])) hfr hlo q2, hw2 _ (by simp [callWs]), trivial⟩ ⟨PcM_blind, PcM_of C0 hH hS⟩ rfl (by rw [List.length_map, List.length_reverse]; exact hlen) hL.1 stk_eqS (lv_room (rest := []) (pc := 0) (m := m) (ls := ls) (by rw [cv_cats]; exact q3)) hd ⟨by omega, by omega⟩
      · cases ho
    all_goals first
      | (cases ho; done)
      | exact (cp_inr ho).elim
      | (split at ho
         · exact (math_inr ho).elim
         · cases ho)
  case invokespecial ix =>
    obtain ⟨rfl, ho⟩ := g1_inj hs
    unfold o_ip at ho
    split at ho
    · rename_i ci n M1 hf
      split at ho
      · rename_i a rest1 hst
        split at ho
        · rename_i hlen
          obtain ⟨rfl, rfl, rfl, q1, q2, q3⟩ := call_inr ho
          obtain ⟨hw, hq, hcw⟩ := fC_ok hf
          rcases hq with hq | ⟨hM, hn, hcl, hin⟩
          · simp at hq
          have hin2 := hin (Or.inl rfl)
          simp only at hin2
          have hw2 : ∀ w ∈ callWs M.1 ix (2, ci, n, M1), w.before args s = true := fun w z => okT_use h5 h6 (hw w z)
          intro H locs ls hH hS hL hn0
          refine n_use (M := M) (L := L) (rest := rest1) (v := v) (a := ((Value.ref a :: (st.take n).reverse).map (cv H0.size sb)).toArray) ?_ hg hS hL hn0 k
          have hcb := cb_of (mc := h'.1 - h.1) (ms := 700 * (h'.1 - h.1)) (i := ix) C0 hM hcw (hw2 _ (by simp [callWs])) hn (hw2 _ (by simp [callWs])) hfr hlo q2
          rw [hin2.2] at hcb
          exact va_runI (b := H0.size + a) (As := (st.take n).reverse.map (cv H0.size sb)) (n := n) S (hMet hM q1) ⟨hcb, hin2.1, hw2 _ (by simp [callWs])⟩ ⟨PcM_blind, PcM_of (av := Value.ref a :: (st.take n).reverse) C0 hH hS⟩ rfl (by rw [List.length_map, List.length_reverse]; exact hlen) hL.1 (stk_eq hst) (lv_room (rest := []) (pc := 0) (m := m) (ls := ls) (by rw [cv_cats]; exact q3)) hd ⟨by omega, by omega⟩
        · cases ho
      · cases ho
    · rename_i ci n M1 hf
      split at ho
      · rename_i a rest1 hst
        split at ho
        · rename_i hlen
          obtain ⟨rfl, rfl, rfl, q1, q2, q3⟩ := call_inr ho
          obtain ⟨hw, hq, hcw⟩ := fC_ok hf
          rcases hq with hq | ⟨hM, hn, hcl, hin⟩
          · simp at hq
          have hin2 := hin (Or.inr rfl)
          simp only at hin2
          have hw2 : ∀ w ∈ callWs M.1 ix (5, ci, n, M1), w.before args s = true := fun w z => okT_use h5 h6 (hw w z)
          intro H locs ls hH hS hL hn0
          refine n_use (M := M) (L := L) (rest := rest1) (v := v) (a := ((Value.ref a :: (st.take n).reverse).map (cv H0.size sb)).toArray) ?_ hg hS hL hn0 k
          have hcb := cn_of (mc := h'.1 - h.1) (ms := 700 * (h'.1 - h.1)) (i := ix) C0 hM hcw (hw2 _ (by simp [callWs])) hn (hw2 _ (by simp [callWs])) hfr hlo q2
          rw [hin2.2] at hcb
          exact va_runIN (b := H0.size + a) (As := (st.take n).reverse.map (cv H0.size sb)) (n := n) S (hMet hM q1) ⟨hcb, hin2.1, hw2 _ (by simp [callWs])⟩ ⟨PcM_blind, PcM_of (av := Value.ref a :: (st.take n).reverse) C0 hH hS⟩ rfl (by rw [List.length_map, List.length_reverse]; exact hlen) hL.1 (stk_eq hst) (lv_room (rest := []) (pc := 0) (m := m) (ls := ls) (by rw [cv_cats]; exact q3)) hd ⟨by omega, by omega⟩
        · cases ho
      · cases ho
    · split at ho
      · split at ho
        · cases ho
        · cases ho
      · cases ho
    · cases ho
  all_goals exfalso
  all_goals first
    | (obtain ⟨_, hq⟩ := kn_ex rfl hs; cases hq; done)
    | (obtain ⟨_, hq⟩ := kr_ex rfl hs; cases hq; done)
/-- a step that is no call and no end -/
theorem snd_next (C0 : CX X G tyC sb H0 p s m args meth c M) (hs : stp X d M pc L st h = some (.inl (pc', L', st', h'))) (hfr : d ≤ R.frames) (hlo : 64 * d ≤ R.locals) (hc1 : h'.1 - n0 ≤ R.cells) (hc2 : 700 * (h'.1 - n0) ≤ R.slots) (k : WA sb G tyC H0 p l e R s m args below meth c Q M.2.2.2.1 n0 pc' L' st' h') : WA sb G tyC H0 p l e R s m args below meth c Q M.2.2.2.1 n0 pc L st h := by
  obtain ⟨hx, hb, hml, hown, h5, h6, hini, hK, hX⟩ := id C0
  replace hs := stp_inv hs
  obtain ⟨ins, len, hd, hs⟩ := hs
  cases ins
  case iload_n kq =>
    obtain ⟨rfl, ho⟩ := g1_inj hs
    exact n_il (fun x H locs ls cells slots rest hl kk => lv_iload_n hx hb hd rfl hl kk) ho k
  case iload iq =>
    obtain ⟨rfl, ho⟩ := g1_inj hs
    exact n_il (fun x H locs ls cells slots rest hl kk => lv_iload hx hb hd hl kk) ho k
  case lload_n kq =>
    obtain ⟨rfl, ho⟩ := g1_inj hs
    exact n_ll (fun x H locs ls cells slots rest hl kk => lv_lload_n hx hb hd rfl hl kk) ho k
  case lload iq =>
    obtain ⟨rfl, ho⟩ := g1_inj hs
    exact n_ll (fun x H locs ls cells slots rest hl kk => lv_lload hx hb hd hl kk) ho k
  case aload_n kq =>
    obtain ⟨rfl, ho⟩ := g1_inj hs
    exact n_al (fun x H locs ls cells slots rest hl kk => lv_aload_n hx hb hd rfl hl kk) (fun H locs ls cells slots rest hl kk => lv_aload_nN hx hb hd rfl hl kk) ho k
  case aload iq =>
    obtain ⟨rfl, ho⟩ := g1_inj hs
    exact n_al (fun x H locs ls cells slots rest hl kk => lv_aload hx hb hd hl kk) (fun H locs ls cells slots rest hl kk => lv_aloadN hx hb hd hl kk) ho k
  case istore_n kq =>
    obtain ⟨rfl, ho⟩ := g1_inj hs
    exact n_is (fun x H locs ls cells slots rest lv lv' hl hi he kk => lv_istore_n hx hb hd rfl hl hi he kk) ho k
  case istore iq =>
    obtain ⟨rfl, ho⟩ := g1_inj hs
    exact n_is (fun x H locs ls cells slots rest lv lv' hl hi he kk => lv_istore hx hb hd hl hi he kk) ho k
  case lstore_n kq =>
    obtain ⟨rfl, ho⟩ := g1_inj hs
    exact n_ls (fun x H locs ls cells slots rest lv lv' hl hi he kk => lv_lstore_n hx hb hd rfl hl hi he kk) ho k
  case lstore iq =>
    obtain ⟨rfl, ho⟩ := g1_inj hs
    exact n_ls (fun x H locs ls cells slots rest lv lv' hl hi he kk => lv_lstore hx hb hd hl hi he kk) ho k
  case astore_n kq =>
    obtain ⟨rfl, ho⟩ := g1_inj hs
    exact n_as (fun x H locs ls cells slots rest lv lv' hl hi he kk => lv_astore_n hx hb hd rfl hl hi he kk) (fun H locs ls cells slots rest lv lv' hl hi he kk => lv_astore_nN hx hb hd rfl hl hi he kk) ho k
  case astore iq =>
    obtain ⟨rfl, ho⟩ := g1_inj hs
    exact n_as (fun x H locs ls cells slots rest lv lv' hl hi he kk => lv_astore hx hb hd hl hi he kk) (fun H locs ls cells slots rest lv lv' hl hi he kk => lv_astoreN hx hb hd hl hi he kk) ho k
  case iinc iq nq =>
    obtain ⟨rfl, ho⟩ := g1_inj hs
    exact n_inc hx hb hd ho k
  case iconst nq =>
    obtain ⟨rfl, ho⟩ := g1_inj hs
    exact n_push (fun H locs ls cells slots rest kk => lv_iconst hx hb hd rfl kk) ho k
  case bipush nq =>
    obtain ⟨rfl, ho⟩ := g1_inj hs
    exact n_push (fun H locs ls cells slots rest kk => lv_bipush hx hb hd rfl kk) ho k
  case sipush nq =>
    obtain ⟨rfl, ho⟩ := g1_inj hs
    exact n_push (fun H locs ls cells slots rest kk => lv_sipush hx hb hd rfl kk) ho k
  case lconst nq =>
    obtain ⟨rfl, ho⟩ := g1_inj hs
    exact n_push (fun H locs ls cells slots rest kk => lv_lconst hx hb hd rfl kk) ho k
  case aconst_null =>
    obtain ⟨rfl, ho⟩ := g1_inj hs
    exact n_push (fun H locs ls cells slots rest kk => lv_null hx hb hd kk) ho k
  case ldc iq =>
    obtain ⟨rfl, ho⟩ := g1_inj hs
    exact n_ldc hx C0 (fun v H locs ls cells slots rest hc kk => lv_ldc hx hb hown hc hd kk) ho k
  case ldc_w iq =>
    obtain ⟨rfl, ho⟩ := g1_inj hs
    exact n_ldc hx C0 (fun v H locs ls cells slots rest hc kk => lv_ldcw hx hb hown hc hd kk) ho k
  case ldc2_w iq =>
    obtain ⟨rfl, ho⟩ := g1_inj hs
    exact n_ldl C0 hd ho k
  case iadd =>
    obtain ⟨rfl, ho⟩ := g1_inj hs
    exact n_ii (fun x y H locs ls cells slots rest kk => lv_iadd hx hb hd kk) ho k
  case isub =>
    obtain ⟨rfl, ho⟩ := g1_inj hs
    exact n_ii (fun x y H locs ls cells slots rest kk => lv_isub hx hb hd kk) ho k
  case imul =>
    obtain ⟨rfl, ho⟩ := g1_inj hs
    exact n_ii (fun x y H locs ls cells slots rest kk => lv_imul hx hb hd kk) ho k
  case iand =>
    obtain ⟨rfl, ho⟩ := g1_inj hs
    exact n_ii (fun x y H locs ls cells slots rest kk => lv_iand hx hb hd kk) ho k
  case ior =>
    obtain ⟨rfl, ho⟩ := g1_inj hs
    exact n_ii (fun x y H locs ls cells slots rest kk => lv_ior hx hb hd kk) ho k
  case pop2 =>
    obtain ⟨rfl, ho⟩ := g1_inj hs
    exact n_pop2 hx hb hd ho k
  case getstatic iq =>
    obtain ⟨rfl, ho⟩ := g1_inj hs
    exact n_gs C0 hd ho k
  case ixor =>
    obtain ⟨rfl, ho⟩ := g1_inj hs
    exact n_ii (fun x y H locs ls cells slots rest kk => lv_ixor hx hb hd kk) ho k
  case ishr =>
    obtain ⟨rfl, ho⟩ := g1_inj hs
    exact n_ii (fun x y H locs ls cells slots rest kk => lv_ishr hx hb hd kk) ho k
  case iushr =>
    obtain ⟨rfl, ho⟩ := g1_inj hs
    exact n_ii (fun x y H locs ls cells slots rest kk => lv_iushr hx hb hd rfl kk) ho k
  case idiv =>
    obtain ⟨rfl, ho⟩ := g1_inj hs
    exact n_i0 (fun x y H locs ls cells slots rest hy kk => lv_idiv hx hb hd hy kk) ho k
  case irem =>
    obtain ⟨rfl, ho⟩ := g1_inj hs
    exact n_i0 (fun x y H locs ls cells slots rest hy kk => lv_irem hx hb hd hy kk) ho k
  case ineg =>
    obtain ⟨rfl, ho⟩ := g1_inj hs
    exact n_i (fun x H locs ls cells slots rest kk => lv_ineg hx hb hd kk) ho k
  case i2b =>
    obtain ⟨rfl, ho⟩ := g1_inj hs
    exact n_i (fun x H locs ls cells slots rest kk => lv_i2b hx hb hd rfl kk) ho k
  case i2s =>
    obtain ⟨rfl, ho⟩ := g1_inj hs
    exact n_i (fun x H locs ls cells slots rest kk => lv_i2s hx hb hd rfl kk) ho k
  case ladd =>
    obtain ⟨rfl, ho⟩ := g1_inj hs
    exact n_lL (fun x y H locs ls cells slots rest kk => lv_ladd hx hb hd kk) ho k
  case lmul =>
    obtain ⟨rfl, ho⟩ := g1_inj hs
    exact n_lL (fun x y H locs ls cells slots rest kk => lv_lmul hx hb hd kk) ho k
  case land =>
    obtain ⟨rfl, ho⟩ := g1_inj hs
    exact n_lL (fun x y H locs ls cells slots rest kk => lv_land hx hb hd kk) ho k
  case lor =>
    obtain ⟨rfl, ho⟩ := g1_inj hs
    exact n_lL (fun x y H locs ls cells slots rest kk => lv_lor hx hb hd kk) ho k
  case ldiv =>
    obtain ⟨rfl, ho⟩ := g1_inj hs
    exact n_l0 (fun x y H locs ls cells slots rest hy kk => lv_ldiv hx hb hd hy kk) ho k
  case lshl =>
    obtain ⟨rfl, ho⟩ := g1_inj hs
    exact n_lsh (fun x y H locs ls cells slots rest kk => lv_lshl hx hb hd rfl kk) ho k
  case i2l =>
    obtain ⟨rfl, ho⟩ := g1_inj hs
    exact n_i2l hx hb hd ho k
  case l2i =>
    obtain ⟨rfl, ho⟩ := g1_inj hs
    exact n_l2i hx hb hd ho k
  case lcmp =>
    obtain ⟨rfl, ho⟩ := g1_inj hs
    exact n_lcmp hx hb hd ho k
  case dup =>
    obtain ⟨rfl, ho⟩ := g1_inj hs
    exact n_dup hx hb hd ho k
  case pop =>
    obtain ⟨rfl, ho⟩ := g1_inj hs
    exact n_pop hx hb hd ho k
  case dup2 =>
    obtain ⟨rfl, ho⟩ := g1_inj hs
    exact n_dup2 hx hb hd ho k
  case goto oq =>
    obtain ⟨rfl, ho⟩ := g1_inj hs
    exact n_goto hx hb hd ho k
  case if_icmp cq oq =>
    obtain ⟨rfl, ho⟩ := g1_inj hs
    exact n_if2 hx hb hd ho k
  case ifCond cq oq =>
    obtain ⟨rfl, ho⟩ := g1_inj hs
    exact n_if1 hx hb hd ho k
  case ifnull oq =>
    obtain ⟨rfl, ho⟩ := g1_inj hs
    exact n_null hx hb hd ho k
  case ifnonnull oq =>
    obtain ⟨rfl, ho⟩ := g1_inj hs
    exact n_nnull hx hb hd ho k
  case tableswitch a1 a2 a3 a4 => exact n_tab hx hb hd hs k
  case lookupswitch a1 a2 => exact n_lkp hx hb hd hs k
  case getfield iq =>
    obtain ⟨rfl, ho⟩ := g1_inj hs
    exact n_gf C0 hd ho k
  case putfield iq =>
    obtain ⟨rfl, ho⟩ := g1_inj hs
    exact n_pf C0 hd ho k
  case iaload =>
    obtain ⟨rfl, ho⟩ := g1_inj hs
    exact n_ial0 C0 hd ho k
  case baload =>
    obtain ⟨rfl, ho⟩ := g1_inj hs
    exact n_ial2 C0 hd ho k
  case saload =>
    obtain ⟨rfl, ho⟩ := g1_inj hs
    exact n_ial3 C0 hd ho k
  case laload =>
    obtain ⟨rfl, ho⟩ := g1_inj hs
    exact n_lal C0 hd ho k
  case aaload =>
    obtain ⟨rfl, ho⟩ := g1_inj hs
    exact n_aal C0 hd ho k
  case iastore =>
    obtain ⟨rfl, ho⟩ := g1_inj hs
    exact n_ias0 C0 hd ho k
  case bastore =>
    obtain ⟨rfl, ho⟩ := g1_inj hs
    exact n_ias2 C0 hd ho k
  case sastore =>
    obtain ⟨rfl, ho⟩ := g1_inj hs
    exact n_ias3 C0 hd ho k
  case lastore =>
    obtain ⟨rfl, ho⟩ := g1_inj hs
    exact n_las C0 hd ho k
  case aastore =>
    obtain ⟨rfl, ho⟩ := g1_inj hs
    exact n_aas C0 hd ho k
  case arraylength =>
    obtain ⟨rfl, ho⟩ := g1_inj hs
    exact n_len C0 hd ho k
  case new iq =>
    obtain ⟨rfl, ho⟩ := g1_inj hs
    exact n_new C0 hd ho hc1 hc2 k
  case newarray aq =>
    obtain ⟨rfl, ho⟩ := g1_inj hs
    exact n_nwa C0 hd ho hc1 hc2 k
  case anewarray iq =>
    obtain ⟨rfl, ho⟩ := g1_inj hs
    exact n_anw C0 hd ho hc1 hc2 k
  case invokevirtual ix =>
    obtain ⟨rfl, ho⟩ := g1_inj hs
    exfalso
    unfold o_iv at ho
    split at ho
    · split at ho
      · split at ho
        · split at ho
          · exact call_inl ho
          · cases ho
        · cases ho
      · cases ho
    · cases ho
  case invokespecial ix =>
    obtain ⟨rfl, ho⟩ := g1_inj hs
    unfold o_ip at ho
    split at ho
    · exfalso
      split at ho
      · split at ho
        · exact call_inl ho
        · cases ho
      · cases ho
    · exfalso
      split at ho
      · split at ho
        · exact call_inl ho
        · cases ho
      · cases ho
    · rename_i ci n M1 hf
      split at ho
      · rename_i a rest
        split at ho
        · rename_i hcc
          obtain ⟨rfl, rfl, rfl, rfl⟩ := nx_inj ho
          exact n_obj C0 hd hf hcc.1 hfr hlo hcc.2 k
        · cases ho
      · cases ho
    · cases ho
  case invokestatic ix =>
    obtain ⟨rfl, ho⟩ := g1_inj hs
    unfold o_is1 at ho
    split at ho
    · exfalso
      split at ho
      · exact call_inl ho
      · cases ho
    · exfalso
      split at ho
      · exact call_inl ho
      · cases ho
    · rename_i ci n M1 hf
      have hw : ∀ w ∈ callWs M.1 ix (6, ci, n, M1), w.before args s = true := fun w hw' => okT_use h5 h6 ((fC_ok hf).1 w hw')
      split at ho
      · have hcc := ho
        unfold o_math at hcc
        split at hcc
        · rename_i hdp
          obtain ⟨-, -, -, rfl⟩ := nx_inj hcc
          refine n_math (fun H locs ls hsz hn kk => ?_) ho k
          refine va_mmax hx hb (hml.trans hsz.symm) hown (hw _ (by simp [callWs])) (hw _ (by simp [callWs])) (hw _ (by simp [callWs])) (hw _ (by simp [callWs])) (by omega) ?_ hc1 hc2 hd kk
          rw [cv_cats]
          omega
        · cases hcc
      · cases ho
    · rename_i ci n M1 hf
      have hw : ∀ w ∈ callWs M.1 ix (7, ci, n, M1), w.before args s = true := fun w hw' => okT_use h5 h6 ((fC_ok hf).1 w hw')
      split at ho
      · have hcc := ho
        unfold o_math at hcc
        split at hcc
        · rename_i hdp
          obtain ⟨-, -, -, rfl⟩ := nx_inj hcc
          refine n_math (fun H locs ls hsz hn kk => ?_) ho k
          refine va_mmin hx hb (hml.trans hsz.symm) hown (hw _ (by simp [callWs])) (hw _ (by simp [callWs])) (hw _ (by simp [callWs])) (hw _ (by simp [callWs])) (by omega) ?_ hc1 hc2 hd kk
          rw [cv_cats]
          omega
        · cases hcc
      · cases ho
    · rename_i ci n M1 hf
      have hw : ∀ w ∈ callWs M.1 ix (8, ci, n, M1), w.before args s = true := fun w hw' => okT_use h5 h6 ((fC_ok hf).1 w hw')
      split at ho
      · have hcc := ho
        unfold o_math at hcc
        split at hcc
        · rename_i hdp
          obtain ⟨-, -, -, rfl⟩ := nx_inj hcc
          refine n_math (fun H locs ls hsz hn kk => ?_) ho k
          refine va_mabs hx hb (hml.trans hsz.symm) hown (hw _ (by simp [callWs])) (hw _ (by simp [callWs])) (hw _ (by simp [callWs])) (hw _ (by simp [callWs])) (by omega) ?_ hc1 hc2 hd kk
          rw [cv_cats]
          omega
        · cases hcc
      · cases ho
    · rename_i ci n M1 hf
      have hw : ∀ w ∈ callWs M.1 ix (9, ci, n, M1), w.before args s = true := fun w hw' => okT_use h5 h6 ((fC_ok hf).1 w hw')
      split at ho
      · have hcc := ho
        unfold o_math at hcc
        split at hcc
        · rename_i hdp
          obtain ⟨-, -, -, rfl⟩ := nx_inj hcc
          refine n_math (fun H locs ls hsz hn kk => ?_) ho k
          refine va_mmin_long hx hb (hml.trans hsz.symm) hown (hw _ (by simp [callWs])) (hw _ (by simp [callWs])) (hw _ (by simp [callWs])) (hw _ (by simp [callWs])) (by omega) ?_ hc1 hc2 hd kk
          rw [cv_cats]
          omega
        · cases hcc
      · cases ho
    · rename_i ci n M1 hf
      exact n_cp C0 hd hf hfr hlo ho k
    · cases ho
  all_goals exfalso
  all_goals first
    | (cases hs; done)
    | (obtain ⟨_, hq⟩ := kr_ex rfl hs; cases hq; done)
/-- a method's end -/
theorem snd_ret (C0 : CX X G tyC sb H0 p s m args meth c M) {v : Option Value} (hrt : meth.sig.returnType = M.2.2.2.2) (hlocks : meth.locks = false) (hs : stp X d M pc L st h = some (.inr (.inr v))) : WA sb G tyC H0 p l e R s m args below meth c (MQ below (QcM G tyC sb H0 v h) args s (h.1 - n0) (700 * (h.1 - n0)) (fun q => H0.size ≤ q)) M.2.2.2.1 n0 pc L st h := by
  obtain ⟨hx, hb, hml, hown, h5, h6, hini, hK, hX⟩ := id C0
  replace hs := stp_inv hs
  obtain ⟨ins, len, hd, hs⟩ := hs
  have hQ : ∀ {H : Heap} {locs : List Loc}, HR G tyC sb H0.size h H → va_S (fun q : Nat => H0.size ≤ q) H0 H locs → ∀ t : State, t.heap = H → s.WarmedH t.vm → QcM G tyC sb H0 v h args s (.returned (v.map (cv H0.size sb))) t := fun hH hS t ht _ => ⟨rfl, by rw [ht]; exact hH, by rw [ht]; exact ⟨hS.1, hS.2.1, fun _ z => by cases z⟩⟩
  cases ins
  case ireturn =>
    obtain ⟨rfl, ho⟩ := g1_inj hs
    unfold o_ir at ho
    split at ho
    · rename_i x hr
      cases ho
      intro H locs ls hH hS hL hn
      exact W.iret hx hb (by rw [hrt]; exact hr) (hQ hH hS) hS.2.2 hd hlocks
    · rename_i x hr
      split at ho
      · rename_i hx01
        cases ho
        intro H locs ls hH hS hL hn
        exact W.zret (ty := .boolean) hx hb (by rw [hrt]; exact hr) (by rcases hx01 with rfl | rfl <;> rfl) (hQ hH hS) hS.2.2 hd hlocks
      · cases ho
    · cases ho
  case lreturn =>
    obtain ⟨rfl, ho⟩ := g1_inj hs
    unfold o_lr at ho
    split at ho
    · rename_i x hr
      cases ho
      intro H locs ls hH hS hL hn
      exact W.lret hx hb (by rw [hrt]; exact hr) (hQ hH hS) hS.2.2 hd hlocks
    · cases ho
  case areturn =>
    obtain ⟨rfl, ho⟩ := g1_inj hs
    unfold o_ar at ho
    split at ho
    · rename_i x hr
      cases ho
      intro H locs ls hH hS hL hn
      exact W.aret hx hb (by rw [hrt]; exact hr) (Or.inl ⟨_, rfl⟩) (Or.inr ⟨_, rfl⟩) (hQ hH hS) hS.2.2 hd hlocks
    · rename_i x hr
      cases ho
      intro H locs ls hH hS hL hn
      exact W.aret hx hb (by rw [hrt]; exact hr) (Or.inl ⟨_, rfl⟩) (Or.inl rfl) (hQ hH hS) hS.2.2 hd hlocks
    · cases ho
  case return_ =>
    obtain ⟨rfl, ho⟩ := g1_inj hs
    unfold o_vr at ho
    split at ho
    · rename_i hr
      cases ho
      intro H locs ls hH hS hL hn
      exact W.vret hx hb (by rw [hrt]; exact hr) (hQ hH hS) hS.2.2 hd hlocks
    · cases ho
  case invokevirtual ix =>
    obtain ⟨rfl, ho⟩ := g1_inj hs
    exfalso
    unfold o_iv at ho
    repeat' split at ho
    all_goals first | exact call_ret ho | (cases ho; done)
  case invokestatic ix =>
    obtain ⟨rfl, ho⟩ := g1_inj hs
    exfalso
    unfold o_is1 at ho
    repeat' split at ho
    all_goals first | exact call_ret ho | exact math_inr ho | exact cp_inr ho | (cases ho; done)
  case invokespecial ix =>
    obtain ⟨rfl, ho⟩ := g1_inj hs
    exfalso
    unfold o_ip at ho
    repeat' split at ho
    all_goals first | exact call_ret ho | (obtain ⟨_, hq⟩ := kN_nx ho; cases hq; done) | (cases ho; done)
  all_goals exfalso
  all_goals (obtain ⟨_, hq⟩ := kn_ex rfl hs; cases hq; done)
end WLK
/-- what a run of the interpreter says of the machine, at a frame of the method -/
def Walks (X : Tok) (G : va_G) (tyC : Nat → ClassId) (sb : UInt32 → Addr) (H0 : Heap) (l : Launch) (f : Nat) : Prop := ∀ (d : Nat) (M : MI) (pc : Nat) (L st : List Value) (h : Hp) (v0 : Option Value) (h' : Hp), run X f d M pc L st h = some (v0, h') → ∀ {p : Program} {e : Env} {R : Room} {s : State} {m : MethodId} {args : Array Value} {below : List Frame} {meth : Method} {c : Code} {Q : State → Prop} {n0 : Nat}, CX X G tyC sb H0 p s m args meth c M → d ≤ R.frames → 64 * d ≤ R.locals → h'.1 - n0 ≤ R.cells → 700 * (h'.1 - n0) ≤ R.slots → (∀ (pc : Nat) (L st : List Value), stp X d M pc L st h' = some (.inr (.inr v0)) → WA sb G tyC H0 p l e R s m args below meth c Q M.2.2.2.1 n0 pc L st h') → WA sb G tyC H0 p l e R s m args below meth c Q M.2.2.2.1 n0 pc L st h
theorem met_of {X : Tok} {G : va_G} {tyC : Nat → ClassId} {sb : UInt32 → Addr} {H0 : Heap} {l : Launch} {f d : Nat} {M : MI} {av : List Value} {h h' : Hp} {v : Option Value} (ih : Walks X G tyC sb H0 l f) (hr : run X f d M 0 (ent M av) [] h = some (v, h')) (hM : okMI M) (hlen : (exL av).length ≤ M.2.2.2.1) : Met l M.2.1 (codeW M :: WT) { frames := d, cells := h'.1 - h.1, slots := 700 * (h'.1 - h.1), locals := 64 * d } (PcM X G tyC sb H0 av h) (QcM G tyC sb H0 v h') (h'.1 - h.1) (700 * (h'.1 - h.1)) (fun q => H0.size ≤ q) := by
  refine Met.ofW (cc := M.2.2.1) (maxL := M.2.2.2.1) (ret := M.2.2.2.2) hM.1 rfl ?_
  intro p e s m args below meth c s₁ B hml hv
  obtain ⟨rfl, hH, hS, hK, hN, hX⟩ := hv
  have hts := atoms_spec (ws := codeW M :: WT) B.pre
  have hown : s.vm.findClass M.2.1.cls = some m.cls := findClass_of_methodNamed B.named
  have C0 : CX X G tyC sb H0 p s m (av.map (cv H0.size sb)).toArray meth c M := ⟨B.exec, B.bytes, hml, by rw [hM.2.2.2]; exact hown, fun w hw hg => hts w (List.mem_cons_of_mem _ (List.mem_filter.mpr ⟨hw, hg⟩)), hN, fun hi => by rw [← hi]; exact (name_of_methodNamed B.named B.method).1, hK, hX⟩
  have K := ih d M 0 (ent M av) [] h v h' hr (p := p) (e := e) (R := { frames := d, cells := h'.1 - h.1, slots := 700 * (h'.1 - h.1), locals := 64 * d }) (s := s) (m := m) (below := below) (meth := meth) (c := c) (Q := MQ below (QcM G tyC sb H0 v h') (av.map (cv H0.size sb)).toArray s (h'.1 - h.1) (700 * (h'.1 - h.1)) (fun q => H0.size ≤ q)) (n0 := h.1) C0 (Nat.le_refl _) (Nat.le_refl _) (Nat.le_refl _) (Nat.le_refl _) (fun pc L st hs => snd_ret C0 B.returns B.notSynchronized hs)
  have K2 := K s.heap [] _ hH hS (LR_ent hlen) (Nat.le_refl _)
  rw [lg_entry_eq]
  rw [Nat.sub_self, Nat.mul_zero] at K2
  exact K2
theorem walks (X : Tok) (G : va_G) (tyC : Nat → ClassId) (sb : UInt32 → Addr) (H0 : Heap) (l : Launch) : ∀ f, Walks X G tyC sb H0 l f := by
  intro f
  induction f with
  | zero => intro d M pc L st h v0 h' hr; exact absurd hr (by simp [run])
  | succ f ih =>
    intro d M pc L st h v0 h' hr p e R s m args below meth c Q n0 C0 hfr hlo hc1 hc2 hend
    have hgr := run_grow _ _ _ _ _ _ _ _ _ hr
    rw [run] at hr
    cases hs : stp X d M pc L st h with
    | none => rw [hs] at hr; exact absurd hr (by simp)
    | some o =>
      rw [hs] at hr
      rcases o with ⟨pc1, L1, st1, h1⟩ | ⟨M', av, rest⟩ | w
      · simp only at hr
        have hg1 := run_grow _ _ _ _ _ _ _ _ _ hr
        exact snd_next C0 hs hfr hlo (by omega) (by omega) (ih d M pc1 L1 st1 h1 v0 h' hr C0 hfr hlo hc1 hc2 hend)
      · cases d with
        | zero => exact absurd hr (by simp)
        | succ d' =>
          simp only at hr
          cases hq : run X f d' M' 0 (ent M' av) [] h with
          | none => rw [hq] at hr; exact absurd hr (by simp)
          | some q =>
            obtain ⟨v, h1⟩ := q
            rw [hq] at hr
            simp only at hr
            have hg0 := run_grow _ _ _ _ _ _ _ _ _ hq
            have hg1 := run_grow _ _ _ _ _ _ _ _ _ hr
            exact snd_call (h' := h1) (v := v) C0 hs hfr hlo (by omega) (by omega) hg0 (fun hM hl => met_of ih hq hM hl) (ih (d' + 1) M (pc + 3) L (psh v rest) h1 v0 h' hr C0 hfr hlo hc1 hc2 hend)
      · cases hr
        exact hend pc L st hs
