-- ===== the instruction whole
noncomputable def gA (len n : Nat) (r : Ax) : Ax := if Nat.beq len n = true then r else none
theorem gA_inj {len n : Nat} {r : Ax} {outs : List Oc} (h : gA len n r = some outs) : len = n ∧ r = some outs := by
  unfold gA at h
  split at h
  · rename_i q
    exact ⟨Nat.eq_of_beq_eq_true q, h⟩
  · cases h
noncomputable def s_ldc (q : Option Int32) (kk : Kt) (nx : Nat) (L st : List AV) (σ : St) : Ax := match q with
  | some v => kk nx L ((.inl (0, v.toInt)) :: st) σ
  | none => none
noncomputable def s_ldl (q : Option Int64) (kk : Kt) (nx : Nat) (L st : List AV) (σ : St) : Ax := match q with
  | some v => kk nx L ((.inr (.inl (0, v.toInt))) :: st) σ
  | none => none
noncomputable def sx (P : Pg) (dep : Nat) (M : MI) (nxi : Option (Instr × Nat)) (kk : Kt) (cl : Nat → List AV → St → Ax) (pc : Nat) (ins : Instr) (len : Nat) (L st : List AV) (σ : St) : Ax := match ins with
  | .iload_n kq => gA len 1 (s_ld isI kk (pc + 1) L st σ kq)
  | .iload kq => gA len 2 (s_ld isI kk (pc + 2) L st σ kq)
  | .lload_n kq => gA len 1 (s_ld isL kk (pc + 1) L st σ kq)
  | .lload kq => gA len 2 (s_ld isL kk (pc + 2) L st σ kq)
  | .aload_n kq => gA len 1 (s_ld isA kk (pc + 1) L st σ kq)
  | .aload kq => gA len 2 (s_ld isA kk (pc + 2) L st σ kq)
  | .istore_n kq => gA len 1 (s_st isI kk (pc + 1) L st σ kq)
  | .astore_n kq => gA len 1 (s_st isA kk (pc + 1) L st σ kq)
  | .lstore_n kq => gA len 1 (s_ls kk (pc + 1) L st σ kq)
  | .istore kq => gA len 2 (s_st isI kk (pc + 2) L st σ kq)
  | .astore kq => gA len 2 (s_st isA kk (pc + 2) L st σ kq)
  | .lstore kq => gA len 2 (s_ls kk (pc + 2) L st σ kq)
  | .iinc iq nq => gA len 3 (s_inc kk (pc + 3) L st σ iq nq)
  | .iconst nq => gA len 1 (s_ic kk (pc + 1) L st σ nq iLo iHi)
  | .bipush nq => gA len 2 (s_ic kk (pc + 2) L st σ nq (-128) 127)
  | .sipush nq => gA len 3 (s_ic kk (pc + 3) L st σ nq (-32768) 32767)
  | .lconst nq => gA len 1 (kk (pc + 1) L ((.inr (.inl (0, Int.ofNat nq.val))) :: st) σ)
  | .aconst_null => gA len 1 (kk (pc + 1) L ((.inr (.inr (.inr (.inr true)))) :: st) σ)
  | .ldc iq => gA len 2 (s_ldc (fK M.1 iq) kk (pc + 2) L st σ)
  | .ldc_w iq => gA len 3 (s_ldc (fK M.1 iq) kk (pc + 3) L st σ)
  | .ldc2_w iq => gA len 3 (s_ldl (fL M.1 iq) kk (pc + 3) L st σ)
  | .iadd => gA len 1 (s_ii opAdd kk (pc + 1) L st σ)
  | .isub => gA len 1 (s_ii opSub kk (pc + 1) L st σ)
  | .imul => gA len 1 (s_ii opMul kk (pc + 1) L st σ)
  | .iand => gA len 1 (s_ii (fun σ _ _ s o => opAnd σ s o) kk (pc + 1) L st σ)
  | .ior => gA len 1 (s_ii (fun σ _ _ _ _ => [tI σ]) kk (pc + 1) L st σ)
  | .ixor => gA len 1 (s_ii (fun σ _ _ _ _ => [tI σ]) kk (pc + 1) L st σ)
  | .ishr => gA len 1 (s_ii (fun σ _ _ _ _ => [tI σ]) kk (pc + 1) L st σ)
  | .iushr => gA len 1 (s_ii (fun σ _ _ _ _ => [tI σ]) kk (pc + 1) L st σ)
  | .idiv => gA len 1 (s_i0 true kk (pc + 1) L st σ)
  | .irem => gA len 1 (s_i0 false kk (pc + 1) L st σ)
  | .ineg => gA len 1 (s_i opNeg kk (pc + 1) L st σ)
  | .i2b => gA len 1 (s_i (fun σ s o => opC σ s o 128) kk (pc + 1) L st σ)
  | .i2s => gA len 1 (s_i (fun σ s o => opC σ s o 32768) kk (pc + 1) L st σ)
  | .ladd => gA len 1 (s_lL opLA kk (pc + 1) L st σ)
  | .lmul => gA len 1 (s_lL opLM kk (pc + 1) L st σ)
  | .land => gA len 1 (s_lL (fun σ _ _ _ _ => [tL σ]) kk (pc + 1) L st σ)
  | .lor => gA len 1 (s_lL (fun σ _ _ _ _ => [tL σ]) kk (pc + 1) L st σ)
  | .ldiv => gA len 1 (s_ldv kk (pc + 1) L st σ)
  | .lshl => gA len 1 (s_lsh kk (pc + 1) L st σ)
  | .i2l => gA len 1 (s_i2l kk (pc + 1) L st σ)
  | .l2i => gA len 1 (s_l2i kk (pc + 1) L st σ)
  | .lcmp => gA len 1 (s_lcmp nxi kk pc L st σ)
  | .dup => gA len 1 (s_dup kk (pc + 1) L st σ)
  | .pop => gA len 1 (s_pop kk (pc + 1) L st σ)
  | .pop2 => gA len 1 (s_pop2 kk (pc + 1) L st σ)
  | .dup2 => gA len 1 (s_dup2 kk (pc + 1) L st σ)
  | .goto off => gA len 3 (s_go kk pc off L st σ)
  | .if_icmp cc off => gA len 3 (s_if2 cc off kk pc L st σ)
  | .ifCond cc off => gA len 3 (s_if1 cc off kk pc L st σ)
  | .ifnull off => gA len 3 (s_nul true off kk pc L st σ)
  | .ifnonnull off => gA len 3 (s_nul false off kk pc L st σ)
  | .tableswitch dflt lo hi' offs => s_tab dflt lo hi' offs.toList kk pc L st σ
  | .lookupswitch dflt ps => s_lkp dflt ps.toList kk pc L st σ
  | .getfield iq => gA len 3 (s_gf P (fFq M.1 iq) kk (pc + 3) L st σ)
  | .putfield iq => gA len 3 (s_pf P (fFq M.1 iq) kk (pc + 3) L st σ)
  | .iaload => gA len 1 (s_ia P 0 kk (pc + 1) L st σ)
  | .baload => gA len 1 (s_ia P 2 kk (pc + 1) L st σ)
  | .saload => gA len 1 (s_ia P 3 kk (pc + 1) L st σ)
  | .laload => gA len 1 (s_la kk (pc + 1) L st σ)
  | .aaload => gA len 1 (s_aa kk (pc + 1) L st σ)
  | .iastore => gA len 1 (s_sa P 0 kk (pc + 1) L st σ)
  | .bastore => gA len 1 (s_sa P 2 kk (pc + 1) L st σ)
  | .sastore => gA len 1 (s_sa P 3 kk (pc + 1) L st σ)
  | .lastore => gA len 1 (s_sl P kk (pc + 1) L st σ)
  | .arraylength => gA len 1 (s_len kk (pc + 1) L st σ)
  | .invokevirtual iq => gA len 3 (s_iv P dep (fCn M.1 iq) kk cl (pc + 3) L st σ)
  | .invokestatic iq => gA len 3 (s_is P dep (fCn M.1 iq) kk cl (pc + 3) L st σ)
  | .getstatic iq => gA len 3 (s_gs (fS M.1 iq) kk (pc + 3) L st σ)
  | .ireturn => gA len 1 (s_ir M.2.2.2.2 st σ)
  | .lreturn => gA len 1 (s_lr M.2.2.2.2 st σ)
  | .areturn => gA len 1 (s_ar M.2.2.2.2 st σ)
  | .return_ => gA len 1 (s_vr M.2.2.2.2 st σ)
  | _ => none
theorem bm8 {n : Int} (a : -128 ≤ n) (b : n ≤ 127) : n.bmod Int8.size = n := by
  have : (Int8.size : Nat) = 256 := rfl
  rw [this]
  exact Int.bmod_eq_of_le (by omega) (by omega)
theorem bm16 {n : Int} (a : -32768 ≤ n) (b : n ≤ 32767) : n.bmod Int16.size = n := by
  have : (Int16.size : Nat) = 65536 := rfl
  rw [this]
  exact Int.bmod_eq_of_le (by omega) (by omega)
section X
variable {P : Pg} {J : Jt} {X : Tok} {d : Nat} {M : MI} {et : Nat → Option va_E} {ν : Nat → Int} {σ : St} {mu : Mu} {la : La} {ro : Ro} {Q : Qt} {kk : Kt} {pc nxp k : Nat} {L st : List AV} {Lc stc : List Value} {outs : List Oc}
theorem x_ldc {q : Option Int32} (hk : KK P J X d M et σ.1 ν mu la ro Q kk) (h : s_ldc q kk nxp L st σ = some outs) (hs : sOk ν σ mu) (hi : Inv P J mu la ro) (hL : rvs ν σ.1 L Lc) (ht : rvs ν σ.1 st stc) (hq : QOk P J outs σ.1 ν mu la ro Q) (e : ∀ v, q = some v → Rr X d M pc Lc stc (Wd mu la ro et) = Rr X d M nxp Lc (.int v :: stc) (Wd mu la ro et)) : Fin X d M pc Lc stc mu la ro et Q := by
  unfold s_ldc at h
  split at h
  · rename_i v
    exact kk_s hk h hs hi hL (rvs_k (v := .int v) ⟨hs.1, by rw [hs.2.1, Int.zero_add]⟩ ht) hq (e v rfl)
  · cases h
theorem x_ldl {q : Option Int64} (hk : KK P J X d M et σ.1 ν mu la ro Q kk) (h : s_ldl q kk nxp L st σ = some outs) (hs : sOk ν σ mu) (hi : Inv P J mu la ro) (hL : rvs ν σ.1 L Lc) (ht : rvs ν σ.1 st stc) (hq : QOk P J outs σ.1 ν mu la ro Q) (e : ∀ v, q = some v → Rr X d M pc Lc stc (Wd mu la ro et) = Rr X d M nxp Lc (.long v :: stc) (Wd mu la ro et)) : Fin X d M pc Lc stc mu la ro et Q := by
  unfold s_ldl at h
  split at h
  · rename_i v
    exact kk_s hk h hs hi hL (rvs_k (v := .long v) ⟨hs.1, by rw [hs.2.1, Int.zero_add]⟩ ht) hq (e v rfl)
  · cases h
theorem if2_eq {cc : ClassFile.Cond} {off : Int} {x y : Int32} {r : List Value} {t : Nat} {h : Hp} (hd : decode M.2.2.1 pc = .ok (.if_icmp cc off, 3)) (e : (pc : Int) + off = (t : Int)) : Rr X d M pc Lc (.int y :: .int x :: r) h = if bB cc x y = true then Rr X d M t Lc r h else Rr X d M (pc + 3) Lc r h := by
  cases cc <;> simp only [bB, decide_eq_true_eq]
  · exact R_ic_eq hd e
  · exact R_ic_ne hd e
  · exact R_ic_lt hd e
  · exact R_ic_ge hd e
  · exact R_ic_gt hd e
  · exact R_ic_le hd e
theorem if1_eq {cc : ClassFile.Cond} {off : Int} {x : Int32} {r : List Value} {t : Nat} {h : Hp} (hd : decode M.2.2.1 pc = .ok (.ifCond cc off, 3)) (e : (pc : Int) + off = (t : Int)) : Rr X d M pc Lc (.int x :: r) h = if bB cc x 0 = true then Rr X d M t Lc r h else Rr X d M (pc + 3) Lc r h := by
  cases cc <;> simp only [bB, decide_eq_true_eq]
  · exact R_if_eq hd e
  · exact R_if_ne hd e
  · exact R_if_lt hd e
  · exact R_if_ge hd e
  · exact R_if_gt hd e
  · exact R_if_le hd e
theorem ialT_eq {j : Int32} {q : UInt32} {n : Nat} {f : Nat → Int32} {r : List Value} {h : Hp} (hd : decode M.2.2.1 pc = .ok (.iaload, 1)) (e : X q = some (n, f)) : Rr X d M pc Lc (.int j :: .float q :: r) h = if j < 0 ∨ n ≤ j.toNatClampNeg then none else Rr X d M (pc + 1) Lc (.int (f j.toNatClampNeg) :: r) h := by
  by_cases c : j < 0 ∨ n ≤ j.toNatClampNeg
  · rw [if_pos c]
    refine Rr_no hd ?_
    show g1 1 1 (o_ial X 0 Lc _ _ _) = _
    simp only [g1, if_true, o_ial, e]
    exact if_neg fun w => w.2 c
  · rw [if_neg c]
    refine Rr_nx hd ?_
    show g1 1 1 (o_ial X 0 Lc _ _ _) = _
    simp only [g1, if_true, o_ial, e]
    exact if_pos ⟨trivial, c⟩
theorem sx_ok {dep : Nat} {nxi : Option (Instr × Nat)} {cl : Nat → List AV → St → Ax} {ins : Instr} {len : Nat} (hX : tOk X) (hJ : ∀ mu la ro mu' la' ro', frm (pW P) mu la ro mu' la' ro' → J mu la ro → J mu' la' ro') (hdep : dep ≤ d) (hFl : ∀ q, pFl P = some q → wIn (pW P) 6 6 = false) (hC : ∀ c, c ∈ pCt P → ctrT (pIv P) J X et c) (hk : KK P J X d M et σ.1 ν mu la ro Q kk) (hc : ∀ d', d = d' + 1 → CL P J X d' et cl) (h : sx P dep M nxi kk cl pc ins len L st σ = some outs) (hs : sOk ν σ mu) (hi : Inv P J mu la ro) (hL : rvs ν σ.1 L Lc) (ht : rvs ν σ.1 st stc) (hq : QOk P J outs σ.1 ν mu la ro Q) (hd : decode M.2.2.1 pc = .ok (ins, len)) (hn : ∀ i l, nxi = some (i, l) → decode M.2.2.1 (pc + 1) = .ok (i, l)) : Fin X d M pc Lc stc mu la ro et Q := by
  cases ins
  case iload_n kq =>
    replace h := gA_inj h
    obtain ⟨rfl, h⟩ := h
    exact x_ld hk h hs hi hL ht hq (fun a v fa hv e => by
      obtain ⟨x, rfl⟩ := isI_ok fa hv
      refine Rr_nx hd ?_
      show g1 1 1 (o_il _ _ _ _ _) = _
      simp only [g1, if_true, o_il, e]
      rfl)
  case iload kq =>
    replace h := gA_inj h
    obtain ⟨rfl, h⟩ := h
    exact x_ld hk h hs hi hL ht hq (fun a v fa hv e => by
      obtain ⟨x, rfl⟩ := isI_ok fa hv
      refine Rr_nx hd ?_
      show g1 2 2 (o_il _ _ _ _ _) = _
      simp only [g1, if_true, o_il, e]
      rfl)
  case lload_n kq =>
    replace h := gA_inj h
    obtain ⟨rfl, h⟩ := h
    exact x_ld hk h hs hi hL ht hq (fun a v fa hv e => by
      obtain ⟨x, rfl⟩ := isL_ok fa hv
      refine Rr_nx hd ?_
      show g1 1 1 (o_ll _ _ _ _ _) = _
      simp only [g1, if_true, o_ll, e]
      rfl)
  case lload kq =>
    replace h := gA_inj h
    obtain ⟨rfl, h⟩ := h
    exact x_ld hk h hs hi hL ht hq (fun a v fa hv e => by
      obtain ⟨x, rfl⟩ := isL_ok fa hv
      refine Rr_nx hd ?_
      show g1 2 2 (o_ll _ _ _ _ _) = _
      simp only [g1, if_true, o_ll, e]
      rfl)
  case aload_n kq =>
    replace h := gA_inj h
    obtain ⟨rfl, h⟩ := h
    exact x_ld hk h hs hi hL ht hq (fun a v fa hv e => by
      refine Rr_nx hd ?_
      show g1 1 1 (o_al _ _ _ _ _) = _
      rcases isA_ok fa hv with ⟨x, rfl⟩ | ⟨x, rfl⟩ | rfl <;> (simp only [g1, if_true, o_al, e]; rfl))
  case aload kq =>
    replace h := gA_inj h
    obtain ⟨rfl, h⟩ := h
    exact x_ld hk h hs hi hL ht hq (fun a v fa hv e => by
      refine Rr_nx hd ?_
      show g1 2 2 (o_al _ _ _ _ _) = _
      rcases isA_ok fa hv with ⟨x, rfl⟩ | ⟨x, rfl⟩ | rfl <;> (simp only [g1, if_true, o_al, e]; rfl))
  case istore_n kq =>
    replace h := gA_inj h
    obtain ⟨rfl, h⟩ := h
    exact x_st hk h hs hi hL ht hq (fun a v r fa hv e => by
      obtain ⟨x, rfl⟩ := isI_ok fa hv
      refine Rr_nx hd ?_
      show g1 1 1 (o_is _ _ _ _ _) = _
      simp only [g1, if_true, o_is, e]
      rfl)
  case astore_n kq =>
    replace h := gA_inj h
    obtain ⟨rfl, h⟩ := h
    exact x_st hk h hs hi hL ht hq (fun a v r fa hv e => by
      refine Rr_nx hd ?_
      show g1 1 1 (o_as _ _ _ _ _) = _
      rcases isA_ok fa hv with ⟨x, rfl⟩ | ⟨x, rfl⟩ | rfl <;> (simp only [g1, if_true, o_as, e]; rfl))
  case lstore_n kq =>
    replace h := gA_inj h
    obtain ⟨rfl, h⟩ := h
    exact x_ls hk h hs hi hL ht hq (fun x r e => by
      refine Rr_nx hd ?_
      show g1 1 1 (o_ls _ _ _ _ _) = _
      simp only [g1, if_true, o_ls, e]
      rfl)
  case istore kq =>
    replace h := gA_inj h
    obtain ⟨rfl, h⟩ := h
    exact x_st hk h hs hi hL ht hq (fun a v r fa hv e => by
      obtain ⟨x, rfl⟩ := isI_ok fa hv
      refine Rr_nx hd ?_
      show g1 2 2 (o_is _ _ _ _ _) = _
      simp only [g1, if_true, o_is, e]
      rfl)
  case astore kq =>
    replace h := gA_inj h
    obtain ⟨rfl, h⟩ := h
    exact x_st hk h hs hi hL ht hq (fun a v r fa hv e => by
      refine Rr_nx hd ?_
      show g1 2 2 (o_as _ _ _ _ _) = _
      rcases isA_ok fa hv with ⟨x, rfl⟩ | ⟨x, rfl⟩ | rfl <;> (simp only [g1, if_true, o_as, e]; rfl))
  case lstore kq =>
    replace h := gA_inj h
    obtain ⟨rfl, h⟩ := h
    exact x_ls hk h hs hi hL ht hq (fun x r e => by
      refine Rr_nx hd ?_
      show g1 2 2 (o_ls _ _ _ _ _) = _
      simp only [g1, if_true, o_ls, e]
      rfl)
  case iinc iq nq =>
    replace h := gA_inj h
    obtain ⟨rfl, h⟩ := h
    exact x_inc hk h hs hi hL ht hq (fun x e => by
      refine Rr_nx hd ?_
      show g1 3 3 (o_inc _ _ _ _ _ _) = _
      simp only [g1, if_true, o_inc, e]
      rfl)
  case iconst nq =>
    replace h := gA_inj h
    obtain ⟨rfl, h⟩ := h
    exact x_ic (x := Int32.ofInt nq) (fun a b => by rw [Int32.toInt_ofInt]; exact bm32 a b) hk h hs hi hL ht hq (Rr_nx hd rfl)
  case bipush nq =>
    replace h := gA_inj h
    obtain ⟨rfl, h⟩ := h
    exact x_ic (x := (Int8.ofInt nq).toInt32) (fun a b => by rw [Int8.toInt_toInt32, Int8.toInt_ofInt]; exact bm8 a b) hk h hs hi hL ht hq (Rr_nx hd rfl)
  case sipush nq =>
    replace h := gA_inj h
    obtain ⟨rfl, h⟩ := h
    exact x_ic (x := (Int16.ofInt nq).toInt32) (fun a b => by rw [Int16.toInt_toInt32, Int16.toInt_ofInt]; exact bm16 a b) hk h hs hi hL ht hq (Rr_nx hd rfl)
  case lconst nq =>
    replace h := gA_inj h
    obtain ⟨rfl, h⟩ := h
    refine kk_s hk h hs hi hL (rvs_k (v := .long (Int64.ofNat nq.val)) ⟨hs.1, ?_⟩ ht) hq (Rr_nx hd rfl)
    rw [hs.2.1, Int.zero_add, Int64.toInt_ofNat_of_lt (by have := nq.isLt; omega)]
    rfl
  case aconst_null =>
    replace h := gA_inj h
    obtain ⟨rfl, h⟩ := h
    exact kk_s hk h hs hi hL (rvs_k (v := .null) trivial ht) hq (Rr_nx hd rfl)
  case ldc iq =>
    replace h := gA_inj h
    obtain ⟨rfl, h⟩ := h
    exact x_ldc hk h hs hi hL ht hq (fun v hv => by
      refine Rr_nx hd ?_
      show g1 2 2 (o_ldc _ _ _ _ _ _) = _
      simp only [g1, if_true, o_ldc, hv]
      rfl)
  case ldc_w iq =>
    replace h := gA_inj h
    obtain ⟨rfl, h⟩ := h
    exact x_ldc hk h hs hi hL ht hq (fun v hv => by
      refine Rr_nx hd ?_
      show g1 3 3 (o_ldc _ _ _ _ _ _) = _
      simp only [g1, if_true, o_ldc, hv]
      rfl)
  case ldc2_w iq =>
    replace h := gA_inj h
    obtain ⟨rfl, h⟩ := h
    exact x_ldl hk h hs hi hL ht hq (fun v hv => by
      refine Rr_nx hd ?_
      show g1 3 3 (o_ldl _ _ _ _ _ _) = _
      simp only [g1, if_true, o_ldl, hv]
      rfl)
  case iadd =>
    replace h := gA_inj h
    obtain ⟨rfl, h⟩ := h
    exact x_ii (F := fun x y => x + y) (fun s o s' o' x y a b c e => opAdd_ok hs a b c e) hk h hi hL ht hq (fun x y r _ => Rr_nx hd rfl)
  case isub =>
    replace h := gA_inj h
    obtain ⟨rfl, h⟩ := h
    exact x_ii (F := fun x y => x - y) (fun s o s' o' x y a b c e => opSub_ok hs a b c e) hk h hi hL ht hq (fun x y r _ => Rr_nx hd rfl)
  case imul =>
    replace h := gA_inj h
    obtain ⟨rfl, h⟩ := h
    exact x_ii (F := fun x y => x * y) (fun s o s' o' x y a b c e => opMul_ok hs a b c e) hk h hi hL ht hq (fun x y r _ => Rr_nx hd rfl)
  case iand =>
    replace h := gA_inj h
    obtain ⟨rfl, h⟩ := h
    exact x_ii (F := fun x y => x &&& y) (fun s o s' o' x y a b c e => opAnd_ok hs e) hk h hi hL ht hq (fun x y r _ => Rr_nx hd rfl)
  case ior =>
    replace h := gA_inj h
    obtain ⟨rfl, h⟩ := h
    exact x_ii (F := fun x y => x ||| y) (fun s o s' o' x y a b c e => gotL_1 (got_tI _ hs)) hk h hi hL ht hq (fun x y r _ => Rr_nx hd rfl)
  case ixor =>
    replace h := gA_inj h
    obtain ⟨rfl, h⟩ := h
    exact x_ii (F := fun x y => x ^^^ y) (fun s o s' o' x y a b c e => gotL_1 (got_tI _ hs)) hk h hi hL ht hq (fun x y r _ => Rr_nx hd rfl)
  case ishr =>
    replace h := gA_inj h
    obtain ⟨rfl, h⟩ := h
    exact x_ii (F := fun x y => x >>> (y &&& 31)) (fun s o s' o' x y a b c e => gotL_1 (got_tI _ hs)) hk h hi hL ht hq (fun x y r _ => Rr_nx hd rfl)
  case iushr =>
    replace h := gA_inj h
    obtain ⟨rfl, h⟩ := h
    exact x_ii (F := fun x y => (x.toUInt32 >>> (y.toUInt32 &&& Int32.toUInt32 31)).toInt32) (fun s o s' o' x y a b c e => gotL_1 (got_tI _ hs)) hk h hi hL ht hq (fun x y r _ => Rr_nx hd rfl)
  case idiv =>
    replace h := gA_inj h
    obtain ⟨rfl, h⟩ := h
    exact x_i0 (F := fun x y => x / y) (fun s o s' o' x y l a b c e => opDd_ok hs a b c e) hk h hi hL ht hq (fun x y r hy => (R_dv hd).trans (if_neg hy))
  case irem =>
    replace h := gA_inj h
    obtain ⟨rfl, h⟩ := h
    exact x_i0 (F := fun x y => x - x / y * y) (fun s o s' o' x y l a b c e => opDr_ok hs a b c e) hk h hi hL ht hq (fun x y r hy => (R_rm hd).trans (if_neg hy))
  case ineg =>
    replace h := gA_inj h
    obtain ⟨rfl, h⟩ := h
    exact x_i (F := fun x => -x) (fun s o x a b => opNeg_ok hs a b) hk h hi hL ht hq (fun x r _ => Rr_nx hd rfl)
  case i2b =>
    replace h := gA_inj h
    obtain ⟨rfl, h⟩ := h
    exact x_i (F := fun x => x.toInt8.toInt32) (fun s o x a b => opC8_ok hs a b) hk h hi hL ht hq (fun x r _ => Rr_nx hd rfl)
  case i2s =>
    replace h := gA_inj h
    obtain ⟨rfl, h⟩ := h
    exact x_i (F := fun x => x.toInt16.toInt32) (fun s o x a b => opC16_ok hs a b) hk h hi hL ht hq (fun x r _ => Rr_nx hd rfl)
  case ladd =>
    replace h := gA_inj h
    obtain ⟨rfl, h⟩ := h
    exact x_lL (F := fun x y => x + y) (fun s o s' o' x y a b c e => opLA_ok hs a b e) hk h hi hL ht hq (fun x y r _ => Rr_nx hd rfl)
  case lmul =>
    replace h := gA_inj h
    obtain ⟨rfl, h⟩ := h
    exact x_lL (F := fun x y => x * y) (fun s o s' o' x y a b c e => opLM_ok hs b e) hk h hi hL ht hq (fun x y r _ => Rr_nx hd rfl)
  case land =>
    replace h := gA_inj h
    obtain ⟨rfl, h⟩ := h
    exact x_lL (F := fun x y => x &&& y) (fun s o s' o' x y a b c e => gotL_1 (got_tL _ hs)) hk h hi hL ht hq (fun x y r _ => Rr_nx hd rfl)
  case lor =>
    replace h := gA_inj h
    obtain ⟨rfl, h⟩ := h
    exact x_lL (F := fun x y => x ||| y) (fun s o s' o' x y a b c e => gotL_1 (got_tL _ hs)) hk h hi hL ht hq (fun x y r _ => Rr_nx hd rfl)
  case ldiv =>
    replace h := gA_inj h
    obtain ⟨rfl, h⟩ := h
    exact x_ldv hk h hs hi hL ht hq (fun x y r hy => (R_ldv hd).trans (if_neg hy))
  case lshl =>
    replace h := gA_inj h
    obtain ⟨rfl, h⟩ := h
    exact x_lsh (F := fun x y => x <<< (y.toInt64 &&& 63)) hk h hs hi hL ht hq (fun x y r => Rr_nx hd rfl)
  case i2l =>
    replace h := gA_inj h
    obtain ⟨rfl, h⟩ := h
    exact x_i2l hk h hs hi hL ht hq (fun x r => Rr_nx hd rfl)
  case l2i =>
    replace h := gA_inj h
    obtain ⟨rfl, h⟩ := h
    exact x_l2i hk h hs hi hL ht hq (fun x r => Rr_nx hd rfl)
  case lcmp =>
    replace h := gA_inj h
    obtain ⟨rfl, h⟩ := h
    exact x_lcmp hk h hs hi hL ht hq (fun x y r => Rr_nx hd rfl) (fun cc off x r t e et => if1_eq (hn _ _ e) et)
  case dup =>
    replace h := gA_inj h
    obtain ⟨rfl, h⟩ := h
    exact x_dup hk h hs hi hL ht hq (fun v r hv => by
      refine Rr_nx hd ?_
      show g1 1 1 (o_dup _ _ _ _) = _
      simp only [g1, if_true, o_dup, hv]
      rfl)
  case pop =>
    replace h := gA_inj h
    obtain ⟨rfl, h⟩ := h
    exact x_pop hk h hs hi hL ht hq (fun v r hv => by
      refine Rr_nx hd ?_
      show g1 1 1 (o_pop _ _ _ _) = _
      simp only [g1, if_true, o_pop, hv]
      rfl)
  case pop2 =>
    replace h := gA_inj h
    obtain ⟨rfl, h⟩ := h
    exact x_pop2 hk h hs hi hL ht hq (fun x r => Rr_nx hd rfl)
  case dup2 =>
    replace h := gA_inj h
    obtain ⟨rfl, h⟩ := h
    exact x_dup2 hk h hs hi hL ht hq (fun v w r hv hw => by
      refine Rr_nx hd ?_
      show g1 1 1 (o_dup2 _ _ _ _) = _
      simp only [g1, if_true, o_dup2, hv, hw, and_self]
      rfl)
  case goto off =>
    replace h := gA_inj h
    obtain ⟨rfl, h⟩ := h
    exact x_go hk h hs hi hL ht hq (fun t e => R_goto hd e)
  case if_icmp cc off =>
    replace h := gA_inj h
    obtain ⟨rfl, h⟩ := h
    exact x_if2 hk h hs hi hL ht hq (fun x y r t e => if2_eq hd e)
  case ifCond cc off =>
    replace h := gA_inj h
    obtain ⟨rfl, h⟩ := h
    exact x_if1 hk h hs hi hL ht hq (fun x r t e => if1_eq hd e)
  case ifnull off =>
    replace h := gA_inj h
    obtain ⟨rfl, h⟩ := h
    exact x_nul hk h hs hi hL ht hq (fun a r _ => R_nul1 hd) (fun a r t b _ => by cases b) (fun r t _ e => R_nul0 hd e) (fun r b => by cases b)
  case ifnonnull off =>
    replace h := gA_inj h
    obtain ⟨rfl, h⟩ := h
    exact x_nul hk h hs hi hL ht hq (fun a r b => by cases b) (fun a r t _ e => R_nnl1 hd e) (fun r t b _ => by cases b) (fun r _ => R_nnl0 hd)
  case tableswitch dflt lo hi' offs =>
    exact x_tab hk h hs hi hL ht hq hd
  case lookupswitch dflt ps =>
    exact x_lkp hk h hs hi hL ht hq hd
  case getfield iq =>
    replace h := gA_inj h
    obtain ⟨rfl, h⟩ := h
    rw [fFq_eq] at h
    exact x_gf hk h hs hi hL ht hq hd
  case putfield iq =>
    replace h := gA_inj h
    obtain ⟨rfl, h⟩ := h
    rw [fFq_eq] at h
    exact x_pf hJ hk h hs hi hL ht hq hd
  case iaload =>
    replace h := gA_inj h
    obtain ⟨rfl, h⟩ := h
    exact x_ia hX hk h hs hi hL ht hq (fun j a r q => R_ialW hd q) (fun j q n f r _ e => ialT_eq hd e)
  case baload =>
    replace h := gA_inj h
    obtain ⟨rfl, h⟩ := h
    exact x_ia hX hk h hs hi hL ht hq (fun j a r q => R_balW hd q) (fun j q n f r e _ => by cases e)
  case saload =>
    replace h := gA_inj h
    obtain ⟨rfl, h⟩ := h
    exact x_ia hX hk h hs hi hL ht hq (fun j a r q => R_salW hd q) (fun j q n f r e _ => by cases e)
  case laload =>
    replace h := gA_inj h
    obtain ⟨rfl, h⟩ := h
    exact x_la hk h hs hi hL ht hq hd
  case aaload =>
    replace h := gA_inj h
    obtain ⟨rfl, h⟩ := h
    exact x_aa hk h hs hi hL ht hq hd
  case iastore =>
    replace h := gA_inj h
    obtain ⟨rfl, h⟩ := h
    exact x_sa (F := fun x => x) (fun _ _ => rfl) hJ hk h hs hi hL ht hq (fun x j a r q => R_iasW hd q)
  case bastore =>
    replace h := gA_inj h
    obtain ⟨rfl, h⟩ := h
    exact x_sa (F := fun x => x.toInt8.toInt32) (fun e => by cases e) hJ hk h hs hi hL ht hq (fun x j a r q => R_basW hd q)
  case sastore =>
    replace h := gA_inj h
    obtain ⟨rfl, h⟩ := h
    exact x_sa (F := fun x => x.toInt16.toInt32) (fun e => by cases e) hJ hk h hs hi hL ht hq (fun x j a r q => R_sasW hd q)
  case lastore =>
    replace h := gA_inj h
    obtain ⟨rfl, h⟩ := h
    exact x_sl hJ hk h hs hi hL ht hq hd
  case arraylength =>
    replace h := gA_inj h
    obtain ⟨rfl, h⟩ := h
    exact x_len hX hk h hs hi hL ht hq hd
  case invokevirtual iq =>
    replace h := gA_inj h
    obtain ⟨rfl, h⟩ := h
    exact x_iv hdep hFl hC hk hc h hs hi hL ht hq hd
  case invokestatic iq =>
    replace h := gA_inj h
    obtain ⟨rfl, h⟩ := h
    exact x_is hJ hdep hFl hC hk hc h hs hi hL ht hq hd
  case getstatic iq =>
    replace h := gA_inj h
    obtain ⟨rfl, h⟩ := h
    exact x_gs hk h hs hi hL ht hq hd
  case ireturn =>
    replace h := gA_inj h
    obtain ⟨rfl, h⟩ := h
    exact x_ir h hs hi ht hq hd
  case lreturn =>
    replace h := gA_inj h
    obtain ⟨rfl, h⟩ := h
    exact x_lr h hs hi ht hq hd
  case areturn =>
    replace h := gA_inj h
    obtain ⟨rfl, h⟩ := h
    exact x_ar h hs hi ht hq hd
  case return_ =>
    replace h := gA_inj h
    obtain ⟨rfl, h⟩ := h
    exact x_vr h hs hi ht hq hd
  all_goals cases h
end X
