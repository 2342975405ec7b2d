theorem nx_inj {a a' : Nat} {b b' c c' : List Value} {d d' : Hp} (h : nx a b c d = some (.inl (a', b', c', d'))) : a = a' ∧ b = b' ∧ c = c' ∧ d = d' := by
  cases h
  exact ⟨rfl, rfl, rfl, rfl⟩
theorem g1_inj {len n : Nat} {r : Option Out} {o : Out} (h : g1 len n r = some o) : len = n ∧ r = some o := by
  unfold g1 at h
  split at h
  · exact ⟨by assumption, h⟩
  · cases h
theorem jp_inj {pc : Nat} {off : Int} {L st : List Value} {h : Hp} {o : Out} (ho : o_jp pc off L st h = some o) : ∃ pc' : Nat, (pc : Int) + off = (pc' : Int) ∧ o = .inl (pc', L, st, h) := by
  unfold o_jp at ho
  split at ho
  · cases ho
  · rename_i hn
    cases ho
    exact ⟨_, (Int.toNat_of_nonneg (by omega)).symm, rfl⟩
def gOK (h : Hp) (o : Out) : Prop := ∀ q, o = .inl q → h.1 ≤ q.2.2.2.1
theorem gOK_nx {h h' : Hp} {pc : Nat} {L st : List Value} {o : Out} (he : h.1 ≤ h'.1) (ho : nx pc L st h' = some o) : gOK h o := by
  cases ho
  intro q hq
  cases hq
  exact he
theorem gOK_jp {h : Hp} {pc : Nat} {off : Int} {L st : List Value} {o : Out} (ho : o_jp pc off L st h = some o) : gOK h o := by
  obtain ⟨pc', -, rfl⟩ := jp_inj ho
  intro q hq
  cases hq
  exact Nat.le_refl _
theorem gOK_call {M : MI} {av rest : List Value} {h : Hp} {o : Out} (ho : o_call M av rest = some o) : gOK h o := by
  unfold o_call at ho
  split at ho
  · cases ho
    intro q hq
    cases hq
  · cases ho
theorem gOK_math {h : Hp} {d pc : Nat} {L rest : List Value} {v : Value} {o : Out} (ho : o_math d pc L rest h v = some o) : gOK h o := by
  unfold o_math at ho
  split at ho
  · exact gOK_nx (Nat.le_refl _) ho
  · cases ho
theorem gOK_ret {v : Option Value} {h : Hp} {o : Out} (ho : (some (.inr (.inr v)) : Option Out) = some o) : gOK h o := by
  cases ho
  intro q hq
  cases hq
theorem gr_o_il {pc i : Nat} {L st : List Value} {h : Hp} {o : Out} (ho : o_il L st h pc i = some o) : gOK h o := by
  unfold o_il at ho
  repeat' split at ho
  all_goals first | (refine gOK_nx ?_ ho; exact Nat.le_refl _) | (refine gOK_nx ?_ ho; exact Nat.le_succ _) | exact gOK_jp ho | exact gOK_call ho | exact gOK_math ho | exact gOK_ret ho | (cases ho; done)
theorem gr_o_ll {pc i : Nat} {L st : List Value} {h : Hp} {o : Out} (ho : o_ll L st h pc i = some o) : gOK h o := by
  unfold o_ll at ho
  repeat' split at ho
  all_goals first | (refine gOK_nx ?_ ho; exact Nat.le_refl _) | (refine gOK_nx ?_ ho; exact Nat.le_succ _) | exact gOK_jp ho | exact gOK_call ho | exact gOK_math ho | exact gOK_ret ho | (cases ho; done)
theorem gr_o_al {pc i : Nat} {L st : List Value} {h : Hp} {o : Out} (ho : o_al L st h pc i = some o) : gOK h o := by
  unfold o_al at ho
  repeat' split at ho
  all_goals first | (refine gOK_nx ?_ ho; exact Nat.le_refl _) | (refine gOK_nx ?_ ho; exact Nat.le_succ _) | exact gOK_jp ho | exact gOK_call ho | exact gOK_math ho | exact gOK_ret ho | (cases ho; done)
theorem gr_o_is {pc i : Nat} {L st : List Value} {h : Hp} {o : Out} (ho : o_is L st h pc i = some o) : gOK h o := by
  unfold o_is at ho
  repeat' split at ho
  all_goals first | (refine gOK_nx ?_ ho; exact Nat.le_refl _) | (refine gOK_nx ?_ ho; exact Nat.le_succ _) | exact gOK_jp ho | exact gOK_call ho | exact gOK_math ho | exact gOK_ret ho | (cases ho; done)
theorem gr_o_ls {pc i : Nat} {L st : List Value} {h : Hp} {o : Out} (ho : o_ls L st h pc i = some o) : gOK h o := by
  unfold o_ls at ho
  repeat' split at ho
  all_goals first | (refine gOK_nx ?_ ho; exact Nat.le_refl _) | (refine gOK_nx ?_ ho; exact Nat.le_succ _) | exact gOK_jp ho | exact gOK_call ho | exact gOK_math ho | exact gOK_ret ho | (cases ho; done)
theorem gr_o_as {pc i : Nat} {L st : List Value} {h : Hp} {o : Out} (ho : o_as L st h pc i = some o) : gOK h o := by
  unfold o_as at ho
  repeat' split at ho
  all_goals first | (refine gOK_nx ?_ ho; exact Nat.le_refl _) | (refine gOK_nx ?_ ho; exact Nat.le_succ _) | exact gOK_jp ho | exact gOK_call ho | exact gOK_math ho | exact gOK_ret ho | (cases ho; done)
theorem gr_o_inc {pc i : Nat} {n : Int} {L st : List Value} {h : Hp} {o : Out} (ho : o_inc L st h pc i n = some o) : gOK h o := by
  unfold o_inc at ho
  repeat' split at ho
  all_goals first | (refine gOK_nx ?_ ho; exact Nat.le_refl _) | (refine gOK_nx ?_ ho; exact Nat.le_succ _) | exact gOK_jp ho | exact gOK_call ho | exact gOK_math ho | exact gOK_ret ho | (cases ho; done)
theorem gr_o_ii {f : Int32 → Int32 → Int32} {pc : Nat} {L st : List Value} {h : Hp} {o : Out} (ho : o_ii f L st h pc = some o) : gOK h o := by
  unfold o_ii at ho
  repeat' split at ho
  all_goals first | (refine gOK_nx ?_ ho; exact Nat.le_refl _) | (refine gOK_nx ?_ ho; exact Nat.le_succ _) | exact gOK_jp ho | exact gOK_call ho | exact gOK_math ho | exact gOK_ret ho | (cases ho; done)
theorem gr_o_i0 {f : Int32 → Int32 → Int32} {pc : Nat} {L st : List Value} {h : Hp} {o : Out} (ho : o_i0 f L st h pc = some o) : gOK h o := by
  unfold o_i0 at ho
  repeat' split at ho
  all_goals first | (refine gOK_nx ?_ ho; exact Nat.le_refl _) | (refine gOK_nx ?_ ho; exact Nat.le_succ _) | exact gOK_jp ho | exact gOK_call ho | exact gOK_math ho | exact gOK_ret ho | (cases ho; done)
theorem gr_o_i {f : Int32 → Int32} {pc : Nat} {L st : List Value} {h : Hp} {o : Out} (ho : o_i f L st h pc = some o) : gOK h o := by
  unfold o_i at ho
  repeat' split at ho
  all_goals first | (refine gOK_nx ?_ ho; exact Nat.le_refl _) | (refine gOK_nx ?_ ho; exact Nat.le_succ _) | exact gOK_jp ho | exact gOK_call ho | exact gOK_math ho | exact gOK_ret ho | (cases ho; done)
theorem gr_o_lL {f : Int64 → Int64 → Int64} {pc : Nat} {L st : List Value} {h : Hp} {o : Out} (ho : o_lL f L st h pc = some o) : gOK h o := by
  unfold o_lL at ho
  repeat' split at ho
  all_goals first | (refine gOK_nx ?_ ho; exact Nat.le_refl _) | (refine gOK_nx ?_ ho; exact Nat.le_succ _) | exact gOK_jp ho | exact gOK_call ho | exact gOK_math ho | exact gOK_ret ho | (cases ho; done)
theorem gr_o_l0 {f : Int64 → Int64 → Int64} {pc : Nat} {L st : List Value} {h : Hp} {o : Out} (ho : o_l0 f L st h pc = some o) : gOK h o := by
  unfold o_l0 at ho
  repeat' split at ho
  all_goals first | (refine gOK_nx ?_ ho; exact Nat.le_refl _) | (refine gOK_nx ?_ ho; exact Nat.le_succ _) | exact gOK_jp ho | exact gOK_call ho | exact gOK_math ho | exact gOK_ret ho | (cases ho; done)
theorem gr_o_lsh {f : Int64 → Int32 → Int64} {pc : Nat} {L st : List Value} {h : Hp} {o : Out} (ho : o_lsh f L st h pc = some o) : gOK h o := by
  unfold o_lsh at ho
  repeat' split at ho
  all_goals first | (refine gOK_nx ?_ ho; exact Nat.le_refl _) | (refine gOK_nx ?_ ho; exact Nat.le_succ _) | exact gOK_jp ho | exact gOK_call ho | exact gOK_math ho | exact gOK_ret ho | (cases ho; done)
theorem gr_o_i2l {pc : Nat} {L st : List Value} {h : Hp} {o : Out} (ho : o_i2l L st h pc = some o) : gOK h o := by
  unfold o_i2l at ho
  repeat' split at ho
  all_goals first | (refine gOK_nx ?_ ho; exact Nat.le_refl _) | (refine gOK_nx ?_ ho; exact Nat.le_succ _) | exact gOK_jp ho | exact gOK_call ho | exact gOK_math ho | exact gOK_ret ho | (cases ho; done)
theorem gr_o_l2i {pc : Nat} {L st : List Value} {h : Hp} {o : Out} (ho : o_l2i L st h pc = some o) : gOK h o := by
  unfold o_l2i at ho
  repeat' split at ho
  all_goals first | (refine gOK_nx ?_ ho; exact Nat.le_refl _) | (refine gOK_nx ?_ ho; exact Nat.le_succ _) | exact gOK_jp ho | exact gOK_call ho | exact gOK_math ho | exact gOK_ret ho | (cases ho; done)
theorem gr_o_lcmp {pc : Nat} {L st : List Value} {h : Hp} {o : Out} (ho : o_lcmp L st h pc = some o) : gOK h o := by
  unfold o_lcmp at ho
  repeat' split at ho
  all_goals first | (refine gOK_nx ?_ ho; exact Nat.le_refl _) | (refine gOK_nx ?_ ho; exact Nat.le_succ _) | exact gOK_jp ho | exact gOK_call ho | exact gOK_math ho | exact gOK_ret ho | (cases ho; done)
theorem gr_o_pop2 {pc : Nat} {L st : List Value} {h : Hp} {o : Out} (ho : o_pop2 L st h pc = some o) : gOK h o := by
  unfold o_pop2 at ho
  repeat' split at ho
  all_goals first | (refine gOK_nx ?_ ho; exact Nat.le_refl _) | (cases ho; done)
theorem gr_o_gs {oo i pc : Nat} {L st : List Value} {h : Hp} {o : Out} (ho : o_gs oo i L st h pc = some o) : gOK h o := by
  unfold o_gs at ho
  repeat' split at ho
  all_goals first | (refine gOK_nx ?_ ho; exact Nat.le_refl _) | (cases ho; done)
theorem gr_o_cp {d pc : Nat} {L st : List Value} {h : Hp} {o : Out} (ho : o_cp d pc L st h = some o) : gOK h o := by
  unfold o_cp at ho
  repeat' split at ho
  all_goals first | (refine gOK_nx ?_ ho; exact Nat.le_refl _) | (cases ho; done)
theorem gr_o_dup {pc : Nat} {L st : List Value} {h : Hp} {o : Out} (ho : o_dup L st h pc = some o) : gOK h o := by
  unfold o_dup at ho
  repeat' split at ho
  all_goals first | (refine gOK_nx ?_ ho; exact Nat.le_refl _) | (refine gOK_nx ?_ ho; exact Nat.le_succ _) | exact gOK_jp ho | exact gOK_call ho | exact gOK_math ho | exact gOK_ret ho | (cases ho; done)
theorem gr_o_pop {pc : Nat} {L st : List Value} {h : Hp} {o : Out} (ho : o_pop L st h pc = some o) : gOK h o := by
  unfold o_pop at ho
  repeat' split at ho
  all_goals first | (refine gOK_nx ?_ ho; exact Nat.le_refl _) | (refine gOK_nx ?_ ho; exact Nat.le_succ _) | exact gOK_jp ho | exact gOK_call ho | exact gOK_math ho | exact gOK_ret ho | (cases ho; done)
theorem gr_o_dup2 {pc : Nat} {L st : List Value} {h : Hp} {o : Out} (ho : o_dup2 L st h pc = some o) : gOK h o := by
  unfold o_dup2 at ho
  repeat' split at ho
  all_goals first | (refine gOK_nx ?_ ho; exact Nat.le_refl _) | (refine gOK_nx ?_ ho; exact Nat.le_succ _) | exact gOK_jp ho | exact gOK_call ho | exact gOK_math ho | exact gOK_ret ho | (cases ho; done)
theorem gr_o_lal {pc : Nat} {L st : List Value} {h : Hp} {o : Out} (ho : o_lal L st h pc = some o) : gOK h o := by
  unfold o_lal at ho
  repeat' split at ho
  all_goals first | (refine gOK_nx ?_ ho; exact Nat.le_refl _) | (refine gOK_nx ?_ ho; exact Nat.le_succ _) | exact gOK_jp ho | exact gOK_call ho | exact gOK_math ho | exact gOK_ret ho | (cases ho; done)
theorem gr_o_aal {pc : Nat} {L st : List Value} {h : Hp} {o : Out} (ho : o_aal L st h pc = some o) : gOK h o := by
  unfold o_aal at ho
  repeat' split at ho
  all_goals first | (refine gOK_nx ?_ ho; exact Nat.le_refl _) | (refine gOK_nx ?_ ho; exact Nat.le_succ _) | exact gOK_jp ho | exact gOK_call ho | exact gOK_math ho | exact gOK_ret ho | (cases ho; done)
theorem gr_o_las {pc : Nat} {L st : List Value} {h : Hp} {o : Out} (ho : o_las L st h pc = some o) : gOK h o := by
  unfold o_las at ho
  repeat' split at ho
  all_goals first | (refine gOK_nx ?_ ho; exact Nat.le_refl _) | (refine gOK_nx ?_ ho; exact Nat.le_succ _) | exact gOK_jp ho | exact gOK_call ho | exact gOK_math ho | exact gOK_ret ho | (cases ho; done)
theorem gr_o_aas {pc : Nat} {L st : List Value} {h : Hp} {o : Out} (ho : o_aas L st h pc = some o) : gOK h o := by
  unfold o_aas at ho
  repeat' split at ho
  all_goals first | (refine gOK_nx ?_ ho; exact Nat.le_refl _) | (refine gOK_nx ?_ ho; exact Nat.le_succ _) | exact gOK_jp ho | exact gOK_call ho | exact gOK_math ho | exact gOK_ret ho | (cases ho; done)
theorem gr_o_if2 {cc : ClassFile.Cond} {off : Int} {pc : Nat} {L st : List Value} {h : Hp} {o : Out} (ho : o_if2 cc off L st h pc = some o) : gOK h o := by
  unfold o_if2 at ho
  repeat' split at ho
  all_goals first | (refine gOK_nx ?_ ho; exact Nat.le_refl _) | (refine gOK_nx ?_ ho; exact Nat.le_succ _) | exact gOK_jp ho | exact gOK_call ho | exact gOK_math ho | exact gOK_ret ho | (cases ho; done)
theorem gr_o_if1 {cc : ClassFile.Cond} {off : Int} {pc : Nat} {L st : List Value} {h : Hp} {o : Out} (ho : o_if1 cc off L st h pc = some o) : gOK h o := by
  unfold o_if1 at ho
  repeat' split at ho
  all_goals first | (refine gOK_nx ?_ ho; exact Nat.le_refl _) | (refine gOK_nx ?_ ho; exact Nat.le_succ _) | exact gOK_jp ho | exact gOK_call ho | exact gOK_math ho | exact gOK_ret ho | (cases ho; done)
theorem gr_o_nul {b : Bool} {off : Int} {pc : Nat} {L st : List Value} {h : Hp} {o : Out} (ho : o_nul b off L st h pc = some o) : gOK h o := by
  unfold o_nul at ho
  repeat' split at ho
  all_goals first | (refine gOK_nx ?_ ho; exact Nat.le_refl _) | (refine gOK_nx ?_ ho; exact Nat.le_succ _) | exact gOK_jp ho | exact gOK_call ho | exact gOK_math ho | exact gOK_ret ho | (cases ho; done)
theorem gr_o_tab {dflt lo hi : Int} {offs : Array Int} {pc : Nat} {L st : List Value} {h : Hp} {o : Out} (ho : o_tab dflt lo hi offs L st h pc = some o) : gOK h o := by
  unfold o_tab at ho
  repeat' split at ho
  all_goals first | (refine gOK_nx ?_ ho; exact Nat.le_refl _) | (refine gOK_nx ?_ ho; exact Nat.le_succ _) | exact gOK_jp ho | exact gOK_call ho | exact gOK_math ho | exact gOK_ret ho | (cases ho; done)
theorem gr_o_lkp {dflt : Int} {ps : Array (Int × Int)} {pc : Nat} {L st : List Value} {h : Hp} {o : Out} (ho : o_lkp dflt ps L st h pc = some o) : gOK h o := by
  unfold o_lkp at ho
  repeat' split at ho
  all_goals first | (refine gOK_nx ?_ ho; exact Nat.le_refl _) | (refine gOK_nx ?_ ho; exact Nat.le_succ _) | exact gOK_jp ho | exact gOK_call ho | exact gOK_math ho | exact gOK_ret ho | (cases ho; done)
theorem gr_o_gf {oo i pc : Nat} {L st : List Value} {h : Hp} {o : Out} (ho : o_gf oo i L st h pc = some o) : gOK h o := by
  unfold o_gf at ho
  repeat' split at ho
  all_goals first | (refine gOK_nx ?_ ho; exact Nat.le_refl _) | (refine gOK_nx ?_ ho; exact Nat.le_succ _) | exact gOK_jp ho | exact gOK_call ho | exact gOK_math ho | exact gOK_ret ho | (cases ho; done)
theorem gr_o_new {oo i pc : Nat} {L st : List Value} {h : Hp} {o : Out} (ho : o_new oo i L st h pc = some o) : gOK h o := by
  unfold o_new at ho
  repeat' split at ho
  all_goals first | (refine gOK_nx ?_ ho; exact Nat.le_refl _) | (refine gOK_nx ?_ ho; exact Nat.le_succ _) | exact gOK_jp ho | exact gOK_call ho | exact gOK_math ho | exact gOK_ret ho | (cases ho; done)
theorem gr_o_anw {oo i pc : Nat} {L st : List Value} {h : Hp} {o : Out} (ho : o_anw oo i L st h pc = some o) : gOK h o := by
  unfold o_anw at ho
  repeat' split at ho
  all_goals first | (refine gOK_nx ?_ ho; exact Nat.le_refl _) | (refine gOK_nx ?_ ho; exact Nat.le_succ _) | exact gOK_jp ho | exact gOK_call ho | exact gOK_math ho | exact gOK_ret ho | (cases ho; done)
theorem gr_o_ldc {oo i pc : Nat} {L st : List Value} {h : Hp} {o : Out} (ho : o_ldc oo i L st h pc = some o) : gOK h o := by
  unfold o_ldc at ho
  repeat' split at ho
  all_goals first | (refine gOK_nx ?_ ho; exact Nat.le_refl _) | (refine gOK_nx ?_ ho; exact Nat.le_succ _) | exact gOK_jp ho | exact gOK_call ho | exact gOK_math ho | exact gOK_ret ho | (cases ho; done)
theorem gr_o_ldl {oo i pc : Nat} {L st : List Value} {h : Hp} {o : Out} (ho : o_ldl oo i L st h pc = some o) : gOK h o := by
  unfold o_ldl at ho
  repeat' split at ho
  all_goals first | (refine gOK_nx ?_ ho; exact Nat.le_refl _) | (refine gOK_nx ?_ ho; exact Nat.le_succ _) | exact gOK_jp ho | exact gOK_call ho | exact gOK_math ho | exact gOK_ret ho | (cases ho; done)
theorem gr_o_iv {oo i pc : Nat} {L st : List Value} {h : Hp} {o : Out} (ho : o_iv oo i L st h pc = some o) : gOK h o := by
  unfold o_iv at ho
  repeat' split at ho
  all_goals first | (refine gOK_nx ?_ ho; exact Nat.le_refl _) | (refine gOK_nx ?_ ho; exact Nat.le_succ _) | exact gOK_jp ho | exact gOK_call ho | exact gOK_math ho | exact gOK_ret ho | (cases ho; done)
theorem gr_o_pf {ini : Bool} {oo i pc : Nat} {L st : List Value} {h : Hp} {o : Out} (ho : o_pf ini oo i L st h pc = some o) : gOK h o := by
  unfold o_pf at ho
  repeat' split at ho
  all_goals first | (refine gOK_nx ?_ ho; exact Nat.le_refl _) | (refine gOK_nx ?_ ho; exact Nat.le_succ _) | exact gOK_jp ho | exact gOK_call ho | exact gOK_math ho | exact gOK_ret ho | (cases ho; done)
theorem gr_o_ial {X : Tok} {t pc : Nat} {L st : List Value} {h : Hp} {o : Out} (ho : o_ial X t L st h pc = some o) : gOK h o := by
  unfold o_ial at ho
  repeat' split at ho
  all_goals first | (refine gOK_nx ?_ ho; exact Nat.le_refl _) | (refine gOK_nx ?_ ho; exact Nat.le_succ _) | exact gOK_jp ho | exact gOK_call ho | exact gOK_math ho | exact gOK_ret ho | (cases ho; done)
theorem gr_o_len {X : Tok} {pc : Nat} {L st : List Value} {h : Hp} {o : Out} (ho : o_len X L st h pc = some o) : gOK h o := by
  unfold o_len at ho
  repeat' split at ho
  all_goals first | (refine gOK_nx ?_ ho; exact Nat.le_refl _) | (refine gOK_nx ?_ ho; exact Nat.le_succ _) | exact gOK_jp ho | exact gOK_call ho | exact gOK_math ho | exact gOK_ret ho | (cases ho; done)
theorem gr_o_ias {t : Nat} {nar : Int32 → Int32} {pc : Nat} {L st : List Value} {h : Hp} {o : Out} (ho : o_ias t nar L st h pc = some o) : gOK h o := by
  unfold o_ias at ho
  repeat' split at ho
  all_goals first | (refine gOK_nx ?_ ho; exact Nat.le_refl _) | (refine gOK_nx ?_ ho; exact Nat.le_succ _) | exact gOK_jp ho | exact gOK_call ho | exact gOK_math ho | exact gOK_ret ho | (cases ho; done)
theorem gr_o_nwa {at' : ArrayType} {pc : Nat} {L st : List Value} {h : Hp} {o : Out} (ho : o_nwa at' L st h pc = some o) : gOK h o := by
  unfold o_nwa at ho
  repeat' split at ho
  all_goals first | (refine gOK_nx ?_ ho; exact Nat.le_refl _) | (refine gOK_nx ?_ ho; exact Nat.le_succ _) | exact gOK_jp ho | exact gOK_call ho | exact gOK_math ho | exact gOK_ret ho | (cases ho; done)
theorem gr_o_is1 {d oo i pc : Nat} {L st : List Value} {h : Hp} {o : Out} (ho : o_is1 d oo i L st h pc = some o) : gOK h o := by
  unfold o_is1 at ho
  repeat' split at ho
  all_goals first | (refine gOK_nx ?_ ho; exact Nat.le_refl _) | (refine gOK_nx ?_ ho; exact Nat.le_succ _) | exact gOK_jp ho | exact gOK_call ho | exact gr_o_cp ho | exact gOK_math ho | exact gOK_ret ho | (cases ho; done)
theorem gr_o_ip {d oo i pc : Nat} {L st : List Value} {h : Hp} {o : Out} (ho : o_ip d oo i L st h pc = some o) : gOK h o := by
  unfold o_ip at ho
  repeat' split at ho
  all_goals first | (refine gOK_nx ?_ ho; exact Nat.le_refl _) | (refine gOK_nx ?_ ho; exact Nat.le_succ _) | exact gOK_jp ho | exact gOK_call ho | exact gOK_math ho | exact gOK_ret ho | (cases ho; done)
theorem gr_o_ir {rt : Option FieldType} {st : List Value} {h : Hp} {o : Out} (ho : o_ir rt st = some o) : gOK h o := by
  unfold o_ir at ho
  repeat' split at ho
  all_goals first | (refine gOK_nx ?_ ho; exact Nat.le_refl _) | (refine gOK_nx ?_ ho; exact Nat.le_succ _) | exact gOK_jp ho | exact gOK_call ho | exact gOK_math ho | exact gOK_ret ho | (cases ho; done)
theorem gr_o_lr {rt : Option FieldType} {st : List Value} {h : Hp} {o : Out} (ho : o_lr rt st = some o) : gOK h o := by
  unfold o_lr at ho
  repeat' split at ho
  all_goals first | (refine gOK_nx ?_ ho; exact Nat.le_refl _) | (refine gOK_nx ?_ ho; exact Nat.le_succ _) | exact gOK_jp ho | exact gOK_call ho | exact gOK_math ho | exact gOK_ret ho | (cases ho; done)
theorem gr_o_ar {rt : Option FieldType} {st : List Value} {h : Hp} {o : Out} (ho : o_ar rt st = some o) : gOK h o := by
  unfold o_ar at ho
  repeat' split at ho
  all_goals first | (refine gOK_nx ?_ ho; exact Nat.le_refl _) | (refine gOK_nx ?_ ho; exact Nat.le_succ _) | exact gOK_jp ho | exact gOK_call ho | exact gOK_math ho | exact gOK_ret ho | (cases ho; done)
theorem gr_o_vr {rt : Option FieldType} {st : List Value} {h : Hp} {o : Out} (ho : o_vr rt st = some o) : gOK h o := by
  unfold o_vr at ho
  repeat' split at ho
  all_goals first | (refine gOK_nx ?_ ho; exact Nat.le_refl _) | (refine gOK_nx ?_ ho; exact Nat.le_succ _) | exact gOK_jp ho | exact gOK_call ho | exact gOK_math ho | exact gOK_ret ho | (cases ho; done)
theorem gr_ex {X : Tok} {d : Nat} {M : MI} {pc : Nat} {ins : Instr} {len : Nat} {L st : List Value} {h : Hp} {o : Out} (ho : ex X d M pc ins len L st h = some o) : gOK h o := by
  cases ins
  all_goals first
    | (cases ho; done)
    | exact gOK_nx (Nat.le_refl _) (g1_inj ho).2
    | exact gOK_jp (g1_inj ho).2
    | exact gr_o_tab ho
    | exact gr_o_lkp ho
    | exact gr_o_il (g1_inj ho).2
    | exact gr_o_ll (g1_inj ho).2
    | exact gr_o_al (g1_inj ho).2
    | exact gr_o_is (g1_inj ho).2
    | exact gr_o_ls (g1_inj ho).2
    | exact gr_o_as (g1_inj ho).2
    | exact gr_o_inc (g1_inj ho).2
    | exact gr_o_ii (g1_inj ho).2
    | exact gr_o_i0 (g1_inj ho).2
    | exact gr_o_i (g1_inj ho).2
    | exact gr_o_lL (g1_inj ho).2
    | exact gr_o_l0 (g1_inj ho).2
    | exact gr_o_lsh (g1_inj ho).2
    | exact gr_o_i2l (g1_inj ho).2
    | exact gr_o_l2i (g1_inj ho).2
    | exact gr_o_lcmp (g1_inj ho).2
    | exact gr_o_dup (g1_inj ho).2
    | exact gr_o_pop (g1_inj ho).2
    | exact gr_o_pop2 (g1_inj ho).2
    | exact gr_o_gs (g1_inj ho).2
    | exact gr_o_dup2 (g1_inj ho).2
    | exact gr_o_lal (g1_inj ho).2
    | exact gr_o_aal (g1_inj ho).2
    | exact gr_o_las (g1_inj ho).2
    | exact gr_o_aas (g1_inj ho).2
    | exact gr_o_if2 (g1_inj ho).2
    | exact gr_o_if1 (g1_inj ho).2
    | exact gr_o_nul (g1_inj ho).2
    | exact gr_o_gf (g1_inj ho).2
    | exact gr_o_new (g1_inj ho).2
    | exact gr_o_anw (g1_inj ho).2
    | exact gr_o_ldc (g1_inj ho).2
    | exact gr_o_ldl (g1_inj ho).2
    | exact gr_o_iv (g1_inj ho).2
    | exact gr_o_pf (g1_inj ho).2
    | exact gr_o_ial (g1_inj ho).2
    | exact gr_o_len (g1_inj ho).2
    | exact gr_o_ias (g1_inj ho).2
    | exact gr_o_nwa (g1_inj ho).2
    | exact gr_o_is1 (g1_inj ho).2
    | exact gr_o_ip (g1_inj ho).2
    | exact gr_o_ir (g1_inj ho).2
    | exact gr_o_lr (g1_inj ho).2
    | exact gr_o_ar (g1_inj ho).2
    | exact gr_o_vr (g1_inj ho).2
theorem stp_grow {X : Tok} {d : Nat} {M : MI} {pc : Nat} {L st : List Value} {h : Hp} {q : Nat × List Value × List Value × Hp} (ho : stp X d M pc L st h = some (.inl q)) : h.1 ≤ q.2.2.2.1 := by
  unfold stp at ho
  split at ho
  · exact gr_ex ho q rfl
  · cases ho
theorem run_grow {X : Tok} : ∀ (f d : Nat) (M : MI) (pc : Nat) (L st : List Value) (h : Hp) (v : Option Value) (h' : Hp), run X f d M pc L st h = some (v, h') → h.1 ≤ h'.1 := by
  intro f
  induction f with
  | zero => intro d M pc L st h v h' hr; exact absurd hr (by simp [run])
  | succ f ih =>
    intro d M pc L st h v h' hr
    rw [run] at hr
    cases hs : stp X d M pc L st h with
    | none => rw [hs] at hr; exact absurd hr (by simp)
    | some o =>
      rw [hs] at hr
      rcases o with q | ⟨M', av, rest⟩ | w
      · obtain ⟨pc1, L1, st1, h1⟩ := q
        exact Nat.le_trans (stp_grow hs) (ih _ _ _ _ _ _ _ _ hr)
      · cases d with
        | zero => exact absurd hr (by simp)
        | succ d' =>
          simp only at hr
          cases hq : run X f d' M' 0 (ent M' av) [] h with
          | none => rw [hq] at hr; exact absurd hr (by simp)
          | some q =>
            rw [hq] at hr
            exact Nat.le_trans (ih _ _ _ _ _ _ _ _ hq) (ih _ _ _ _ _ _ _ _ hr)
      · cases hr
        exact Nat.le_refl _
def kN (o : Out) : Prop := ∃ q, o = .inl q
theorem kN_nx {h' : Hp} {pc : Nat} {L st : List Value} {o : Out} (ho : nx pc L st h' = some o) : kN o := by
  cases ho
  exact ⟨_, rfl⟩
theorem kN_jp {h : Hp} {pc : Nat} {off : Int} {L st : List Value} {o : Out} (ho : o_jp pc off L st h = some o) : kN o := by
  obtain ⟨pc', -, rfl⟩ := jp_inj ho
  exact ⟨_, rfl⟩
def kd (i : Instr) : Nat := match i with
  | .invokevirtual _ => 1
  | .invokestatic _ => 1
  | .invokespecial _ => 1
  | .ireturn => 2
  | .lreturn => 2
  | .areturn => 2
  | .return_ => 2
  | _ => 0
def kR (o : Out) : Prop := ∃ v, o = .inr (.inr v)
theorem kR_ret {v : Option Value} {o : Out} (ho : (some (.inr (.inr v)) : Option Out) = some o) : kR o := by
  cases ho
  exact ⟨_, rfl⟩
theorem kn_o_il {pc i : Nat} {L st : List Value} {h : Hp} {o : Out} (ho : o_il L st h pc i = some o) : kN o := by
  unfold o_il at ho
  repeat' split at ho
  all_goals first | exact kN_nx ho | exact kN_jp ho | (cases ho; done)
theorem kn_o_ll {pc i : Nat} {L st : List Value} {h : Hp} {o : Out} (ho : o_ll L st h pc i = some o) : kN o := by
  unfold o_ll at ho
  repeat' split at ho
  all_goals first | exact kN_nx ho | exact kN_jp ho | (cases ho; done)
theorem kn_o_al {pc i : Nat} {L st : List Value} {h : Hp} {o : Out} (ho : o_al L st h pc i = some o) : kN o := by
  unfold o_al at ho
  repeat' split at ho
  all_goals first | exact kN_nx ho | exact kN_jp ho | (cases ho; done)
theorem kn_o_is {pc i : Nat} {L st : List Value} {h : Hp} {o : Out} (ho : o_is L st h pc i = some o) : kN o := by
  unfold o_is at ho
  repeat' split at ho
  all_goals first | exact kN_nx ho | exact kN_jp ho | (cases ho; done)
theorem kn_o_ls {pc i : Nat} {L st : List Value} {h : Hp} {o : Out} (ho : o_ls L st h pc i = some o) : kN o := by
  unfold o_ls at ho
  repeat' split at ho
  all_goals first | exact kN_nx ho | exact kN_jp ho | (cases ho; done)
theorem kn_o_as {pc i : Nat} {L st : List Value} {h : Hp} {o : Out} (ho : o_as L st h pc i = some o) : kN o := by
  unfold o_as at ho
  repeat' split at ho
  all_goals first | exact kN_nx ho | exact kN_jp ho | (cases ho; done)
theorem kn_o_inc {pc i : Nat} {n : Int} {L st : List Value} {h : Hp} {o : Out} (ho : o_inc L st h pc i n = some o) : kN o := by
  unfold o_inc at ho
  repeat' split at ho
  all_goals first | exact kN_nx ho | exact kN_jp ho | (cases ho; done)
theorem kn_o_ii {f : Int32 → Int32 → Int32} {pc : Nat} {L st : List Value} {h : Hp} {o : Out} (ho : o_ii f L st h pc = some o) : kN o := by
  unfold o_ii at ho
  repeat' split at ho
  all_goals first | exact kN_nx ho | exact kN_jp ho | (cases ho; done)
theorem kn_o_i0 {f : Int32 → Int32 → Int32} {pc : Nat} {L st : List Value} {h : Hp} {o : Out} (ho : o_i0 f L st h pc = some o) : kN o := by
  unfold o_i0 at ho
  repeat' split at ho
  all_goals first | exact kN_nx ho | exact kN_jp ho | (cases ho; done)
theorem kn_o_i {f : Int32 → Int32} {pc : Nat} {L st : List Value} {h : Hp} {o : Out} (ho : o_i f L st h pc = some o) : kN o := by
  unfold o_i at ho
  repeat' split at ho
  all_goals first | exact kN_nx ho | exact kN_jp ho | (cases ho; done)
theorem kn_o_lL {f : Int64 → Int64 → Int64} {pc : Nat} {L st : List Value} {h : Hp} {o : Out} (ho : o_lL f L st h pc = some o) : kN o := by
  unfold o_lL at ho
  repeat' split at ho
  all_goals first | exact kN_nx ho | exact kN_jp ho | (cases ho; done)
theorem kn_o_l0 {f : Int64 → Int64 → Int64} {pc : Nat} {L st : List Value} {h : Hp} {o : Out} (ho : o_l0 f L st h pc = some o) : kN o := by
  unfold o_l0 at ho
  repeat' split at ho
  all_goals first | exact kN_nx ho | exact kN_jp ho | (cases ho; done)
theorem kn_o_lsh {f : Int64 → Int32 → Int64} {pc : Nat} {L st : List Value} {h : Hp} {o : Out} (ho : o_lsh f L st h pc = some o) : kN o := by
  unfold o_lsh at ho
  repeat' split at ho
  all_goals first | exact kN_nx ho | exact kN_jp ho | (cases ho; done)
theorem kn_o_i2l {pc : Nat} {L st : List Value} {h : Hp} {o : Out} (ho : o_i2l L st h pc = some o) : kN o := by
  unfold o_i2l at ho
  repeat' split at ho
  all_goals first | exact kN_nx ho | exact kN_jp ho | (cases ho; done)
theorem kn_o_l2i {pc : Nat} {L st : List Value} {h : Hp} {o : Out} (ho : o_l2i L st h pc = some o) : kN o := by
  unfold o_l2i at ho
  repeat' split at ho
  all_goals first | exact kN_nx ho | exact kN_jp ho | (cases ho; done)
theorem kn_o_lcmp {pc : Nat} {L st : List Value} {h : Hp} {o : Out} (ho : o_lcmp L st h pc = some o) : kN o := by
  unfold o_lcmp at ho
  repeat' split at ho
  all_goals first | exact kN_nx ho | exact kN_jp ho | (cases ho; done)
theorem kn_o_pop2 {pc : Nat} {L st : List Value} {h : Hp} {o : Out} (ho : o_pop2 L st h pc = some o) : kN o := by
  unfold o_pop2 at ho
  repeat' split at ho
  all_goals first | exact kN_nx ho | exact kN_jp ho | (cases ho; done)
theorem kn_o_gs {oo i pc : Nat} {L st : List Value} {h : Hp} {o : Out} (ho : o_gs oo i L st h pc = some o) : kN o := by
  unfold o_gs at ho
  repeat' split at ho
  all_goals first | exact kN_nx ho | exact kN_jp ho | (cases ho; done)
theorem kn_o_dup {pc : Nat} {L st : List Value} {h : Hp} {o : Out} (ho : o_dup L st h pc = some o) : kN o := by
  unfold o_dup at ho
  repeat' split at ho
  all_goals first | exact kN_nx ho | exact kN_jp ho | (cases ho; done)
theorem kn_o_pop {pc : Nat} {L st : List Value} {h : Hp} {o : Out} (ho : o_pop L st h pc = some o) : kN o := by
  unfold o_pop at ho
  repeat' split at ho
  all_goals first | exact kN_nx ho | exact kN_jp ho | (cases ho; done)
theorem kn_o_dup2 {pc : Nat} {L st : List Value} {h : Hp} {o : Out} (ho : o_dup2 L st h pc = some o) : kN o := by
  unfold o_dup2 at ho
  repeat' split at ho
  all_goals first | exact kN_nx ho | exact kN_jp ho | (cases ho; done)
theorem kn_o_lal {pc : Nat} {L st : List Value} {h : Hp} {o : Out} (ho : o_lal L st h pc = some o) : kN o := by
  unfold o_lal at ho
  repeat' split at ho
  all_goals first | exact kN_nx ho | exact kN_jp ho | (cases ho; done)
theorem kn_o_aal {pc : Nat} {L st : List Value} {h : Hp} {o : Out} (ho : o_aal L st h pc = some o) : kN o := by
  unfold o_aal at ho
  repeat' split at ho
  all_goals first | exact kN_nx ho | exact kN_jp ho | (cases ho; done)
theorem kn_o_las {pc : Nat} {L st : List Value} {h : Hp} {o : Out} (ho : o_las L st h pc = some o) : kN o := by
  unfold o_las at ho
  repeat' split at ho
  all_goals first | exact kN_nx ho | exact kN_jp ho | (cases ho; done)
theorem kn_o_aas {pc : Nat} {L st : List Value} {h : Hp} {o : Out} (ho : o_aas L st h pc = some o) : kN o := by
  unfold o_aas at ho
  repeat' split at ho
  all_goals first | exact kN_nx ho | exact kN_jp ho | (cases ho; done)
theorem kn_o_if2 {cc : ClassFile.Cond} {off : Int} {pc : Nat} {L st : List Value} {h : Hp} {o : Out} (ho : o_if2 cc off L st h pc = some o) : kN o := by
  unfold o_if2 at ho
  repeat' split at ho
  all_goals first | exact kN_nx ho | exact kN_jp ho | (cases ho; done)
theorem kn_o_if1 {cc : ClassFile.Cond} {off : Int} {pc : Nat} {L st : List Value} {h : Hp} {o : Out} (ho : o_if1 cc off L st h pc = some o) : kN o := by
  unfold o_if1 at ho
  repeat' split at ho
  all_goals first | exact kN_nx ho | exact kN_jp ho | (cases ho; done)
theorem kn_o_nul {b : Bool} {off : Int} {pc : Nat} {L st : List Value} {h : Hp} {o : Out} (ho : o_nul b off L st h pc = some o) : kN o := by
  unfold o_nul at ho
  repeat' split at ho
  all_goals first | exact kN_nx ho | exact kN_jp ho | (cases ho; done)
theorem kn_o_tab {dflt lo hi : Int} {offs : Array Int} {pc : Nat} {L st : List Value} {h : Hp} {o : Out} (ho : o_tab dflt lo hi offs L st h pc = some o) : kN o := by
  unfold o_tab at ho
  repeat' split at ho
  all_goals first | exact kN_nx ho | exact kN_jp ho | (cases ho; done)
theorem kn_o_lkp {dflt : Int} {ps : Array (Int × Int)} {pc : Nat} {L st : List Value} {h : Hp} {o : Out} (ho : o_lkp dflt ps L st h pc = some o) : kN o := by
  unfold o_lkp at ho
  repeat' split at ho
  all_goals first | exact kN_nx ho | exact kN_jp ho | (cases ho; done)
theorem kn_o_gf {oo i pc : Nat} {L st : List Value} {h : Hp} {o : Out} (ho : o_gf oo i L st h pc = some o) : kN o := by
  unfold o_gf at ho
  repeat' split at ho
  all_goals first | exact kN_nx ho | exact kN_jp ho | (cases ho; done)
theorem kn_o_new {oo i pc : Nat} {L st : List Value} {h : Hp} {o : Out} (ho : o_new oo i L st h pc = some o) : kN o := by
  unfold o_new at ho
  repeat' split at ho
  all_goals first | exact kN_nx ho | exact kN_jp ho | (cases ho; done)
theorem kn_o_anw {oo i pc : Nat} {L st : List Value} {h : Hp} {o : Out} (ho : o_anw oo i L st h pc = some o) : kN o := by
  unfold o_anw at ho
  repeat' split at ho
  all_goals first | exact kN_nx ho | exact kN_jp ho | (cases ho; done)
theorem kn_o_ldc {oo i pc : Nat} {L st : List Value} {h : Hp} {o : Out} (ho : o_ldc oo i L st h pc = some o) : kN o := by
  unfold o_ldc at ho
  repeat' split at ho
  all_goals first | exact kN_nx ho | exact kN_jp ho | (cases ho; done)
theorem kn_o_ldl {oo i pc : Nat} {L st : List Value} {h : Hp} {o : Out} (ho : o_ldl oo i L st h pc = some o) : kN o := by
  unfold o_ldl at ho
  repeat' split at ho
  all_goals first | exact kN_nx ho | exact kN_jp ho | (cases ho; done)
theorem kn_o_pf {ini : Bool} {oo i pc : Nat} {L st : List Value} {h : Hp} {o : Out} (ho : o_pf ini oo i L st h pc = some o) : kN o := by
  unfold o_pf at ho
  repeat' split at ho
  all_goals first | exact kN_nx ho | exact kN_jp ho | (cases ho; done)
theorem kn_o_ial {X : Tok} {t pc : Nat} {L st : List Value} {h : Hp} {o : Out} (ho : o_ial X t L st h pc = some o) : kN o := by
  unfold o_ial at ho
  repeat' split at ho
  all_goals first | exact kN_nx ho | exact kN_jp ho | (cases ho; done)
theorem kn_o_len {X : Tok} {pc : Nat} {L st : List Value} {h : Hp} {o : Out} (ho : o_len X L st h pc = some o) : kN o := by
  unfold o_len at ho
  repeat' split at ho
  all_goals first | exact kN_nx ho | exact kN_jp ho | (cases ho; done)
theorem kn_o_ias {t : Nat} {nar : Int32 → Int32} {pc : Nat} {L st : List Value} {h : Hp} {o : Out} (ho : o_ias t nar L st h pc = some o) : kN o := by
  unfold o_ias at ho
  repeat' split at ho
  all_goals first | exact kN_nx ho | exact kN_jp ho | (cases ho; done)
theorem kn_o_nwa {at' : ArrayType} {pc : Nat} {L st : List Value} {h : Hp} {o : Out} (ho : o_nwa at' L st h pc = some o) : kN o := by
  unfold o_nwa at ho
  repeat' split at ho
  all_goals first | exact kN_nx ho | exact kN_jp ho | (cases ho; done)
theorem kr_o_ir {rt : Option FieldType} {st : List Value} {o : Out} (ho : o_ir rt st = some o) : kR o := by
  unfold o_ir at ho
  repeat' split at ho
  all_goals first | exact kR_ret ho | (cases ho; done)
theorem kr_o_lr {rt : Option FieldType} {st : List Value} {o : Out} (ho : o_lr rt st = some o) : kR o := by
  unfold o_lr at ho
  repeat' split at ho
  all_goals first | exact kR_ret ho | (cases ho; done)
theorem kr_o_ar {rt : Option FieldType} {st : List Value} {o : Out} (ho : o_ar rt st = some o) : kR o := by
  unfold o_ar at ho
  repeat' split at ho
  all_goals first | exact kR_ret ho | (cases ho; done)
theorem kr_o_vr {rt : Option FieldType} {st : List Value} {o : Out} (ho : o_vr rt st = some o) : kR o := by
  unfold o_vr at ho
  repeat' split at ho
  all_goals first | exact kR_ret ho | (cases ho; done)
theorem kn_ex {X : Tok} {d : Nat} {M : MI} {pc : Nat} {ins : Instr} {len : Nat} {L st : List Value} {h : Hp} {o : Out} (hk : kd ins = 0) (ho : ex X d M pc ins len L st h = some o) : kN o := by
  cases ins
  all_goals first
    | (cases hk; done)
    | (cases ho; done)
    | exact kN_nx (g1_inj ho).2
    | exact kN_jp (g1_inj ho).2
    | exact kn_o_tab ho
    | exact kn_o_lkp ho
    | exact kn_o_il (g1_inj ho).2
    | exact kn_o_ll (g1_inj ho).2
    | exact kn_o_al (g1_inj ho).2
    | exact kn_o_is (g1_inj ho).2
    | exact kn_o_ls (g1_inj ho).2
    | exact kn_o_as (g1_inj ho).2
    | exact kn_o_inc (g1_inj ho).2
    | exact kn_o_ii (g1_inj ho).2
    | exact kn_o_i0 (g1_inj ho).2
    | exact kn_o_i (g1_inj ho).2
    | exact kn_o_lL (g1_inj ho).2
    | exact kn_o_l0 (g1_inj ho).2
    | exact kn_o_lsh (g1_inj ho).2
    | exact kn_o_i2l (g1_inj ho).2
    | exact kn_o_l2i (g1_inj ho).2
    | exact kn_o_lcmp (g1_inj ho).2
    | exact kn_o_dup (g1_inj ho).2
    | exact kn_o_pop (g1_inj ho).2
    | exact kn_o_pop2 (g1_inj ho).2
    | exact kn_o_gs (g1_inj ho).2
    | exact kn_o_dup2 (g1_inj ho).2
    | exact kn_o_lal (g1_inj ho).2
    | exact kn_o_aal (g1_inj ho).2
    | exact kn_o_las (g1_inj ho).2
    | exact kn_o_aas (g1_inj ho).2
    | exact kn_o_if2 (g1_inj ho).2
    | exact kn_o_if1 (g1_inj ho).2
    | exact kn_o_nul (g1_inj ho).2
    | exact kn_o_gf (g1_inj ho).2
    | exact kn_o_new (g1_inj ho).2
    | exact kn_o_anw (g1_inj ho).2
    | exact kn_o_ldc (g1_inj ho).2
    | exact kn_o_ldl (g1_inj ho).2
    | exact kn_o_pf (g1_inj ho).2
    | exact kn_o_ial (g1_inj ho).2
    | exact kn_o_len (g1_inj ho).2
    | exact kn_o_ias (g1_inj ho).2
    | exact kn_o_nwa (g1_inj ho).2
theorem kr_ex {X : Tok} {d : Nat} {M : MI} {pc : Nat} {ins : Instr} {len : Nat} {L st : List Value} {h : Hp} {o : Out} (hk : kd ins = 2) (ho : ex X d M pc ins len L st h = some o) : kR o := by
  cases ins
  all_goals first
    | (cases hk; done)
    | exact kr_o_ir (g1_inj ho).2
    | exact kr_o_lr (g1_inj ho).2
    | exact kr_o_ar (g1_inj ho).2
    | exact kr_o_vr (g1_inj ho).2
