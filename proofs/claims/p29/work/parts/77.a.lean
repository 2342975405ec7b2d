-- ===== rows of ints hold nothing behind their ends
def Zh (h : Hp) : Prop := ∀ a t n f, h.2 a = some (.inl (t, n, .inl f)) → ∀ k, n ≤ k → f k = 0
def zOK (h : Hp) (o : Out) : Prop := ∀ q, o = .inl q → Zh h → Zh q.2.2.2
theorem Zh_up {h : Hp} {b m : Nat} {e : va_E} (hz : Zh h) (he : ∀ t n f, e = .inl (t, n, .inl f) → ∀ k, n ≤ k → f k = 0) : Zh (m, va_up h.2 b (some e)) := by
  intro a t n f hq
  by_cases q : a = b
  · subst q
    have : some e = some (.inl (t, n, .inl f)) := by rw [← hq]; exact (va_up_self _ _ _).symm
    cases this
    exact he t n f rfl
  · have : h.2 a = some (.inl (t, n, .inl f)) := by rw [← hq]; exact (va_up_ne _ _ q).symm
    exact hz a t n f this
theorem Zh_o {h : Hp} {b m : Nat} {x : Nat × List Value} (hz : Zh h) : Zh (m, va_up h.2 b (some (.inr x))) := Zh_up hz (fun t n f q => by cases q)
theorem Zh_n {h : Hp} {b m t n : Nat} {x} (hz : Zh h) : Zh (m, va_up h.2 b (some (.inl (t, n, .inr x)))) := Zh_up hz (fun t n f q => by cases q)
theorem Zh_i {h : Hp} {b m t n : Nat} {f : Nat → Int32} (hf : ∀ k, n ≤ k → f k = 0) (hz : Zh h) : Zh (m, va_up h.2 b (some (.inl (t, n, .inl f)))) := Zh_up hz (fun t n f q => by cases q; exact hf)
theorem zOK_nx {h h' : Hp} {pc : Nat} {L st : List Value} {o : Out} (he : Zh h → Zh h') (ho : nx pc L st h' = some o) : zOK h o := by
  cases ho
  intro q hq
  cases hq
  exact he
theorem zOK_jp {h : Hp} {pc : Nat} {off : Int} {L st : List Value} {o : Out} (ho : o_jp pc off L st h = some o) : zOK h o := by
  obtain ⟨pc', -, rfl⟩ := jp_inj ho
  intro q hq
  cases hq
  exact fun h => h
theorem zOK_call {M : MI} {av rest : List Value} {h : Hp} {o : Out} (ho : o_call M av rest = some o) : zOK h o := by
  unfold o_call at ho
  split at ho
  · cases ho
    intro q hq
    cases hq
  · cases ho
theorem zOK_math {h : Hp} {d pc : Nat} {L rest : List Value} {v : Value} {o : Out} (ho : o_math d pc L rest h v = some o) : zOK h o := by
  unfold o_math at ho
  split at ho
  · exact zOK_nx (fun h => h) ho
  · cases ho
theorem zOK_ret {v : Option Value} {h : Hp} {o : Out} (ho : (some (.inr (.inr v)) : Option Out) = some o) : zOK h o := by
  cases ho
  intro q hq
  cases hq
theorem zr_o_il {pc i : Nat} {L st : List Value} {h : Hp} {o : Out} (ho : o_il L st h pc i = some o) : zOK h o := by
  unfold o_il at ho
  repeat' split at ho
  all_goals first | (refine zOK_nx ?_ ho; exact fun h => h) | (refine zOK_nx ?_ ho; exact Zh_o) | (refine zOK_nx ?_ ho; exact Zh_n) | exact zOK_jp ho | exact zOK_call ho | exact zOK_math ho | exact zOK_ret ho | (cases ho; done)
theorem zr_o_ll {pc i : Nat} {L st : List Value} {h : Hp} {o : Out} (ho : o_ll L st h pc i = some o) : zOK h o := by
  unfold o_ll at ho
  repeat' split at ho
  all_goals first | (refine zOK_nx ?_ ho; exact fun h => h) | (refine zOK_nx ?_ ho; exact Zh_o) | (refine zOK_nx ?_ ho; exact Zh_n) | exact zOK_jp ho | exact zOK_call ho | exact zOK_math ho | exact zOK_ret ho | (cases ho; done)
theorem zr_o_al {pc i : Nat} {L st : List Value} {h : Hp} {o : Out} (ho : o_al L st h pc i = some o) : zOK h o := by
  unfold o_al at ho
  repeat' split at ho
  all_goals first | (refine zOK_nx ?_ ho; exact fun h => h) | (refine zOK_nx ?_ ho; exact Zh_o) | (refine zOK_nx ?_ ho; exact Zh_n) | exact zOK_jp ho | exact zOK_call ho | exact zOK_math ho | exact zOK_ret ho | (cases ho; done)
theorem zr_o_is {pc i : Nat} {L st : List Value} {h : Hp} {o : Out} (ho : o_is L st h pc i = some o) : zOK h o := by
  unfold o_is at ho
  repeat' split at ho
  all_goals first | (refine zOK_nx ?_ ho; exact fun h => h) | (refine zOK_nx ?_ ho; exact Zh_o) | (refine zOK_nx ?_ ho; exact Zh_n) | exact zOK_jp ho | exact zOK_call ho | exact zOK_math ho | exact zOK_ret ho | (cases ho; done)
theorem zr_o_ls {pc i : Nat} {L st : List Value} {h : Hp} {o : Out} (ho : o_ls L st h pc i = some o) : zOK h o := by
  unfold o_ls at ho
  repeat' split at ho
  all_goals first | (refine zOK_nx ?_ ho; exact fun h => h) | (refine zOK_nx ?_ ho; exact Zh_o) | (refine zOK_nx ?_ ho; exact Zh_n) | exact zOK_jp ho | exact zOK_call ho | exact zOK_math ho | exact zOK_ret ho | (cases ho; done)
theorem zr_o_as {pc i : Nat} {L st : List Value} {h : Hp} {o : Out} (ho : o_as L st h pc i = some o) : zOK h o := by
  unfold o_as at ho
  repeat' split at ho
  all_goals first | (refine zOK_nx ?_ ho; exact fun h => h) | (refine zOK_nx ?_ ho; exact Zh_o) | (refine zOK_nx ?_ ho; exact Zh_n) | exact zOK_jp ho | exact zOK_call ho | exact zOK_math ho | exact zOK_ret ho | (cases ho; done)
theorem zr_o_inc {pc i : Nat} {n : Int} {L st : List Value} {h : Hp} {o : Out} (ho : o_inc L st h pc i n = some o) : zOK h o := by
  unfold o_inc at ho
  repeat' split at ho
  all_goals first | (refine zOK_nx ?_ ho; exact fun h => h) | (refine zOK_nx ?_ ho; exact Zh_o) | (refine zOK_nx ?_ ho; exact Zh_n) | exact zOK_jp ho | exact zOK_call ho | exact zOK_math ho | exact zOK_ret ho | (cases ho; done)
theorem zr_o_ii {f : Int32 → Int32 → Int32} {pc : Nat} {L st : List Value} {h : Hp} {o : Out} (ho : o_ii f L st h pc = some o) : zOK h o := by
  unfold o_ii at ho
  repeat' split at ho
  all_goals first | (refine zOK_nx ?_ ho; exact fun h => h) | (refine zOK_nx ?_ ho; exact Zh_o) | (refine zOK_nx ?_ ho; exact Zh_n) | exact zOK_jp ho | exact zOK_call ho | exact zOK_math ho | exact zOK_ret ho | (cases ho; done)
theorem zr_o_i0 {f : Int32 → Int32 → Int32} {pc : Nat} {L st : List Value} {h : Hp} {o : Out} (ho : o_i0 f L st h pc = some o) : zOK h o := by
  unfold o_i0 at ho
  repeat' split at ho
  all_goals first | (refine zOK_nx ?_ ho; exact fun h => h) | (refine zOK_nx ?_ ho; exact Zh_o) | (refine zOK_nx ?_ ho; exact Zh_n) | exact zOK_jp ho | exact zOK_call ho | exact zOK_math ho | exact zOK_ret ho | (cases ho; done)
theorem zr_o_i {f : Int32 → Int32} {pc : Nat} {L st : List Value} {h : Hp} {o : Out} (ho : o_i f L st h pc = some o) : zOK h o := by
  unfold o_i at ho
  repeat' split at ho
  all_goals first | (refine zOK_nx ?_ ho; exact fun h => h) | (refine zOK_nx ?_ ho; exact Zh_o) | (refine zOK_nx ?_ ho; exact Zh_n) | exact zOK_jp ho | exact zOK_call ho | exact zOK_math ho | exact zOK_ret ho | (cases ho; done)
theorem zr_o_lL {f : Int64 → Int64 → Int64} {pc : Nat} {L st : List Value} {h : Hp} {o : Out} (ho : o_lL f L st h pc = some o) : zOK h o := by
  unfold o_lL at ho
  repeat' split at ho
  all_goals first | (refine zOK_nx ?_ ho; exact fun h => h) | (refine zOK_nx ?_ ho; exact Zh_o) | (refine zOK_nx ?_ ho; exact Zh_n) | exact zOK_jp ho | exact zOK_call ho | exact zOK_math ho | exact zOK_ret ho | (cases ho; done)
theorem zr_o_l0 {f : Int64 → Int64 → Int64} {pc : Nat} {L st : List Value} {h : Hp} {o : Out} (ho : o_l0 f L st h pc = some o) : zOK h o := by
  unfold o_l0 at ho
  repeat' split at ho
  all_goals first | (refine zOK_nx ?_ ho; exact fun h => h) | (refine zOK_nx ?_ ho; exact Zh_o) | (refine zOK_nx ?_ ho; exact Zh_n) | exact zOK_jp ho | exact zOK_call ho | exact zOK_math ho | exact zOK_ret ho | (cases ho; done)
theorem zr_o_lsh {f : Int64 → Int32 → Int64} {pc : Nat} {L st : List Value} {h : Hp} {o : Out} (ho : o_lsh f L st h pc = some o) : zOK h o := by
  unfold o_lsh at ho
  repeat' split at ho
  all_goals first | (refine zOK_nx ?_ ho; exact fun h => h) | (refine zOK_nx ?_ ho; exact Zh_o) | (refine zOK_nx ?_ ho; exact Zh_n) | exact zOK_jp ho | exact zOK_call ho | exact zOK_math ho | exact zOK_ret ho | (cases ho; done)
theorem zr_o_i2l {pc : Nat} {L st : List Value} {h : Hp} {o : Out} (ho : o_i2l L st h pc = some o) : zOK h o := by
  unfold o_i2l at ho
  repeat' split at ho
  all_goals first | (refine zOK_nx ?_ ho; exact fun h => h) | (refine zOK_nx ?_ ho; exact Zh_o) | (refine zOK_nx ?_ ho; exact Zh_n) | exact zOK_jp ho | exact zOK_call ho | exact zOK_math ho | exact zOK_ret ho | (cases ho; done)
theorem zr_o_l2i {pc : Nat} {L st : List Value} {h : Hp} {o : Out} (ho : o_l2i L st h pc = some o) : zOK h o := by
  unfold o_l2i at ho
  repeat' split at ho
  all_goals first | (refine zOK_nx ?_ ho; exact fun h => h) | (refine zOK_nx ?_ ho; exact Zh_o) | (refine zOK_nx ?_ ho; exact Zh_n) | exact zOK_jp ho | exact zOK_call ho | exact zOK_math ho | exact zOK_ret ho | (cases ho; done)
theorem zr_o_lcmp {pc : Nat} {L st : List Value} {h : Hp} {o : Out} (ho : o_lcmp L st h pc = some o) : zOK h o := by
  unfold o_lcmp at ho
  repeat' split at ho
  all_goals first | (refine zOK_nx ?_ ho; exact fun h => h) | (refine zOK_nx ?_ ho; exact Zh_o) | (refine zOK_nx ?_ ho; exact Zh_n) | exact zOK_jp ho | exact zOK_call ho | exact zOK_math ho | exact zOK_ret ho | (cases ho; done)
theorem zr_o_pop2 {pc : Nat} {L st : List Value} {h : Hp} {o : Out} (ho : o_pop2 L st h pc = some o) : zOK h o := by
  unfold o_pop2 at ho
  repeat' split at ho
  all_goals first | (refine zOK_nx ?_ ho; exact fun h => h) | (cases ho; done)
theorem zr_o_gs {oo i pc : Nat} {L st : List Value} {h : Hp} {o : Out} (ho : o_gs oo i L st h pc = some o) : zOK h o := by
  unfold o_gs at ho
  repeat' split at ho
  all_goals first | (refine zOK_nx ?_ ho; exact fun h => h) | (cases ho; done)
theorem zr_o_cp {d pc : Nat} {L st : List Value} {h : Hp} {o : Out} (ho : o_cp d pc L st h = some o) : zOK h o := by
  unfold o_cp at ho
  split at ho
  · split at ho
    · rename_i e1 e2
      split at ho
      · rename_i c
        refine zOK_nx (fun hz => Zh_i (fun k hk => ?_) hz) ho
        obtain ⟨-, -, -, -, -, -, c7⟩ := c
        unfold va_cpy
        rw [if_neg (by omega)]
        exact hz _ _ _ _ e2 k hk
      · cases ho
    · split at ho
      · refine zOK_nx ?_ ho
        exact Zh_n
      · cases ho
    · cases ho
  · cases ho
theorem zr_o_dup {pc : Nat} {L st : List Value} {h : Hp} {o : Out} (ho : o_dup L st h pc = some o) : zOK h o := by
  unfold o_dup at ho
  repeat' split at ho
  all_goals first | (refine zOK_nx ?_ ho; exact fun h => h) | (refine zOK_nx ?_ ho; exact Zh_o) | (refine zOK_nx ?_ ho; exact Zh_n) | exact zOK_jp ho | exact zOK_call ho | exact zOK_math ho | exact zOK_ret ho | (cases ho; done)
theorem zr_o_pop {pc : Nat} {L st : List Value} {h : Hp} {o : Out} (ho : o_pop L st h pc = some o) : zOK h o := by
  unfold o_pop at ho
  repeat' split at ho
  all_goals first | (refine zOK_nx ?_ ho; exact fun h => h) | (refine zOK_nx ?_ ho; exact Zh_o) | (refine zOK_nx ?_ ho; exact Zh_n) | exact zOK_jp ho | exact zOK_call ho | exact zOK_math ho | exact zOK_ret ho | (cases ho; done)
theorem zr_o_dup2 {pc : Nat} {L st : List Value} {h : Hp} {o : Out} (ho : o_dup2 L st h pc = some o) : zOK h o := by
  unfold o_dup2 at ho
  repeat' split at ho
  all_goals first | (refine zOK_nx ?_ ho; exact fun h => h) | (refine zOK_nx ?_ ho; exact Zh_o) | (refine zOK_nx ?_ ho; exact Zh_n) | exact zOK_jp ho | exact zOK_call ho | exact zOK_math ho | exact zOK_ret ho | (cases ho; done)
theorem zr_o_lal {pc : Nat} {L st : List Value} {h : Hp} {o : Out} (ho : o_lal L st h pc = some o) : zOK h o := by
  unfold o_lal at ho
  repeat' split at ho
  all_goals first | (refine zOK_nx ?_ ho; exact fun h => h) | (refine zOK_nx ?_ ho; exact Zh_o) | (refine zOK_nx ?_ ho; exact Zh_n) | exact zOK_jp ho | exact zOK_call ho | exact zOK_math ho | exact zOK_ret ho | (cases ho; done)
theorem zr_o_aal {pc : Nat} {L st : List Value} {h : Hp} {o : Out} (ho : o_aal L st h pc = some o) : zOK h o := by
  unfold o_aal at ho
  repeat' split at ho
  all_goals first | (refine zOK_nx ?_ ho; exact fun h => h) | (refine zOK_nx ?_ ho; exact Zh_o) | (refine zOK_nx ?_ ho; exact Zh_n) | exact zOK_jp ho | exact zOK_call ho | exact zOK_math ho | exact zOK_ret ho | (cases ho; done)
theorem zr_o_las {pc : Nat} {L st : List Value} {h : Hp} {o : Out} (ho : o_las L st h pc = some o) : zOK h o := by
  unfold o_las at ho
  repeat' split at ho
  all_goals first | (refine zOK_nx ?_ ho; exact fun h => h) | (refine zOK_nx ?_ ho; exact Zh_o) | (refine zOK_nx ?_ ho; exact Zh_n) | exact zOK_jp ho | exact zOK_call ho | exact zOK_math ho | exact zOK_ret ho | (cases ho; done)
theorem zr_o_aas {pc : Nat} {L st : List Value} {h : Hp} {o : Out} (ho : o_aas L st h pc = some o) : zOK h o := by
  unfold o_aas at ho
  repeat' split at ho
  all_goals first | (refine zOK_nx ?_ ho; exact fun h => h) | (refine zOK_nx ?_ ho; exact Zh_o) | (refine zOK_nx ?_ ho; exact Zh_n) | exact zOK_jp ho | exact zOK_call ho | exact zOK_math ho | exact zOK_ret ho | (cases ho; done)
theorem zr_o_if2 {cc : ClassFile.Cond} {off : Int} {pc : Nat} {L st : List Value} {h : Hp} {o : Out} (ho : o_if2 cc off L st h pc = some o) : zOK h o := by
  unfold o_if2 at ho
  repeat' split at ho
  all_goals first | (refine zOK_nx ?_ ho; exact fun h => h) | (refine zOK_nx ?_ ho; exact Zh_o) | (refine zOK_nx ?_ ho; exact Zh_n) | exact zOK_jp ho | exact zOK_call ho | exact zOK_math ho | exact zOK_ret ho | (cases ho; done)
theorem zr_o_if1 {cc : ClassFile.Cond} {off : Int} {pc : Nat} {L st : List Value} {h : Hp} {o : Out} (ho : o_if1 cc off L st h pc = some o) : zOK h o := by
  unfold o_if1 at ho
  repeat' split at ho
  all_goals first | (refine zOK_nx ?_ ho; exact fun h => h) | (refine zOK_nx ?_ ho; exact Zh_o) | (refine zOK_nx ?_ ho; exact Zh_n) | exact zOK_jp ho | exact zOK_call ho | exact zOK_math ho | exact zOK_ret ho | (cases ho; done)
theorem zr_o_nul {b : Bool} {off : Int} {pc : Nat} {L st : List Value} {h : Hp} {o : Out} (ho : o_nul b off L st h pc = some o) : zOK h o := by
  unfold o_nul at ho
  repeat' split at ho
  all_goals first | (refine zOK_nx ?_ ho; exact fun h => h) | (refine zOK_nx ?_ ho; exact Zh_o) | (refine zOK_nx ?_ ho; exact Zh_n) | exact zOK_jp ho | exact zOK_call ho | exact zOK_math ho | exact zOK_ret ho | (cases ho; done)
theorem zr_o_tab {dflt lo hi : Int} {offs : Array Int} {pc : Nat} {L st : List Value} {h : Hp} {o : Out} (ho : o_tab dflt lo hi offs L st h pc = some o) : zOK h o := by
  unfold o_tab at ho
  repeat' split at ho
  all_goals first | (refine zOK_nx ?_ ho; exact fun h => h) | (refine zOK_nx ?_ ho; exact Zh_o) | (refine zOK_nx ?_ ho; exact Zh_n) | exact zOK_jp ho | exact zOK_call ho | exact zOK_math ho | exact zOK_ret ho | (cases ho; done)
theorem zr_o_lkp {dflt : Int} {ps : Array (Int × Int)} {pc : Nat} {L st : List Value} {h : Hp} {o : Out} (ho : o_lkp dflt ps L st h pc = some o) : zOK h o := by
  unfold o_lkp at ho
  repeat' split at ho
  all_goals first | (refine zOK_nx ?_ ho; exact fun h => h) | (refine zOK_nx ?_ ho; exact Zh_o) | (refine zOK_nx ?_ ho; exact Zh_n) | exact zOK_jp ho | exact zOK_call ho | exact zOK_math ho | exact zOK_ret ho | (cases ho; done)
theorem zr_o_gf {oo i pc : Nat} {L st : List Value} {h : Hp} {o : Out} (ho : o_gf oo i L st h pc = some o) : zOK h o := by
  unfold o_gf at ho
  repeat' split at ho
  all_goals first | (refine zOK_nx ?_ ho; exact fun h => h) | (refine zOK_nx ?_ ho; exact Zh_o) | (refine zOK_nx ?_ ho; exact Zh_n) | exact zOK_jp ho | exact zOK_call ho | exact zOK_math ho | exact zOK_ret ho | (cases ho; done)
theorem zr_o_new {oo i pc : Nat} {L st : List Value} {h : Hp} {o : Out} (ho : o_new oo i L st h pc = some o) : zOK h o := by
  unfold o_new at ho
  repeat' split at ho
  all_goals first | (refine zOK_nx ?_ ho; exact fun h => h) | (refine zOK_nx ?_ ho; exact Zh_o) | (refine zOK_nx ?_ ho; exact Zh_n) | exact zOK_jp ho | exact zOK_call ho | exact zOK_math ho | exact zOK_ret ho | (cases ho; done)
theorem zr_o_anw {oo i pc : Nat} {L st : List Value} {h : Hp} {o : Out} (ho : o_anw oo i L st h pc = some o) : zOK h o := by
  unfold o_anw at ho
  repeat' split at ho
  all_goals first | (refine zOK_nx ?_ ho; exact fun h => h) | (refine zOK_nx ?_ ho; exact Zh_o) | (refine zOK_nx ?_ ho; exact Zh_n) | exact zOK_jp ho | exact zOK_call ho | exact zOK_math ho | exact zOK_ret ho | (cases ho; done)
theorem zr_o_ldc {oo i pc : Nat} {L st : List Value} {h : Hp} {o : Out} (ho : o_ldc oo i L st h pc = some o) : zOK h o := by
  unfold o_ldc at ho
  repeat' split at ho
  all_goals first | (refine zOK_nx ?_ ho; exact fun h => h) | (refine zOK_nx ?_ ho; exact Zh_o) | (refine zOK_nx ?_ ho; exact Zh_n) | exact zOK_jp ho | exact zOK_call ho | exact zOK_math ho | exact zOK_ret ho | (cases ho; done)
theorem zr_o_ldl {oo i pc : Nat} {L st : List Value} {h : Hp} {o : Out} (ho : o_ldl oo i L st h pc = some o) : zOK h o := by
  unfold o_ldl at ho
  repeat' split at ho
  all_goals first | (refine zOK_nx ?_ ho; exact fun h => h) | (refine zOK_nx ?_ ho; exact Zh_o) | (refine zOK_nx ?_ ho; exact Zh_n) | exact zOK_jp ho | exact zOK_call ho | exact zOK_math ho | exact zOK_ret ho | (cases ho; done)
theorem zr_o_iv {oo i pc : Nat} {L st : List Value} {h : Hp} {o : Out} (ho : o_iv oo i L st h pc = some o) : zOK h o := by
  unfold o_iv at ho
  repeat' split at ho
  all_goals first | (refine zOK_nx ?_ ho; exact fun h => h) | (refine zOK_nx ?_ ho; exact Zh_o) | (refine zOK_nx ?_ ho; exact Zh_n) | exact zOK_jp ho | exact zOK_call ho | exact zOK_math ho | exact zOK_ret ho | (cases ho; done)
theorem zr_o_pf {ini : Bool} {oo i pc : Nat} {L st : List Value} {h : Hp} {o : Out} (ho : o_pf ini oo i L st h pc = some o) : zOK h o := by
  unfold o_pf at ho
  repeat' split at ho
  all_goals first | (refine zOK_nx ?_ ho; exact fun h => h) | (refine zOK_nx ?_ ho; exact Zh_o) | (refine zOK_nx ?_ ho; exact Zh_n) | exact zOK_jp ho | exact zOK_call ho | exact zOK_math ho | exact zOK_ret ho | (cases ho; done)
theorem zr_o_ial {X : Tok} {t pc : Nat} {L st : List Value} {h : Hp} {o : Out} (ho : o_ial X t L st h pc = some o) : zOK h o := by
  unfold o_ial at ho
  repeat' split at ho
  all_goals first | (refine zOK_nx ?_ ho; exact fun h => h) | (refine zOK_nx ?_ ho; exact Zh_o) | (refine zOK_nx ?_ ho; exact Zh_n) | exact zOK_jp ho | exact zOK_call ho | exact zOK_math ho | exact zOK_ret ho | (cases ho; done)
theorem zr_o_len {X : Tok} {pc : Nat} {L st : List Value} {h : Hp} {o : Out} (ho : o_len X L st h pc = some o) : zOK h o := by
  unfold o_len at ho
  repeat' split at ho
  all_goals first | (refine zOK_nx ?_ ho; exact fun h => h) | (refine zOK_nx ?_ ho; exact Zh_o) | (refine zOK_nx ?_ ho; exact Zh_n) | exact zOK_jp ho | exact zOK_call ho | exact zOK_math ho | exact zOK_ret ho | (cases ho; done)
theorem zr_o_ias {t : Nat} {nar : Int32 → Int32} {pc : Nat} {L st : List Value} {h : Hp} {o : Out} (ho : o_ias t nar L st h pc = some o) : zOK h o := by
  unfold o_ias at ho
  split at ho
  · split at ho
    · rename_i e
      split at ho
      · rename_i c
        refine zOK_nx (fun hz => Zh_i (fun k hk => ?_) hz) ho
        have : ¬ _ ≤ _ := fun q => c.2 (.inr q)
        show (if k = _ then _ else _) = _
        rw [if_neg (by omega)]
        exact hz _ _ _ _ e k hk
      · cases ho
    · cases ho
  · cases ho
theorem zr_o_nwa {at' : ArrayType} {pc : Nat} {L st : List Value} {h : Hp} {o : Out} (ho : o_nwa at' L st h pc = some o) : zOK h o := by
  unfold o_nwa at ho
  split at ho
  · split at ho
    · rename_i e
      split at ho
      · cases ho
      · refine zOK_nx (fun hz => Zh_up hz (fun t n f q => ?_)) ho
        cases q
        unfold nwA at e
        split at e <;> cases e <;> exact fun _ _ => rfl
    · cases ho
  · cases ho
theorem zr_o_is1 {d oo i pc : Nat} {L st : List Value} {h : Hp} {o : Out} (ho : o_is1 d oo i L st h pc = some o) : zOK h o := by
  unfold o_is1 at ho
  repeat' split at ho
  all_goals first | (refine zOK_nx ?_ ho; exact fun h => h) | (refine zOK_nx ?_ ho; exact Zh_o) | (refine zOK_nx ?_ ho; exact Zh_n) | exact zOK_jp ho | exact zOK_call ho | exact zr_o_cp ho | exact zOK_math ho | exact zOK_ret ho | (cases ho; done)
theorem zr_o_ip {d oo i pc : Nat} {L st : List Value} {h : Hp} {o : Out} (ho : o_ip d oo i L st h pc = some o) : zOK h o := by
  unfold o_ip at ho
  repeat' split at ho
  all_goals first | (refine zOK_nx ?_ ho; exact fun h => h) | (refine zOK_nx ?_ ho; exact Zh_o) | (refine zOK_nx ?_ ho; exact Zh_n) | exact zOK_jp ho | exact zOK_call ho | exact zOK_math ho | exact zOK_ret ho | (cases ho; done)
theorem zr_o_ir {rt : Option FieldType} {st : List Value} {h : Hp} {o : Out} (ho : o_ir rt st = some o) : zOK h o := by
  unfold o_ir at ho
  repeat' split at ho
  all_goals first | (refine zOK_nx ?_ ho; exact fun h => h) | (refine zOK_nx ?_ ho; exact Zh_o) | (refine zOK_nx ?_ ho; exact Zh_n) | exact zOK_jp ho | exact zOK_call ho | exact zOK_math ho | exact zOK_ret ho | (cases ho; done)
theorem zr_o_lr {rt : Option FieldType} {st : List Value} {h : Hp} {o : Out} (ho : o_lr rt st = some o) : zOK h o := by
  unfold o_lr at ho
  repeat' split at ho
  all_goals first | (refine zOK_nx ?_ ho; exact fun h => h) | (refine zOK_nx ?_ ho; exact Zh_o) | (refine zOK_nx ?_ ho; exact Zh_n) | exact zOK_jp ho | exact zOK_call ho | exact zOK_math ho | exact zOK_ret ho | (cases ho; done)
theorem zr_o_ar {rt : Option FieldType} {st : List Value} {h : Hp} {o : Out} (ho : o_ar rt st = some o) : zOK h o := by
  unfold o_ar at ho
  repeat' split at ho
  all_goals first | (refine zOK_nx ?_ ho; exact fun h => h) | (refine zOK_nx ?_ ho; exact Zh_o) | (refine zOK_nx ?_ ho; exact Zh_n) | exact zOK_jp ho | exact zOK_call ho | exact zOK_math ho | exact zOK_ret ho | (cases ho; done)
theorem zr_o_vr {rt : Option FieldType} {st : List Value} {h : Hp} {o : Out} (ho : o_vr rt st = some o) : zOK h o := by
  unfold o_vr at ho
  repeat' split at ho
  all_goals first | (refine zOK_nx ?_ ho; exact fun h => h) | (refine zOK_nx ?_ ho; exact Zh_o) | (refine zOK_nx ?_ ho; exact Zh_n) | exact zOK_jp ho | exact zOK_call ho | exact zOK_math ho | exact zOK_ret ho | (cases ho; done)
theorem zr_ex {X : Tok} {d : Nat} {M : MI} {pc : Nat} {ins : Instr} {len : Nat} {L st : List Value} {h : Hp} {o : Out} (ho : ex X d M pc ins len L st h = some o) : zOK h o := by
  cases ins
  all_goals first
    | (cases ho; done)
    | exact zOK_nx (fun h => h) (g1_inj ho).2
    | exact zOK_jp (g1_inj ho).2
    | exact zr_o_tab ho
    | exact zr_o_lkp ho
    | exact zr_o_il (g1_inj ho).2
    | exact zr_o_ll (g1_inj ho).2
    | exact zr_o_al (g1_inj ho).2
    | exact zr_o_is (g1_inj ho).2
    | exact zr_o_ls (g1_inj ho).2
    | exact zr_o_as (g1_inj ho).2
    | exact zr_o_inc (g1_inj ho).2
    | exact zr_o_ii (g1_inj ho).2
    | exact zr_o_i0 (g1_inj ho).2
    | exact zr_o_i (g1_inj ho).2
    | exact zr_o_lL (g1_inj ho).2
    | exact zr_o_l0 (g1_inj ho).2
    | exact zr_o_lsh (g1_inj ho).2
    | exact zr_o_i2l (g1_inj ho).2
    | exact zr_o_l2i (g1_inj ho).2
    | exact zr_o_lcmp (g1_inj ho).2
    | exact zr_o_dup (g1_inj ho).2
    | exact zr_o_pop (g1_inj ho).2
    | exact zr_o_pop2 (g1_inj ho).2
    | exact zr_o_gs (g1_inj ho).2
    | exact zr_o_dup2 (g1_inj ho).2
    | exact zr_o_lal (g1_inj ho).2
    | exact zr_o_aal (g1_inj ho).2
    | exact zr_o_las (g1_inj ho).2
    | exact zr_o_aas (g1_inj ho).2
    | exact zr_o_if2 (g1_inj ho).2
    | exact zr_o_if1 (g1_inj ho).2
    | exact zr_o_nul (g1_inj ho).2
    | exact zr_o_gf (g1_inj ho).2
    | exact zr_o_new (g1_inj ho).2
    | exact zr_o_anw (g1_inj ho).2
    | exact zr_o_ldc (g1_inj ho).2
    | exact zr_o_ldl (g1_inj ho).2
    | exact zr_o_iv (g1_inj ho).2
    | exact zr_o_pf (g1_inj ho).2
    | exact zr_o_ial (g1_inj ho).2
    | exact zr_o_len (g1_inj ho).2
    | exact zr_o_ias (g1_inj ho).2
    | exact zr_o_nwa (g1_inj ho).2
    | exact zr_o_is1 (g1_inj ho).2
    | exact zr_o_ip (g1_inj ho).2
    | exact zr_o_ir (g1_inj ho).2
    | exact zr_o_lr (g1_inj ho).2
    | exact zr_o_ar (g1_inj ho).2
    | exact zr_o_vr (g1_inj ho).2
theorem stp_Z {X : Tok} {d : Nat} {M : MI} {pc : Nat} {L st : List Value} {h : Hp} {q : Nat × List Value × List Value × Hp} (ho : stp X d M pc L st h = some (.inl q)) : Zh h → Zh q.2.2.2 := by
  unfold stp at ho
  split at ho
  · exact zr_ex ho q rfl
  · cases ho
theorem run_Z {X : Tok} : ∀ (f d : Nat) (M : MI) (pc : Nat) (L st : List Value) (h : Hp) (v : Option Value) (h' : Hp), run X f d M pc L st h = some (v, h') → Zh h → Zh h' := by
  intro f
  induction f with
  | zero => intro d M pc L st h v h' hr; exact absurd hr (by simp [run])
  | succ f ih =>
    intro d M pc L st h v h' hr
    rw [run] at hr
    cases hs : stp X d M pc L st h with
    | none => rw [hs] at hr; exact absurd hr (by simp)
    | some o =>
      rw [hs] at hr
      rcases o with q | ⟨M', av, rest⟩ | w
      · obtain ⟨pc1, L1, st1, h1⟩ := q
        exact fun hz => ih _ _ _ _ _ _ _ _ hr (stp_Z hs hz)
      · cases d with
        | zero => exact absurd hr (by simp)
        | succ d' =>
          simp only at hr
          cases hq : run X f d' M' 0 (ent M' av) [] h with
          | none => rw [hq] at hr; exact absurd hr (by simp)
          | some q =>
            rw [hq] at hr
            exact fun hz => ih _ _ _ _ _ _ _ _ hr (ih _ _ _ _ _ _ _ _ hq hz)
      · cases hr
        exact fun hz => hz
