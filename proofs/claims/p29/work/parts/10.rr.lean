-- ===== rules: the answer at an instruction by the answer at the next
section RRU
variable {X : Tok} {d : Nat} {M : MI} {pc pc' len : Nat} {L st : List Value} {h h' : Hp} {r : List Value}
theorem Rr_nx {ins : Instr} {L' st' : List Value} (hd : decode M.2.2.1 pc = .ok (ins, len)) (he : ex X d M pc ins len L st h = some (.inl (pc', L', st', h'))) : Rr X d M pc L st h = Rr X d M pc' L' st' h' := by
  rw [Rr_step, stp, hd]
  simp only [he]
theorem Rr_rt {ins : Instr} {v : Option Value} (hd : decode M.2.2.1 pc = .ok (ins, len)) (he : ex X d M pc ins len L st h = some (.inr (.inr v))) : Rr X d M pc L st h = some (v, h) := by
  rw [Rr_step, stp, hd]
  simp only [he]
theorem Rr_no {ins : Instr} (hd : decode M.2.2.1 pc = .ok (ins, len)) (he : ex X d M pc ins len L st h = none) : Rr X d M pc L st h = none := by
  rw [Rr_step, stp, hd]
  simp only [he]
theorem Rr_cl {ins : Instr} {M' : MI} {av rest : List Value} (hd : decode M.2.2.1 pc = .ok (ins, len)) (he : ex X (d + 1) M pc ins len L st h = some (.inr (.inl (M', av, rest)))) : Rr X (d + 1) M pc L st h = (Rr X d M' 0 (ent M' av) [] h).bind fun q => Rr X (d + 1) M (pc + 3) L (psh q.1 rest) q.2 := by
  rw [Rr_step, stp, hd]
  simp only [he]
def mk (v : Value) : Value := if v.category = 2 then mkU else v
theorem mk_i (x : Int32) : mk (.int x) = .int x := rfl
theorem mk_r (x : Nat) : mk (.ref x) = .ref x := rfl
theorem mk_f (x : UInt32) : mk (.float x) = .float x := rfl
theorem mk_n : mk .null = .null := rfl
theorem mk_u : mk mkU = mkU := rfl
theorem mk_l (x : Int64) : mk (.long x) = mkU := rfl
theorem sL_0 (a v : Value) (l : List Value) : sL (a :: l) 0 v = v :: l := rfl
theorem sL_1 (a b v : Value) (l : List Value) : sL (a :: b :: l) 1 v = mk a :: v :: l := by
  show (if a.category = 2 then (mkU :: b :: l) else (a :: b :: l)).set 1 v = _
  unfold mk
  split <;> rfl
theorem sL_2 (a b c v : Value) (l : List Value) (n : Nat) : sL (a :: b :: c :: l) (n + 2) v = a :: sL (b :: c :: l) (n + 1) v := by
  show (if ((b :: c :: l).getD n mkU).category = 2 then (a :: (b :: c :: l).set n mkU) else (a :: b :: c :: l)).set (n + 2) v = a :: (if ((b :: c :: l).getD n mkU).category = 2 then (b :: c :: l).set n mkU else (b :: c :: l)).set (n + 1) v
  split <;> rfl
theorem ite_bind {α β : Type} {c : Prop} [inst : Decidable c] (a b : Option α) (k : α → Option β) : (if c then a else b).bind k = if c then a.bind k else b.bind k := by
  split <;> rfl
end RRU
