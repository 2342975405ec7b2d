-- ===== THE INTERPRETER: an abstract machine over the claim's bytecode; a reference is the place of a cell in the order of making
abbrev Hp : Type := Nat × (Nat → Option va_E)
abbrev Out : Type := (Nat × List Value × List Value × Hp) ⊕ ((MI × List Value × List Value) ⊕ Option Value)
abbrev Res : Type := Option (Option Value × Hp)
abbrev Tok : Type := UInt32 → Option (Nat × (Nat → Int32))
def mkU : Value := .retAddr 0
def sE (h : Hp) (a : Nat) (e : va_E) : Hp := (h.1, va_up h.2 a (some e))
def nE (h : Hp) (e : va_E) : Hp := (h.1 + 1, va_up h.2 h.1 (some e))
def nx (pc : Nat) (L st : List Value) (h : Hp) : Option Out := some (.inl (pc, L, st, h))
def g1 (len n : Nat) (r : Option Out) : Option Out := if len = n then r else none
def sL (L : List Value) (i : Nat) (v : Value) : List Value := match i with
  | 0 => L.set 0 v
  | j + 1 => (if (L.getD j mkU).category = 2 then L.set j mkU else L).set (j + 1) v
def sL2 (L : List Value) (i : Nat) (v : Value) : List Value := (sL L i v).set (i + 1) mkU
def o_il (L st : List Value) (h : Hp) (pc i : Nat) : Option Out := match L[i]? with
  | some (.int x) => nx pc L (.int x :: st) h
  | _ => none
def o_ll (L st : List Value) (h : Hp) (pc i : Nat) : Option Out := match L[i]? with
  | some (.long x) => nx pc L (.long x :: st) h
  | _ => none
def o_al (L st : List Value) (h : Hp) (pc i : Nat) : Option Out := match L[i]? with
  | some (.ref x) => nx pc L (.ref x :: st) h
  | some (.float x) => nx pc L (.float x :: st) h
  | some .null => nx pc L (.null :: st) h
  | _ => none
def o_is (L st : List Value) (h : Hp) (pc i : Nat) : Option Out := match st with
  | .int x :: r => if i < L.length then nx pc (sL L i (.int x)) r h else none
  | _ => none
def o_ls (L st : List Value) (h : Hp) (pc i : Nat) : Option Out := match st with
  | .long x :: r => if i + 1 < L.length then nx pc (sL2 L i (.long x)) r h else none
  | _ => none
def o_as (L st : List Value) (h : Hp) (pc i : Nat) : Option Out := match st with
  | .ref x :: r => if i < L.length then nx pc (sL L i (.ref x)) r h else none
  | .float x :: r => if i < L.length then nx pc (sL L i (.float x)) r h else none
  | .null :: r => if i < L.length then nx pc (sL L i .null) r h else none
  | _ => none
def o_inc (L st : List Value) (h : Hp) (pc i : Nat) (n : Int) : Option Out := match L[i]? with
  | some (.int x) => nx pc (sL L i (.int (x + Int32.ofInt n))) st h
  | _ => none
def o_ii (f : Int32 → Int32 → Int32) (L st : List Value) (h : Hp) (pc : Nat) : Option Out := match st with
  | .int y :: .int x :: r => nx pc L (.int (f x y) :: r) h
  | _ => none
def o_i0 (f : Int32 → Int32 → Int32) (L st : List Value) (h : Hp) (pc : Nat) : Option Out := match st with
  | .int y :: .int x :: r => if y = 0 then none else nx pc L (.int (f x y) :: r) h
  | _ => none
def o_i (f : Int32 → Int32) (L st : List Value) (h : Hp) (pc : Nat) : Option Out := match st with
  | .int x :: r => nx pc L (.int (f x) :: r) h
  | _ => none
def o_lL (f : Int64 → Int64 → Int64) (L st : List Value) (h : Hp) (pc : Nat) : Option Out := match st with
  | .long y :: .long x :: r => nx pc L (.long (f x y) :: r) h
  | _ => none
def o_l0 (f : Int64 → Int64 → Int64) (L st : List Value) (h : Hp) (pc : Nat) : Option Out := match st with
  | .long y :: .long x :: r => if y = 0 then none else nx pc L (.long (f x y) :: r) h
  | _ => none
def o_lsh (f : Int64 → Int32 → Int64) (L st : List Value) (h : Hp) (pc : Nat) : Option Out := match st with
  | .int y :: .long x :: r => nx pc L (.long (f x y) :: r) h
  | _ => none
def o_i2l (L st : List Value) (h : Hp) (pc : Nat) : Option Out := match st with
  | .int x :: r => nx pc L (.long x.toInt64 :: r) h
  | _ => none
def o_l2i (L st : List Value) (h : Hp) (pc : Nat) : Option Out := match st with
  | .long x :: r => nx pc L (.int x.toInt32 :: r) h
  | _ => none
def o_lcmp (L st : List Value) (h : Hp) (pc : Nat) : Option Out := match st with
  | .long y :: .long x :: r => nx pc L (.int (lg_cmp x y) :: r) h
  | _ => none
def o_dup (L st : List Value) (h : Hp) (pc : Nat) : Option Out := match st with
  | v :: r => if v.category = 1 then nx pc L (v :: v :: r) h else none
  | _ => none
def o_pop (L st : List Value) (h : Hp) (pc : Nat) : Option Out := match st with
  | v :: r => if v.category = 1 then nx pc L r h else none
  | _ => none
def o_pop2 (L st : List Value) (h : Hp) (pc : Nat) : Option Out := match st with
  | .long _ :: r => nx pc L r h
  | _ => none
/-- static rows of ints, as tokens -/
def fS (o i : Nat) : Option UInt32 := if o = 0 then (if i = 22 then some 1 else if i = 29 then some 2 else none) else none
def o_gs (o i : Nat) (L st : List Value) (h : Hp) (pc : Nat) : Option Out := match fS o i with
  | some t => nx pc L (.float t :: st) h
  | none => none
/-- ints, longs copied from a row to a row -/
def o_cp (d pc : Nat) (L st : List Value) (h : Hp) : Option Out := match st with
  | .int n :: .int j :: .ref b :: .int i :: .ref a :: rest => match h.2 a, h.2 b with
    | some (.inl (0, na, .inl f)), some (.inl (0, nb, .inl g)) => if 0 < d ∧ (rest.map fun v => v.category).sum ≤ 8 ∧ ¬ i < 0 ∧ ¬ j < 0 ∧ ¬ n < 0 ∧ i.toNatClampNeg + n.toNatClampNeg ≤ na ∧ j.toNatClampNeg + n.toNatClampNeg ≤ nb then nx (pc + 3) L rest (sE h b (.inl (0, nb, .inl (va_cpy f g i.toNatClampNeg j.toNatClampNeg n.toNatClampNeg)))) else none
    | some (.inl (1, na, .inr (.inl f))), some (.inl (1, nb, .inr (.inl g))) => if 0 < d ∧ (rest.map fun v => v.category).sum ≤ 8 ∧ ¬ i < 0 ∧ ¬ j < 0 ∧ ¬ n < 0 ∧ i.toNatClampNeg + n.toNatClampNeg ≤ na ∧ j.toNatClampNeg + n.toNatClampNeg ≤ nb then nx (pc + 3) L rest (sE h b (.inl (1, nb, .inr (.inl (va_cpy f g i.toNatClampNeg j.toNatClampNeg n.toNatClampNeg))))) else none
    | _, _ => none
  | _ => none
def o_dup2 (L st : List Value) (h : Hp) (pc : Nat) : Option Out := match st with
  | v :: w :: r => if v.category = 1 ∧ w.category = 1 then nx pc L (v :: w :: v :: w :: r) h else none
  | _ => none
/-- a jump: to pc + off where b holds -/
def o_jp (pc : Nat) (off : Int) (L st : List Value) (h : Hp) : Option Out := if (pc : Int) + off < 0 then none else nx ((pc : Int) + off).toNat L st h
def bB (cc : ClassFile.Cond) (x y : Int32) : Bool := match cc with
  | .eq => decide (x = y)
  | .ne => decide (¬ x = y)
  | .lt => decide (x < y)
  | .ge => decide (y ≤ x)
  | .gt => decide (y < x)
  | .le => decide (x ≤ y)
def o_if2 (cc : ClassFile.Cond) (off : Int) (L st : List Value) (h : Hp) (pc : Nat) : Option Out := match st with
  | .int y :: .int x :: r => if (pc : Int) + off < 0 then none else if bB cc x y = true then o_jp pc off L r h else nx (pc + 3) L r h
  | _ => none
def o_if1 (cc : ClassFile.Cond) (off : Int) (L st : List Value) (h : Hp) (pc : Nat) : Option Out := match st with
  | .int x :: r => if (pc : Int) + off < 0 then none else if bB cc x 0 = true then o_jp pc off L r h else nx (pc + 3) L r h
  | _ => none
def o_nul (b : Bool) (off : Int) (L st : List Value) (h : Hp) (pc : Nat) : Option Out := match st with
  | .ref _ :: r => if b = true then nx (pc + 3) L r h else o_jp pc off L r h
  | .null :: r => if b = true then o_jp pc off L r h else nx (pc + 3) L r h
  | _ => none
def o_tab (dflt lo hi : Int) (offs : Array Int) (L st : List Value) (h : Hp) (pc : Nat) : Option Out := match st with
  | .int x :: r => if x.toInt < lo ∨ hi < x.toInt then o_jp pc dflt L r h else match offs[(x.toInt - lo).toNat]? with
    | some off => o_jp pc off L r h
    | none => none
  | _ => none
def o_lkp (dflt : Int) (ps : Array (Int × Int)) (L st : List Value) (h : Hp) (pc : Nat) : Option Out := match st with
  | .int x :: r => if (ps.toList.zip (ps.toList.drop 1)).all (fun (a, next) => a.1 < next.1) = true then o_jp pc (Op.lookupswitch.offset ps.toList dflt x.toInt) L r h else none
  | _ => none
def o_gf (o i : Nat) (L st : List Value) (h : Hp) (pc : Nat) : Option Out := match st with
  | .ref a :: r => match fF o i with
    | some (ci, k, _, _) => match h.2 a with
      | some (.inr (c', fs)) => if c' = ci then match fs[k]? with
          | some v => nx pc L (v :: r) h
          | none => none
        else none
      | _ => none
    | none => none
  | _ => none
def okV (ty : Nat) (v : Value) : Bool := match ty, v with
  | 0, .int _ => true
  | 1, .ref _ => true
  | 1, .null => true
  | _, _ => false
def o_pf (ini : Bool) (o i : Nat) (L st : List Value) (h : Hp) (pc : Nat) : Option Out := match st with
  | v :: .ref a :: r => match fF o i with
    | some (ci, k, ty, fin) => match h.2 a with
      | some (.inr (c', fs)) => if c' = ci ∧ k < fs.length ∧ okV ty v = true ∧ (fin = 0 ∨ (ini = true ∧ ci = o)) then nx pc L r (sE h a (.inr (ci, fs.set k v))) else none
      | _ => none
    | none => none
  | _ => none
/-- loads of ints out of an array of type t -/
def o_ial (X : Tok) (t : Nat) (L st : List Value) (h : Hp) (pc : Nat) : Option Out := match st with
  | .int j :: .ref a :: r => match h.2 a with
    | some (.inl (t', n, .inl f)) => if t' = t ∧ ¬ (j < 0 ∨ n ≤ j.toNatClampNeg) then nx pc L (.int (f j.toNatClampNeg) :: r) h else none
    | _ => none
  | .int j :: .float k :: r => match X k with
    | some (n, f) => if t = 0 ∧ ¬ (j < 0 ∨ n ≤ j.toNatClampNeg) then nx pc L (.int (f j.toNatClampNeg) :: r) h else none
    | none => none
  | _ => none
def o_lal (L st : List Value) (h : Hp) (pc : Nat) : Option Out := match st with
  | .int j :: .ref a :: r => match h.2 a with
    | some (.inl (t', n, .inr (.inl f))) => if t' = 1 ∧ ¬ (j < 0 ∨ n ≤ j.toNatClampNeg) then nx pc L (.long (f j.toNatClampNeg) :: r) h else none
    | _ => none
  | _ => none
def o_aal (L st : List Value) (h : Hp) (pc : Nat) : Option Out := match st with
  | .int j :: .ref a :: r => match h.2 a with
    | some (.inl (t', n, .inr (.inr (.inr (.inr f))))) => if (4 ≤ t' ∧ t' ≤ 6) ∧ ¬ (j < 0 ∨ n ≤ j.toNatClampNeg) then nx pc L (va_rf (f j.toNatClampNeg) :: r) h else none
    | _ => none
  | _ => none
def o_ias (t : Nat) (nar : Int32 → Int32) (L st : List Value) (h : Hp) (pc : Nat) : Option Out := match st with
  | .int x :: .int j :: .ref a :: r => match h.2 a with
    | some (.inl (t', n, .inl f)) => if t' = t ∧ ¬ (j < 0 ∨ n ≤ j.toNatClampNeg) then nx pc L r (sE h a (.inl (t, n, .inl (upd f j.toNatClampNeg (nar x))))) else none
    | _ => none
  | _ => none
def o_las (L st : List Value) (h : Hp) (pc : Nat) : Option Out := match st with
  | .long x :: .int j :: .ref a :: r => match h.2 a with
    | some (.inl (t', n, .inr (.inl f))) => if t' = 1 ∧ ¬ (j < 0 ∨ n ≤ j.toNatClampNeg) then nx pc L r (sE h a (.inl (1, n, .inr (.inl (vp_updL f j.toNatClampNeg x))))) else none
    | _ => none
  | _ => none
def o_aas (L st : List Value) (h : Hp) (pc : Nat) : Option Out := match st with
  | .ref v :: .int j :: .ref a :: r => match h.2 a with
    | some (.inl (t', n, .inr (.inr (.inr (.inr f))))) => match h.2 v with
      | some (.inr (ci, _)) => if tyL[t']? = (cls[ci]?).map (fun q => FieldType.object q.1) ∧ t' < 7 ∧ ci < 11 ∧ ¬ (j < 0 ∨ n ≤ j.toNatClampNeg) then nx pc L r (sE h a (.inl (t', n, .inr (.inr (.inr (.inr (va_up f j.toNatClampNeg (some v)))))))) else none
      | _ => none
    | _ => none
  | _ => none
def o_len (X : Tok) (L st : List Value) (h : Hp) (pc : Nat) : Option Out := match st with
  | .ref a :: r => match h.2 a with
    | some (.inl (t', n, _)) => if t' < 7 then nx pc L (.int (Int32.ofNat n) :: r) h else none
    | _ => none
  | .float k :: r => match X k with
    | some (n, _) => nx pc L (.int (Int32.ofNat n) :: r) h
    | none => none
  | _ => none
def o_new (o i : Nat) (L st : List Value) (h : Hp) (pc : Nat) : Option Out := match fN o i with
  | some ci => if ci < 11 then nx pc L (.ref h.1 :: st) (nE h (.inr (ci, dfl ci))) else none
  | none => none
def nwA (at' : ArrayType) : Option (Nat × ((Nat → Int32) ⊕ (Nat → Int64) ⊕ (Nat → UInt32) ⊕ (Nat → UInt64) ⊕ (Nat → Option Nat))) := match at' with
  | .int => some (0, .inl fun _ => 0)
  | .long => some (1, .inr (.inl fun _ => 0))
  | .byte => some (2, .inl fun _ => 0)
  | .short => some (3, .inl fun _ => 0)
  | _ => none
def o_nwa (at' : ArrayType) (L st : List Value) (h : Hp) (pc : Nat) : Option Out := match st with
  | .int n :: r => match nwA at' with
    | some (t, a) => if n < 0 ∨ 700 < n.toNatClampNeg then none else nx pc L (.ref h.1 :: r) (nE h (.inl (t, n.toNatClampNeg, a)))
    | none => none
  | _ => none
def o_anw (o i : Nat) (L st : List Value) (h : Hp) (pc : Nat) : Option Out := match st with
  | .int n :: r => match fA o i with
    | some t => if n < 0 ∨ 700 < n.toNatClampNeg ∨ 7 ≤ t then none else nx pc L (.ref h.1 :: r) (nE h (.inl (t, n.toNatClampNeg, .inr (.inr (.inr (.inr fun _ => none))))))
    | none => none
  | _ => none
def o_ldc (o i : Nat) (L st : List Value) (h : Hp) (pc : Nat) : Option Out := match fK o i with
  | some v => nx pc L (.int v :: st) h
  | none => none
def o_ldl (o i : Nat) (L st : List Value) (h : Hp) (pc : Nat) : Option Out := match fL o i with
  | some v => nx pc L (.long v :: st) h
  | none => none
def exL : List Value → List Value
  | [] => []
  | v :: vs => if v.category = 2 then v :: mkU :: exL vs else v :: exL vs
def ent (M : MI) (av : List Value) : List Value := exL av ++ List.replicate (M.2.2.2.1 - (exL av).length) mkU
def okCall (M : MI) (av rest : List Value) : Prop := (exL av).length ≤ M.2.2.2.1 ∧ M.2.2.2.1 ≤ 45 ∧ (rest.map fun v => v.category).sum ≤ 8
def o_call (M : MI) (av rest : List Value) : Option Out := if (exL av).length ≤ M.2.2.2.1 ∧ M.2.2.2.1 ≤ 45 ∧ (rest.map fun v => v.category).sum ≤ 8 then some (.inr (.inl (M, av, rest))) else none
def o_iv (o i : Nat) (_L st : List Value) (h : Hp) (_pc : Nat) : Option Out := match fC o i with
  | some (0, ci, n, M) => match st.drop n with
    | .ref a :: rest => match h.2 a with
      | some (.inr (c', _)) => if c' = ci ∧ (st.take n).length = n then o_call M (.ref a :: (st.take n).reverse) rest else none
      | _ => none
    | _ => none
  | _ => none
def o_math (d pc : Nat) (L rest : List Value) (h : Hp) (v : Value) : Option Out := if 0 < d ∧ (rest.map fun v => v.category).sum ≤ 8 then nx (pc + 3) L (v :: rest) h else none
def o_is1 (d o i : Nat) (L st : List Value) (h : Hp) (pc : Nat) : Option Out := match fC o i with
  | some (1, _, n, M) => if (st.take n).length = n then o_call M (st.take n).reverse (st.drop n) else none
  | some (4, _, n, M) => if (st.take n).length = n then o_call M (st.take n).reverse (st.drop n) else none
  | some (6, _, _, _) => match st with
    | .int y :: .int x :: rest => o_math d pc L rest h (.int (if x < y then y else x))
    | _ => none
  | some (7, _, _, _) => match st with
    | .int y :: .int x :: rest => o_math d pc L rest h (.int (if y < x then y else x))
    | _ => none
  | some (8, _, _, _) => match st with
    | .int x :: rest => o_math d pc L rest h (.int (if 0 ≤ x then x else 0 - x))
    | _ => none
  | some (9, _, _, _) => match st with
    | .long y :: .long x :: rest => o_math d pc L rest h (.long (if y < x then y else x))
    | _ => none
  | some (10, _, _, _) => o_cp d pc L st h
  | _ => none
def o_ip (d o i : Nat) (L st : List Value) (h : Hp) (pc : Nat) : Option Out := match fC o i with
  | some (2, _, n, M) => match st.drop n with
    | .ref a :: rest => if (st.take n).length = n then o_call M (.ref a :: (st.take n).reverse) rest else none
    | _ => none
  | some (5, _, n, M) => match st.drop n with
    | .ref a :: rest => if (st.take n).length = n then o_call M (.ref a :: (st.take n).reverse) rest else none
    | _ => none
  | some (3, _, _, _) => match st with
    | .ref _ :: rest => if 0 < d ∧ (rest.map fun v => v.category).sum ≤ 8 then nx (pc + 3) L rest h else none
    | _ => none
  | _ => none
def o_ir (rt : Option FieldType) (st : List Value) : Option Out := match rt, st with
  | some .int, [.int x] => some (.inr (.inr (some (.int x))))
  | some .boolean, [.int x] => if x = 0 ∨ x = 1 then some (.inr (.inr (some (.int x)))) else none
  | _, _ => none
def o_lr (rt : Option FieldType) (st : List Value) : Option Out := match rt, st with
  | some .long, [.long x] => some (.inr (.inr (some (.long x))))
  | _, _ => none
def o_ar (rt : Option FieldType) (st : List Value) : Option Out := match rt, st with
  | some (.object _), [.ref x] => some (.inr (.inr (some (.ref x))))
  | some (.object _), [.null] => some (.inr (.inr (some .null)))
  | _, _ => none
def o_vr (rt : Option FieldType) (st : List Value) : Option Out := match rt, st with
  | none, [] => some (.inr (.inr none))
  | _, _ => none
def ex (X : Tok) (d : Nat) (M : MI) (pc : Nat) (ins : Instr) (len : Nat) (L st : List Value) (h : Hp) : Option Out := match ins with
  | .iload_n k => g1 len 1 (o_il L st h (pc + 1) k)
  | .iload i => g1 len 2 (o_il L st h (pc + 2) i)
  | .lload_n k => g1 len 1 (o_ll L st h (pc + 1) k)
  | .lload i => g1 len 2 (o_ll L st h (pc + 2) i)
  | .aload_n k => g1 len 1 (o_al L st h (pc + 1) k)
  | .aload i => g1 len 2 (o_al L st h (pc + 2) i)
  | .istore_n k => g1 len 1 (o_is L st h (pc + 1) k)
  | .istore i => g1 len 2 (o_is L st h (pc + 2) i)
  | .lstore_n k => g1 len 1 (o_ls L st h (pc + 1) k)
  | .lstore i => g1 len 2 (o_ls L st h (pc + 2) i)
  | .astore_n k => g1 len 1 (o_as L st h (pc + 1) k)
  | .astore i => g1 len 2 (o_as L st h (pc + 2) i)
  | .iinc i n => g1 len 3 (o_inc L st h (pc + 3) i n)
  | .iconst n => g1 len 1 (nx (pc + 1) L (.int (Int32.ofInt n) :: st) h)
  | .bipush n => g1 len 2 (nx (pc + 2) L (.int (Int8.ofInt n).toInt32 :: st) h)
  | .sipush n => g1 len 3 (nx (pc + 3) L (.int (Int16.ofInt n).toInt32 :: st) h)
  | .lconst n => g1 len 1 (nx (pc + 1) L (.long (Int64.ofNat (n : Nat)) :: st) h)
  | .aconst_null => g1 len 1 (nx (pc + 1) L (.null :: st) h)
  | .ldc i => g1 len 2 (o_ldc M.1 i L st h (pc + 2))
  | .ldc_w i => g1 len 3 (o_ldc M.1 i L st h (pc + 3))
  | .ldc2_w i => g1 len 3 (o_ldl M.1 i L st h (pc + 3))
  | .iadd => g1 len 1 (o_ii (fun x y => x + y) L st h (pc + 1))
  | .isub => g1 len 1 (o_ii (fun x y => x - y) L st h (pc + 1))
  | .imul => g1 len 1 (o_ii (fun x y => x * y) L st h (pc + 1))
  | .iand => g1 len 1 (o_ii (fun x y => x &&& y) L st h (pc + 1))
  | .ior => g1 len 1 (o_ii (fun x y => x ||| y) L st h (pc + 1))
  | .ixor => g1 len 1 (o_ii (fun x y => x ^^^ y) L st h (pc + 1))
  | .ishr => g1 len 1 (o_ii (fun x y => x >>> (y &&& 31)) L st h (pc + 1))
  | .iushr => g1 len 1 (o_ii (fun x y => (x.toUInt32 >>> (y.toUInt32 &&& Int32.toUInt32 31)).toInt32) L st h (pc + 1))
  | .idiv => g1 len 1 (o_i0 (fun x y => x / y) L st h (pc + 1))
  | .irem => g1 len 1 (o_i0 (fun x y => x - x / y * y) L st h (pc + 1))
  | .ineg => g1 len 1 (o_i (fun x => -x) L st h (pc + 1))
  | .i2b => g1 len 1 (o_i (fun x => x.toInt8.toInt32) L st h (pc + 1))
  | .i2s => g1 len 1 (o_i (fun x => x.toInt16.toInt32) L st h (pc + 1))
  | .ladd => g1 len 1 (o_lL (fun x y => x + y) L st h (pc + 1))
  | .lmul => g1 len 1 (o_lL (fun x y => x * y) L st h (pc + 1))
  | .land => g1 len 1 (o_lL (fun x y => x &&& y) L st h (pc + 1))
  | .lor => g1 len 1 (o_lL (fun x y => x ||| y) L st h (pc + 1))
  | .ldiv => g1 len 1 (o_l0 (fun x y => x / y) L st h (pc + 1))
  | .lshl => g1 len 1 (o_lsh (fun x y => x <<< (y.toInt64 &&& 63)) L st h (pc + 1))
  | .i2l => g1 len 1 (o_i2l L st h (pc + 1))
  | .l2i => g1 len 1 (o_l2i L st h (pc + 1))
  | .lcmp => g1 len 1 (o_lcmp L st h (pc + 1))
  | .dup => g1 len 1 (o_dup L st h (pc + 1))
  | .pop => g1 len 1 (o_pop L st h (pc + 1))
  | .pop2 => g1 len 1 (o_pop2 L st h (pc + 1))
  | .getstatic i => g1 len 3 (o_gs M.1 i L st h (pc + 3))
  | .dup2 => g1 len 1 (o_dup2 L st h (pc + 1))
  | .goto off => g1 len 3 (o_jp pc off L st h)
  | .if_icmp cc off => g1 len 3 (o_if2 cc off L st h pc)
  | .ifCond cc off => g1 len 3 (o_if1 cc off L st h pc)
  | .ifnull off => g1 len 3 (o_nul true off L st h pc)
  | .ifnonnull off => g1 len 3 (o_nul false off L st h pc)
  | .tableswitch dflt lo hi offs => o_tab dflt lo hi offs L st h pc
  | .lookupswitch dflt ps => o_lkp dflt ps L st h pc
  | .getfield i => g1 len 3 (o_gf M.1 i L st h (pc + 3))
  | .putfield i => g1 len 3 (o_pf (decide (M.2.1.name = "<init>")) M.1 i L st h (pc + 3))
  | .iaload => g1 len 1 (o_ial X 0 L st h (pc + 1))
  | .baload => g1 len 1 (o_ial X 2 L st h (pc + 1))
  | .saload => g1 len 1 (o_ial X 3 L st h (pc + 1))
  | .laload => g1 len 1 (o_lal L st h (pc + 1))
  | .aaload => g1 len 1 (o_aal L st h (pc + 1))
  | .iastore => g1 len 1 (o_ias 0 (fun x => x) L st h (pc + 1))
  | .bastore => g1 len 1 (o_ias 2 (fun x => x.toInt8.toInt32) L st h (pc + 1))
  | .sastore => g1 len 1 (o_ias 3 (fun x => x.toInt16.toInt32) L st h (pc + 1))
  | .lastore => g1 len 1 (o_las L st h (pc + 1))
  | .aastore => g1 len 1 (o_aas L st h (pc + 1))
  | .arraylength => g1 len 1 (o_len X L st h (pc + 1))
  | .new i => g1 len 3 (o_new M.1 i L st h (pc + 3))
  | .newarray at' => g1 len 2 (o_nwa at' L st h (pc + 2))
  | .anewarray i => g1 len 3 (o_anw M.1 i L st h (pc + 3))
  | .invokevirtual i => g1 len 3 (o_iv M.1 i L st h pc)
  | .invokestatic i => g1 len 3 (o_is1 d M.1 i L st h pc)
  | .invokespecial i => g1 len 3 (o_ip d M.1 i L st h pc)
  | .ireturn => g1 len 1 (o_ir M.2.2.2.2 st)
  | .lreturn => g1 len 1 (o_lr M.2.2.2.2 st)
  | .areturn => g1 len 1 (o_ar M.2.2.2.2 st)
  | .return_ => g1 len 1 (o_vr M.2.2.2.2 st)
  | _ => none
def stp (X : Tok) (d : Nat) (M : MI) (pc : Nat) (L st : List Value) (h : Hp) : Option Out := match decode M.2.2.1 pc with
  | .ok (ins, len) => ex X d M pc ins len L st h
  | .error _ => none
def psh (v : Option Value) (rest : List Value) : List Value := match v with
  | none => rest
  | some v => v :: rest
def run (X : Tok) : Nat → Nat → MI → Nat → List Value → List Value → Hp → Res
  | 0, _, _, _, _, _, _ => none
  | f + 1, d, M, pc, L, st, h => match stp X d M pc L st h with
    | none => none
    | some (.inl (pc', L', st', h')) => run X f d M pc' L' st' h'
    | some (.inr (.inl (M', av, rest))) => match d with
      | 0 => none
      | d' + 1 => match run X f d' M' 0 (ent M' av) [] h with
        | none => none
        | some (v, h') => run X f (d' + 1) M (pc + 3) L (psh v rest) h'
    | some (.inr (.inr v)) => some (v, h)
theorem run_mono (X : Tok) : ∀ (f d : Nat) (M : MI) (pc : Nat) (L st : List Value) (h : Hp) (r : Option Value × Hp), run X f d M pc L st h = some r → run X (f + 1) d M pc L st h = some r := by
  intro f
  induction f with
  | zero => intro d M pc L st h r hr; exact absurd hr (by simp [run])
  | succ f ih =>
    intro d M pc L st h r hr
    rw [run] at hr
    rw [run]
    cases hs : stp X d M pc L st h with
    | none => rw [hs] at hr; exact absurd hr (by simp)
    | some o =>
      rw [hs] at hr
      rcases o with ⟨pc', L', st', h'⟩ | ⟨M', av, rest⟩ | v
      · exact ih _ _ _ _ _ _ _ hr
      · cases d with
        | zero => exact absurd hr (by simp)
        | succ d' =>
          simp only at hr ⊢
          cases hq : run X f d' M' 0 (ent M' av) [] h with
          | none => rw [hq] at hr; exact absurd hr (by simp)
          | some q =>
            rw [hq] at hr
            rw [ih _ _ _ _ _ _ _ hq]
            exact ih _ _ _ _ _ _ _ hr
      · exact hr
theorem run_le (X : Tok) {f g : Nat} (hfg : f ≤ g) {d : Nat} {M : MI} {pc : Nat} {L st : List Value} {h : Hp} {r : Option Value × Hp} (hr : run X f d M pc L st h = some r) : run X g d M pc L st h = some r := by
  induction hfg with
  | refl => exact hr
  | step _ ih => exact run_mono X _ _ _ _ _ _ _ _ ih
theorem run_det (X : Tok) {f g d : Nat} {M : MI} {pc : Nat} {L st : List Value} {h : Hp} {r q : Option Value × Hp} (h1 : run X f d M pc L st h = some r) (h2 : run X g d M pc L st h = some q) : r = q := by
  have a := run_le X (Nat.le_max_left f g) h1
  have b := run_le X (Nat.le_max_right f g) h2
  rw [a] at b
  exact Option.some.inj b
/-- the answer, whatever the fuel -/
noncomputable def Rr (X : Tok) (d : Nat) (M : MI) (pc : Nat) (L st : List Value) (h : Hp) : Res :=
  haveI := Classical.propDecidable (∃ r, ∃ f, run X f d M pc L st h = some r)
  if w : ∃ r, ∃ f, run X f d M pc L st h = some r then some w.choose else none
theorem Rr_iff (X : Tok) {d : Nat} {M : MI} {pc : Nat} {L st : List Value} {h : Hp} {r : Option Value × Hp} : Rr X d M pc L st h = some r ↔ ∃ f, run X f d M pc L st h = some r := by
  unfold Rr
  constructor
  · intro hr
    by_cases w : ∃ r, ∃ f, run X f d M pc L st h = some r
    · rw [dif_pos w] at hr
      rw [← Option.some.inj hr]
      exact w.choose_spec
    · rw [dif_neg w] at hr
      exact absurd hr (by simp)
  · rintro ⟨f, hf⟩
    have w : ∃ r, ∃ f, run X f d M pc L st h = some r := ⟨r, f, hf⟩
    rw [dif_pos w]
    obtain ⟨g, hg⟩ := w.choose_spec
    rw [run_det X hg hf]
/-- one step of the answer -/
theorem Rr_step (X : Tok) (d : Nat) (M : MI) (pc : Nat) (L st : List Value) (h : Hp) : Rr X d M pc L st h = match stp X d M pc L st h with
    | none => none
    | some (.inl (pc', L', st', h')) => Rr X d M pc' L' st' h'
    | some (.inr (.inl (M', av, rest))) => match d with
      | 0 => none
      | d' + 1 => (Rr X d' M' 0 (ent M' av) [] h).bind fun q => Rr X (d' + 1) M (pc + 3) L (psh q.1 rest) q.2
    | some (.inr (.inr v)) => some (v, h) := by
  apply Option.ext
  intro r
  rw [Rr_iff]
  cases hs : stp X d M pc L st h with
  | none =>
    simp only [reduceCtorEq, iff_false]
    rintro ⟨f, hf⟩
    cases f with
    | zero => exact absurd hf (by simp [run])
    | succ f => rw [run, hs] at hf; exact absurd hf (by simp)
  | some o =>
    rcases o with ⟨pc', L', st', h'⟩ | ⟨M', av, rest⟩ | v
    · simp only
      rw [Rr_iff]
      constructor
      · rintro ⟨f, hf⟩
        cases f with
        | zero => exact absurd hf (by simp [run])
        | succ f => rw [run, hs] at hf; exact ⟨f, hf⟩
      · rintro ⟨f, hf⟩
        exact ⟨f + 1, by rw [run, hs]; exact hf⟩
    · cases d with
      | zero =>
        simp only [reduceCtorEq, iff_false]
        rintro ⟨f, hf⟩
        cases f with
        | zero => exact absurd hf (by simp [run])
        | succ f => rw [run, hs] at hf; exact absurd hf (by simp)
      | succ d' =>
        simp only
        rw [Option.bind_eq_some_iff]
        constructor
        · rintro ⟨f, hf⟩
          cases f with
          | zero => exact absurd hf (by simp [run])
          | succ f =>
            rw [run, hs] at hf
            simp only at hf
            cases hq : run X f d' M' 0 (ent M' av) [] h with
            | none => rw [hq] at hf; exact absurd hf (by simp)
            | some q =>
              rw [hq] at hf
              exact ⟨q, (Rr_iff X).mpr ⟨f, hq⟩, (Rr_iff X).mpr ⟨f, hf⟩⟩
        · rintro ⟨q, hq, hr⟩
          obtain ⟨f, hf⟩ := (Rr_iff X).mp hq
          obtain ⟨g, hg⟩ := (Rr_iff X).mp hr
          refine ⟨max f g + 1, ?_⟩
          rw [run, hs]
          simp only
          rw [run_le X (Nat.le_max_left f g) hf]
          exact run_le X (Nat.le_max_right f g) hg
    · simp only
      constructor
      · rintro ⟨f, hf⟩
        cases f with
        | zero => exact absurd hf (by simp [run])
        | succ f => rw [run, hs] at hf; exact hf
      · intro hr
        exact ⟨1, by rw [run, hs]; exact hr⟩
