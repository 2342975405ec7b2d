-- ===== THE CHECKER: a method walked path by path; an int is a symbol and a constant, a symbol has an interval; references are places of cells
abbrev AV : Type := (Nat × Int) ⊕ ((Nat × Int) ⊕ (Nat ⊕ (Nat ⊕ Bool)))
abbrev Env : Type := List (Nat × Int × Int)
abbrev Mem : Type := List (Nat × Nat × Nat × Int)
abbrev Dvs : Type := List (Bool × Nat × Int × Int × Nat)
abbrev St : Type := Nat × Env × Mem × Dvs
def ile (a b : Int) : Bool := match a, b with
  | .ofNat m, .ofNat n => Nat.ble m n
  | .negSucc _, .ofNat _ => true
  | .ofNat _, .negSucc _ => false
  | .negSucc m, .negSucc n => Nat.ble n m
theorem ile_iff (a b : Int) : ile a b = true ↔ a ≤ b := by
  cases a <;> cases b <;> simp only [ile, Nat.ble_eq, Int.ofNat_eq_natCast, Int.negSucc_eq, true_iff, Bool.false_eq_true, false_iff] <;> omega
def imn (a b : Int) : Int := if ile a b = true then a else b
def imx (a b : Int) : Int := if ile a b = true then b else a
noncomputable def lk (e : Env) (x : Nat) : Option (Int × Int) := List.rec none (fun p _ r => cond (Nat.beq p.1 x) (some p.2) r) e
theorem lk_c (p : Nat × Int × Int) (e : Env) (x : Nat) : lk (p :: e) x = if Nat.beq p.1 x = true then some p.2 else lk e x := by
  show cond (Nat.beq p.1 x) (some p.2) (lk e x) = _
  cases Nat.beq p.1 x <;> rfl
/-- the interval of symbol and constant -/
noncomputable def itv (e : Env) (s : Nat) (o : Int) : Option (Int × Int) := cond (Nat.beq s 0) (some (o, o)) (match lk e s with
  | some (lo, hi) => some (lo + o, hi + o)
  | none => none)
noncomputable def iLo : Int := -2147483648
noncomputable def iHi : Int := 2147483647
noncomputable def jLo : Int := -9223372036854775808
noncomputable def jHi : Int := 9223372036854775807
noncomputable def inI (lo hi : Int) : Bool := ile iLo lo && ile hi iHi
noncomputable def inJ (lo hi : Int) : Bool := ile jLo lo && ile hi jHi
noncomputable def fre (σ : St) (lo hi : Int) : St := (σ.1 + 1, (σ.1, lo, hi) :: σ.2.1, σ.2.2.1, σ.2.2.2)
noncomputable def wEnv (σ : St) (e : Env) : St := (σ.1, e, σ.2.2.1, σ.2.2.2)
noncomputable def wMem (σ : St) (m : Mem) : St := (σ.1, σ.2.1, m, σ.2.2.2)
/-- an int, a long of which an interval is known -/
noncomputable def mkI (σ : St) (lo hi : Int) : St × AV := if inI lo hi = true then (if ile hi lo = true then (σ, (.inl (0, lo))) else (fre σ lo hi, (.inl (σ.1, 0)))) else (fre σ iLo iHi, (.inl (σ.1, 0)))
noncomputable def mkL (σ : St) (lo hi : Int) : St × AV := if inJ lo hi = true then (if ile hi lo = true then (σ, (.inr (.inl (0, lo)))) else (fre σ lo hi, (.inr (.inl (σ.1, 0))))) else (fre σ jLo jHi, (.inr (.inl (σ.1, 0))))
noncomputable def tI (σ : St) : St × AV := (fre σ iLo iHi, (.inl (σ.1, 0)))
noncomputable def tL (σ : St) : St × AV := (fre σ jLo jHi, (.inr (.inl (σ.1, 0))))
/-- a symbol held within bounds; none: no such case -/
noncomputable def nar (σ : St) (s : Nat) (lo hi : Int) : Option St := match lk σ.2.1 s with
  | some (a, b) => if ile (imx a lo) (imn b hi) = true then (if (ile lo a && ile b hi) = true then some σ else some (wEnv σ ((s, imx a lo, imn b hi) :: σ.2.1))) else none
  | none => some σ
noncomputable def nar2 (σ : Option St) (s : Nat) (lo hi : Int) : Option St := match σ with
  | some σ => nar σ s lo hi
  | none => none
noncomputable def rLt (σ : St) (s : Nat) (o : Int) (s' : Nat) (o' : Int) : Option St :=
  if Nat.beq s s' = true then (if ile (o + 1) o' = true then some σ else none) else
  match itv σ.2.1 s o, itv σ.2.1 s' o' with
  | some (l, h), some (l', h') => nar2 (nar σ s (l - o) (h' - 1 - o)) s' (l + 1 - o') (h' - o')
  | _, _ => some σ
noncomputable def rLe (σ : St) (s : Nat) (o : Int) (s' : Nat) (o' : Int) : Option St :=
  if Nat.beq s s' = true then (if ile o o' = true then some σ else none) else
  match itv σ.2.1 s o, itv σ.2.1 s' o' with
  | some (l, h), some (l', h') => nar2 (nar σ s (l - o) (h' - o)) s' (l - o') (h' - o')
  | _, _ => some σ
noncomputable def rEq (σ : St) (s : Nat) (o : Int) (s' : Nat) (o' : Int) : Option St :=
  match itv σ.2.1 s o, itv σ.2.1 s' o' with
  | some (l, h), some (l', h') => nar2 (nar σ s (l' - o) (h' - o)) s' (l - o') (h - o')
  | _, _ => some σ
noncomputable def rNe (σ : St) (s : Nat) (o : Int) (s' : Nat) (o' : Int) : Option St :=
  match itv σ.2.1 s o, itv σ.2.1 s' o' with
  | some (l, h), some (l', h') =>
    if ile h l = true then (if (ile l' l && ile l l') = true then nar σ s' (l + 1 - o') (h' - o') else if (ile h' l && ile l h') = true then nar σ s' (l' - o') (l - 1 - o') else some σ)
    else if ile h' l' = true then (if (ile l' l && ile l l') = true then nar σ s (l' + 1 - o) (h - o) else if (ile l' h && ile h l') = true then nar σ s (l - o) (l' - 1 - o) else some σ)
    else some σ
  | _, _ => some σ
noncomputable def oL (a : Option St) : List St := match a with
  | some σ => [σ]
  | none => []
/-- the cases in which a comparison holds -/
noncomputable def brC (cc : ClassFile.Cond) (σ : St) (s : Nat) (o : Int) (s' : Nat) (o' : Int) : List St := match cc with
  | .eq => oL (rEq σ s o s' o')
  | .ne => if (Nat.beq s' 0 && (ile o' 0 && ile 0 o')) = true then oL (rLt σ s o s' o') ++ oL (rLt σ s' o' s o) else oL (rNe σ s o s' o')
  | .lt => oL (rLt σ s o s' o')
  | .ge => oL (rLe σ s' o' s o)
  | .gt => oL (rLt σ s' o' s o)
  | .le => oL (rLe σ s o s' o')
noncomputable def brL (cc : ClassFile.Cond) (σ : St) (s : Nat) (o : Int) (s' : Nat) (o' : Int) : List St := match cc with
  | .ne => oL (rNe σ s o s' o')
  | c => brC c σ s o s' o'
noncomputable def ngC : ClassFile.Cond → ClassFile.Cond
  | .eq => .ne
  | .ne => .eq
  | .lt => .ge
  | .ge => .lt
  | .gt => .le
  | .le => .gt
noncomputable def cH (c : ClassFile.Cond) (a b : Int) : Prop := match c with
  | .eq => a = b
  | .ne => ¬ a = b
  | .lt => a < b
  | .ge => b ≤ a
  | .gt => b < a
  | .le => a ≤ b
/-- numbers of memory: the symbol and constant of (cell, place), where known -/
noncomputable def mlk (m : Mem) (b j : Nat) : Option (Nat × Int) := List.rec none (fun p _ r => cond (cond (Nat.beq p.2.1 j) (Nat.beq p.1 b) false) (some p.2.2) r) m
theorem mlk_c (p : Nat × Nat × Nat × Int) (m : Mem) (b j : Nat) : mlk (p :: m) b j = if (Nat.beq p.1 b && Nat.beq p.2.1 j) = true then some p.2.2 else mlk m b j := by
  show cond (cond (Nat.beq p.2.1 j) (Nat.beq p.1 b) false) (some p.2.2) (mlk m b j) = _
  cases Nat.beq p.1 b <;> cases Nat.beq p.2.1 j <;> rfl
noncomputable def mdel (m : Mem) (b j : Nat) : Mem := List.rec [] (fun p _ r => cond (cond (Nat.beq p.2.1 j) (Nat.beq p.1 b) false) r (p :: r)) m
theorem mdel_c (p : Nat × Nat × Nat × Int) (m : Mem) (b j : Nat) : mdel (p :: m) b j = if (Nat.beq p.1 b && Nat.beq p.2.1 j) = true then mdel m b j else p :: mdel m b j := by
  show cond (cond (Nat.beq p.2.1 j) (Nat.beq p.1 b) false) (mdel m b j) (p :: mdel m b j) = _
  cases Nat.beq p.1 b <;> cases Nat.beq p.2.1 j <;> rfl
noncomputable def mdelA (m : Mem) (b : Nat) : Mem := List.rec [] (fun p _ r => cond (Nat.beq p.1 b) r (p :: r)) m
theorem mdelA_c (p : Nat × Nat × Nat × Int) (m : Mem) (b : Nat) : mdelA (p :: m) b = if Nat.beq p.1 b = true then mdelA m b else p :: mdelA m b := by
  show cond (Nat.beq p.1 b) (mdelA m b) (p :: mdelA m b) = _
  cases Nat.beq p.1 b <;> rfl
/-- what may be written: (cell, 0) a row whole, (cell, k + 1) a field -/
abbrev WS : Type := List (Nat × Nat)
noncomputable def wIn (w : WS) (b j : Nat) : Bool := List.rec false (fun p _ r => cond (cond (Nat.beq p.2 j) (Nat.beq p.1 b) false) true r) w
theorem wIn_n (b j : Nat) : wIn [] b j = false := rfl
theorem wIn_c (a k : Nat) (w : WS) (b j : Nat) : wIn ((a, k) :: w) b j = ((Nat.beq a b && Nat.beq k j) || wIn w b j) := by
  show cond (cond (Nat.beq k j) (Nat.beq a b) false) true (wIn w b j) = _
  cases Nat.beq a b <;> cases Nat.beq k j <;> rfl
noncomputable def wSub (w v : WS) : Bool := w.all fun q => wIn v q.1 q.2
/-- facts of memory without those that writes of w touch; without those of places v -/
noncomputable def mdelW (m : Mem) (w : WS) : Mem := List.rec [] (fun p _ r => cond (cond (wIn w p.1 0) true (wIn w p.1 (p.2.1 + 1))) r (p :: r)) m
theorem mdelW_c (p : Nat × Nat × Nat × Int) (m : Mem) (w : WS) : mdelW (p :: m) w = if (wIn w p.1 0 || wIn w p.1 (p.2.1 + 1)) = true then mdelW m w else p :: mdelW m w := by
  show cond (cond (wIn w p.1 0) true (wIn w p.1 (p.2.1 + 1))) (mdelW m w) (p :: mdelW m w) = _
  cases wIn w p.1 0 <;> cases wIn w p.1 (p.2.1 + 1) <;> rfl
noncomputable def mdelP (m : Mem) (w : WS) : Mem := List.rec [] (fun p _ r => cond (wIn w p.1 p.2.1) r (p :: r)) m
theorem mdelP_c (p : Nat × Nat × Nat × Int) (m : Mem) (w : WS) : mdelP (p :: m) w = if wIn w p.1 p.2.1 = true then mdelP m w else p :: mdelP m w := by
  show cond (wIn w p.1 p.2.1) (mdelP m w) (p :: mdelP m w) = _
  cases wIn w p.1 p.2.1 <;> rfl
/-- what is held of the numbers of memory at all times: by cell, rows by (cell, 0), fields by (cell, k + 1) -/
abbrev IVs : Type := List (Nat × Nat × Int × Int)
noncomputable def ivL (m : IVs) (b j : Nat) : Int × Int := List.rec (iLo, iHi) (fun p _ r => cond (cond (Nat.beq p.2.1 j) (Nat.beq p.1 b) false) p.2.2 r) m
theorem ivL_c (a k : Nat) (q : Int × Int) (m : IVs) (b j : Nat) : ivL ((a, k, q) :: m) b j = if (Nat.beq a b && Nat.beq k j) = true then q else ivL m b j := by
  show cond (cond (Nat.beq k j) (Nat.beq a b) false) q (ivL m b j) = _
  cases Nat.beq a b <;> cases Nat.beq k j <;> rfl
/-- locals at a head: none anything, some none kept, some (some (lo, hi)) an int between -/
abbrev LQ : Type := Option (Option (Int × Int))
/-- what counts: a local; a place of memory; a row's place by a local; true: up -/
abbrev HS : Type := List LQ × WS × (Nat ⊕ ((Nat × Nat) ⊕ (Nat × Nat))) × Bool
/-- what an argument must be: none anything; an int between; a reference; null (true), a long (false) -/
abbrev AP : Type := Option ((Int × Int) ⊕ (Nat ⊕ Bool))
/-- a contract: method, arguments, answers (none: void), what it writes, calls open below -/
abbrev Ctr : Type := Nat × List AP × Option (List AP) × WS × Nat
/-- what a check is told: heads, splits, contracts, intervals, writes, the floor (none: not read) -/
abbrev Pg : Type := List (Nat × Nat × HS) × List (Nat × Nat × Nat × Option Nat) × List Ctr × IVs × WS × Option (Option Nat)
abbrev Oc : Type := Option AV × St
abbrev Ax : Type := Option (List Oc)
noncomputable def allO {α : Type} (f : α → Ax) : List α → Ax
  | [] => some []
  | a :: as => match f a with
    | none => none
    | some l => match allO f as with
      | none => none
      | some l' => some (l ++ l')
noncomputable def or2 (a b : Ax) : Ax := match a, b with
  | some l, some l' => some (l ++ l')
  | _, _ => none
/-- a number of memory is read -/
noncomputable def ldM (iv : IVs) (σ : St) (a k j : Nat) : St × AV := match mlk σ.2.2.1 a k with
  | some (s, o) => (σ, (.inl (s, o)))
  | none => (wMem (fre σ (ivL iv a j).1 (ivL iv a j).2) ((a, k, σ.1, 0) :: σ.2.2.1), (.inl (σ.1, 0)))
/-- a number of a row, at a place not known -/
noncomputable def ldU (iv : IVs) (σ : St) (a : Nat) : St × AV := (fre σ (ivL iv a 0).1 (ivL iv a 0).2, (.inl (σ.1, 0)))
noncomputable def stM (σ : St) (a k s : Nat) (o : Int) : St := wMem σ ((a, k, s, o) :: mdel σ.2.2.1 a k)
noncomputable def stU (σ : St) (a : Nat) : St := wMem σ (mdelA σ.2.2.1 a)
noncomputable def inV (iv : IVs) (σ : St) (a j s : Nat) (o : Int) : Bool := match itv σ.2.1 s o with
  | some (l, h) => ile (ivL iv a j).1 l && ile h (ivL iv a j).2
  | none => false
noncomputable def avE : AV → AV → Bool
  | (.inl (s, o)), (.inl (s', o')) => Nat.beq s s' && (ile o o' && ile o' o)
  | (.inr (.inl (s, o))), (.inr (.inl (s', o'))) => Nat.beq s s' && (ile o o' && ile o' o)
  | (.inr (.inr (.inl (a)))), (.inr (.inr (.inl (b)))) => Nat.beq a b
  | (.inr (.inr (.inr (.inl (a))))), (.inr (.inr (.inr (.inl (b))))) => Nat.beq a b
  | (.inr (.inr (.inr (.inr true)))), (.inr (.inr (.inr (.inr true)))) => true
  | _, (.inr (.inr (.inr (.inr false)))) => false
  | (.inr (.inr (.inr (.inr false)))), _ => true
  | _, _ => false
noncomputable def cat2 : AV → Nat
  | (.inl (_, _)) => 1
  | (.inr (.inr (.inl (_)))) => 1
  | (.inr (.inr (.inr (.inl (_))))) => 1
  | (.inr (.inr (.inr (.inr true)))) => 1
  | _ => 2
noncomputable def cat2s : List AV → Nat
  | [] => 0
  | a :: r => cat2 a + cat2s r
noncomputable def exA : List AV → List AV
  | [] => []
  | a :: r => match a with
    | (.inr (.inl (s, o))) => (.inr (.inl (s, o))) :: (.inr (.inr (.inr (.inr false)))) :: exA r
    | a => a :: exA r
noncomputable def repU : Nat → List AV
  | 0 => []
  | n + 1 => (.inr (.inr (.inr (.inr false)))) :: repU n
noncomputable def entA (mx : Nat) (av : List AV) : List AV := exA av ++ repU (mx - (exA av).length)
noncomputable def setA : List AV → Nat → AV → List AV
  | [], _, _ => []
  | _ :: r, 0, v => v :: r
  | a :: r, k + 1, v => a :: setA r k v
noncomputable def wid : AV → AV
  | (.inr (.inl (_, _))) => (.inr (.inr (.inr (.inr false))))
  | a => a
/-- a local is written: one ahead of it that is wide falls -/
noncomputable def putA : List AV → Nat → AV → List AV
  | L, 0, v => setA L 0 v
  | L, k + 1, v => match L[k]? with
    | some a => setA (setA L k (wid a)) (k + 1) v
    | none => L
noncomputable def rangeN : Nat → Nat → List Nat
  | _, 0 => []
  | a, n + 1 => a :: rangeN (a + 1) n
/-- a narrowing, and what the value is then -/
noncomputable def cas (a : Option St) (f : St → St × AV) : List (St × AV) := match a with
  | some σ => [f σ]
  | none => []
noncomputable def opAdd (σ : St) (s : Nat) (o : Int) (s' : Nat) (o' : Int) : List (St × AV) := match itv σ.2.1 s o, itv σ.2.1 s' o' with
  | some (l, h), some (l', h') =>
    if (Nat.beq s' 0 && inI (l + o') (h + o')) = true then [(σ, (.inl (s, o + o')))]
    else if (Nat.beq s 0 && inI (l' + o) (h' + o)) = true then [(σ, (.inl (s', o' + o)))]
    else if (ile h' l' && inI (l + l') (h + l')) = true then [(σ, (.inl (s, o + l')))]
    else if (ile h l && inI (l' + l) (h' + l)) = true then [(σ, (.inl (s', o' + l)))]
    else if (Nat.beq s' 0 && (ile 0 o' && ile iLo (l + o'))) = true then cas (nar σ s (l - o) (iHi - o' - o)) (fun τ => (τ, (.inl (s, o + o')))) ++ cas (nar σ s (iHi - o' + 1 - o) (h - o)) (fun τ => (τ, (.inl (s, o + o' - 4294967296))))
    else [mkI σ (l + l') (h + h')]
  | _, _ => [tI σ]
noncomputable def opSub (σ : St) (s : Nat) (o : Int) (s' : Nat) (o' : Int) : List (St × AV) := match itv σ.2.1 s o, itv σ.2.1 s' o' with
  | some (l, h), some (l', h') =>
    if (Nat.beq s' 0 && inI (l - o') (h - o')) = true then [(σ, (.inl (s, o - o')))]
    else if (Nat.beq s s' && inI (o - o') (o - o')) = true then [(σ, (.inl (0, o - o')))]
    else if (ile h' l' && inI (l - l') (h - l')) = true then [(σ, (.inl (s, o - l')))]
    else [mkI σ (l - h') (h - l')]
  | _, _ => [tI σ]
noncomputable def opMul (σ : St) (s : Nat) (o : Int) (s' : Nat) (o' : Int) : List (St × AV) := match itv σ.2.1 s o, itv σ.2.1 s' o' with
  | some (l, h), some (l', h') => [mkI σ (imn (imn (l * l') (l * h')) (imn (h * l') (h * h'))) (imx (imx (l * l') (l * h')) (imx (h * l') (h * h')))]
  | _, _ => [tI σ]
noncomputable def opAnd (σ : St) (s' : Nat) (o' : Int) : List (St × AV) := match itv σ.2.1 s' o' with
  | some (l', h') => if ile 0 l' = true then [mkI σ 0 h'] else [tI σ]
  | none => [tI σ]
noncomputable def opNeg (σ : St) (s : Nat) (o : Int) : List (St × AV) := match itv σ.2.1 s o with
  | some (l, h) => if ile l iLo = true then cas (nar σ s (iLo - o) (iLo - o)) (fun τ => (τ, (.inl (0, iLo)))) ++ cas (nar σ s (iLo + 1 - o) (iHi - o)) (fun τ => mkI τ (0 - h) iHi) else [mkI σ (0 - h) (0 - l)]
  | none => [tI σ]
noncomputable def negC (a : Option St) (s : Nat) (o : Int) : List (St × AV) := match a with
  | some σ => opNeg σ s o
  | none => []
noncomputable def opAbs (σ : St) (s : Nat) (o : Int) : List (St × AV) := cas (nar σ s (0 - o) (iHi - o)) (fun τ => (τ, (.inl (s, o)))) ++ negC (nar σ s (iLo - o) (-1 - o)) s o
noncomputable def opM (b : Bool) (σ : St) (s : Nat) (o : Int) (s' : Nat) (o' : Int) : List (St × AV) := match itv σ.2.1 s o, itv σ.2.1 s' o' with
  | some (l, h), some (l', h') => if b = true then [mkI σ (imx l l') (imx h h')] else [mkI σ (imn l l') (imn h h')]
  | _, _ => [tI σ]
/-- a cut to bytes or shorts: within them it stays -/
noncomputable def opC (σ : St) (s : Nat) (o b : Int) : List (St × AV) := match itv σ.2.1 s o with
  | some (l, h) => if (ile (0 - b) l && ile h (b - 1)) = true then [(σ, (.inl (s, o)))] else [mkI σ (0 - b) (b - 1)]
  | none => [mkI σ (0 - b) (b - 1)]
noncomputable def dlk : Dvs → Bool → Nat → Int → Int → Option Nat
  | [], _, _, _, _ => none
  | (b, s, o, c, r) :: d, b', s', o', c' => if ((b == b') && (Nat.beq s s' && ((ile o o' && ile o' o) && (ile c c' && ile c' c)))) = true then some r else dlk d b' s' o' c'
/-- division (true), rest (false) by a constant -/
noncomputable def opQ (b : Bool) (σ : St) (s : Nat) (o c : Int) : List (St × AV) := match dlk σ.2.2.2 b s o c with
  | some r => [(σ, (.inl (r, 0)))]
  | none => match itv σ.2.1 s o with
    | some (l, h) => match (if b = true then (Int.tdiv l c, Int.tdiv h c) else ((if ile 0 l = true then 0 else 1 - c), imx 0 (imn h (c - 1)))) with
      | (lo, hi) => [((σ.1 + 1, (σ.1, lo, hi) :: σ.2.1, σ.2.2.1, (b, s, o, c, σ.1) :: σ.2.2.2), (.inl (σ.1, 0)))]
    | none => [tI σ]
noncomputable def opD (b : Bool) (σ : St) (s : Nat) (o : Int) (s' : Nat) (o' : Int) : Option (List (St × AV)) := match itv σ.2.1 s' o' with
  | some (l', h') => if (ile 1 l' && ile h' l') = true then some (opQ b σ s o l') else if (ile 1 l' || ile h' (-1)) = true then some [tI σ] else none
  | none => none
noncomputable def opLA (σ : St) (s : Nat) (o : Int) (s' : Nat) (o' : Int) : List (St × AV) := match itv σ.2.1 s o, itv σ.2.1 s' o' with
  | some (l, h), some (l', h') => if (Nat.beq s' 0 && inJ (l + o') (h + o')) = true then [(σ, (.inr (.inl (s, o + o'))))] else [mkL σ (l + l') (h + h')]
  | _, _ => [tL σ]
noncomputable def opLM (σ : St) (s : Nat) (o : Int) (s' : Nat) (o' : Int) : List (St × AV) := match itv σ.2.1 s o, itv σ.2.1 s' o' with
  | some (l, h), some (l', h') => [mkL σ (imn (imn (l * l') (l * h')) (imn (h * l') (h * h'))) (imx (imx (l * l') (l * h')) (imx (h * l') (h * h')))]
  | _, _ => [tL σ]
noncomputable def opL2I (σ : St) (s : Nat) (o : Int) : List (St × AV) := match itv σ.2.1 s o with
  | some (l, h) => if inI l h = true then [(σ, (.inl (s, o)))] else [tI σ]
  | none => [tI σ]
/-- rows of references hold these -/
noncomputable def rowA (a k : Nat) : Nat := if Nat.beq a 3 = true then 19 + 5 * k else if Nat.beq a 4 = true then 49 + 5 * k else 69 + 2 * k
noncomputable def tokL (k : Nat) : Nat := if Nat.beq k 1 = true then 8 else 32
noncomputable def tokI (k : Nat) : Int × Int := if Nat.beq k 1 = true then (-1, 6) else (0, 81)
noncomputable def avO : Option Nat → AV
  | some a => (.inr (.inr (.inl (a))))
  | none => (.inr (.inr (.inr (.inr true))))
noncomputable def isFl (v : AV) : Bool := match v with
  | (.inr (.inr (.inl (a)))) => (Nat.beq a 49 || Nat.beq a 54) || (Nat.beq a 59 || Nat.beq a 64)
  | (.inr (.inr (.inr (.inr true)))) => true
  | _ => false
noncomputable def apOk1 (σ : St) (p : AP) (v : AV) : Bool := match p with
  | none => true
  | some (.inl (lo, hi)) => match v with
    | (.inl (s, o)) => match itv σ.2.1 s o with
      | some (l, h) => ile lo l && ile h hi
      | none => false
    | _ => false
  | some (.inr (.inl a)) => match v with
    | (.inr (.inr (.inl (b)))) => Nat.beq a b
    | _ => false
  | some (.inr (.inr true)) => match v with
    | (.inr (.inr (.inr (.inr true)))) => true
    | _ => false
  | some (.inr (.inr false)) => match v with
    | (.inr (.inl (_, _))) => true
    | _ => false
noncomputable def apOk (σ : St) : List AP → List AV → Bool
  | [], [] => true
  | p :: ps, v :: vs => apOk1 σ p v && apOk σ ps vs
  | _, _ => false
noncomputable def ctrF (σ : St) (m : Nat) (av : List AV) (l : List Ctr) : Option Ctr := List.rec none (fun c _ r => cond (cond (Nat.beq c.1 m) (apOk σ c.2.1 av) false) (some c) r) l
theorem ctrF_c (σ : St) (m : Nat) (av : List AV) (c : Ctr) (l : List Ctr) : ctrF σ m av (c :: l) = if (Nat.beq c.1 m && apOk σ c.2.1 av) = true then some c else ctrF σ m av l := by
  show cond (cond (Nat.beq c.1 m) (apOk σ c.2.1 av) false) (some c) (ctrF σ m av l) = _
  cases Nat.beq c.1 m <;> cases apOk σ c.2.1 av <;> rfl
noncomputable def resO (σ : St) : Option (List AP) → List Oc
  | none => [(none, σ)]
  | some l => l.map fun p => match p with
    | some (.inl (lo, hi)) => (some (mkI σ lo hi).2, (mkI σ lo hi).1)
    | some (.inr (.inl a)) => (some (.inr (.inr (.inl (a)))), σ)
    | some (.inr (.inr true)) => (some (.inr (.inr (.inr (.inr true)))), σ)
    | some (.inr (.inr false)) => (some (tL σ).2, (tL σ).1)
    | none => (some (.inr (.inr (.inr (.inr false)))), σ)
noncomputable def pshA (v : Option AV) (st : List AV) : List AV := match v with
  | none => st
  | some v => v :: st
noncomputable def tgt (pc : Nat) (off : Int) : Option Nat := match (Int.ofNat pc + off) with
  | .ofNat t => some t
  | .negSucc _ => none
