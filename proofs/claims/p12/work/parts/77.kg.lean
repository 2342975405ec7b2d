-- ===== a going, tick by tick: the model
section
variable {X : Tok} {d : Nat} {mu m m' m1 mu' : Mu} {la la' : La} {ro ro' : Ro} {et : Nat → Option va_E} {a F n i j S : Nat} {k x y z s r sz rt lo hi p q w v pc ca cb cc cd t fl : Int32} {T T' G : Nat → Int32} {ls : List Ln} {f : Option Nat} {LS : Nat → List Ln}
-- bounds
theorem ab_b (h : -9999 ≤ s.toInt ∧ s.toInt ≤ 9999) : 0 ≤ (abF s).toInt ∧ (abF s).toInt ≤ 9999 ∧ ((abF s).toInt = s.toInt ∨ (abF s).toInt = -s.toInt) := by
  unfold abF
  have e0 : (0 : Int32).toInt = 0 := rfl
  by_cases c : 0 ≤ s
  · rw [if_pos c]
    rw [Int32.le_iff_toInt_le, e0] at c
    omega
  · rw [if_neg c]
    rw [Int32.le_iff_toInt_le, e0] at c
    have e : (0 - s).toInt = -s.toInt := by
      rw [Int32.toInt_sub, e0, Int.zero_sub]
      exact Int.bmod_eq_of_le (by omega) (by omega)
    rw [e]
    omega
theorem hd0_b (h : 0 < v.toInt) : 0 ≤ (hd0 v x).toInt ∧ (hd0 v x).toInt ≤ v.toInt := by
  unfold hd0
  have e0 : (0 : Int32).toInt = 0 := rfl
  by_cases c1 : x < v
  · rw [if_pos c1]
    rw [Int32.lt_iff_toInt_lt] at c1
    by_cases c2 : 0 < x
    · rw [if_pos c2]
      rw [Int32.lt_iff_toInt_lt, e0] at c2
      omega
    · rw [if_neg c2, e0]
      omega
  · rw [if_neg c1]
    by_cases c2 : 0 < v
    · rw [if_pos c2]
      omega
    · rw [if_neg c2, e0]
      omega
theorem tkV_b {e : Nat → Int32} (h : 0 ≤ v.toInt) : 0 ≤ (tkV e ls v).toInt ∧ (tkV e ls v).toInt ≤ v.toInt := by
  unfold tkV
  have e0 : (0 : Int32).toInt = 0 := rfl
  by_cases c : 0 < v
  · rw [if_pos c]
    rw [Int32.lt_iff_toInt_lt, e0] at c
    exact hd0_b c
  · rw [if_neg c, e0]
    omega
/-- a floor, or hundredths -/
def SitP (f : Option Nat) (pc : Int32) : Prop := match f with
  | none => ∃ c : Nat, c ≤ 99 ∧ pc = nI c
  | some _ => True
theorem SitM_P (h : SitM fl n f pc) : SitP f pc := by
  cases f with
  | none =>
    rcases h with ⟨_, h⟩ | ⟨c, h1, h2, _⟩
    · exact ⟨0, by omega, h⟩
    · exact ⟨c, h1, h2⟩
  | some F => trivial
theorem lsV_b (hp : SitP f pc) (h : 0 ≤ v.toInt ∧ v.toInt ≤ 9999) : 0 ≤ (lsV (flO LS f) pc w v s x y t).toInt ∧ (lsV (flO LS f) pc w v s x y t).toInt ≤ v.toInt := by
  cases f with
  | none =>
    obtain ⟨c, hc, rfl⟩ := hp
    exact (pc_cl hc h).2
  | some F => exact tkV_b h.1
theorem cl_b (h : lo.toInt ≤ hi.toInt) : lo.toInt ≤ (clF lo hi x).toInt ∧ (clF lo hi x).toInt ≤ hi.toInt := by
  unfold clF
  by_cases c1 : x < lo
  · rw [if_pos c1]; omega
  · rw [if_neg c1]
    rw [Int32.lt_iff_toInt_lt] at c1
    by_cases c2 : hi < x
    · rw [if_pos c2]; omega
    · rw [if_neg c2]
      rw [Int32.lt_iff_toInt_lt] at c2
      omega
theorem hr_b : 0 ≤ (hrF x).toInt ∧ (hrF x).toInt ≤ 9999 := cl_b (lo := 0) (hi := 9999) (by decide)
theorem ht_b : -9999 ≤ (htF x).toInt ∧ (htF x).toInt ≤ 9999 := cl_b (lo := -9999) (hi := 9999) (by decide)
theorem pr_b (hp : 0 ≤ p.toInt ∧ p.toInt ≤ 9999) (hc : 0 ≤ cc.toInt ∧ cc.toInt ≤ 100) : 0 ≤ (p - p * cc / 100).toInt ∧ (p - p * cc / 100).toInt ≤ 9999 := by
  obtain ⟨P, hP, rfl⟩ : ∃ P : Nat, P ≤ 9999 ∧ p = nI P := ⟨p.toInt.toNat, by omega, Int32.toInt_inj.mp (by rw [nI_toInt (by omega)]; omega)⟩
  obtain ⟨C, hC, rfl⟩ : ∃ C : Nat, C ≤ 100 ∧ cc = nI C := ⟨cc.toInt.toNat, by omega, Int32.toInt_inj.mp (by rw [nI_toInt (by omega)]; omega)⟩
  have hm : P * C ≤ P * 100 := Nat.mul_le_mul_left P hC
  have e1 : nI P * nI C = nI (P * C) := (Int32.ofNat_mul P C).symm
  have e2 : nI (P * C) / 100 = nI (P * C / 100) := by
    refine Int32.toInt_inj.mp ?_
    rw [Int32.toInt_div, nI_toInt (by omega), nI_toInt (by omega), show (100 : Int32).toInt = 100 from rfl, Int.tdiv_eq_ediv_of_nonneg (by omega), Int.bmod_eq_of_le (by omega) (by omega)]
    omega
  have le : P * C / 100 ≤ P := by
    have : P * 100 = 100 * P := Nat.mul_comm _ _
    omega
  have e3 : nI P - nI (P * C / 100) = nI (P - P * C / 100) := pk_sub le
  rw [e1, e2, e3, nI_toInt (by omega)]
  omega
theorem upd_s {g : Nat → Int32} : upd g i x i = x := by rw [upd_e, if_pos rfl]
theorem upd_n {g : Nat → Int32} (h : ¬ j = i) : upd g i x j = g j := by rw [upd_e, if_neg h]
theorem gp_bd (hc : 0 ≤ cc.toInt ∧ cc.toInt ≤ 100) (hd : 0 ≤ cd.toInt ∧ cd.toInt ≤ 100) (h : Bd T) : Bd (phT k cc cd (grT k ca cb T)) := by
  unfold phT
  by_cases c : k = 0
  · rw [if_pos c]
    have e : grT k ca cb T = T := by
      unfold grT
      rw [c, Int32.mul_zero, if_neg (by decide), if_neg (by decide)]
    rw [e]
    exact h
  · rw [if_neg c]
    have hg : (0 ≤ (grT k ca cb T 8).toInt ∧ (grT k ca cb T 8).toInt ≤ 9999) ∧ (0 ≤ (grT k ca cb T 9).toInt ∧ (grT k ca cb T 9).toInt ≤ 9999) := by
      unfold grT
      split
      · rw [upd_n (by decide), upd_s, upd_n (by decide), upd_n (by decide)]
        exact ⟨hr_b, h.2.2⟩
      · split
        · rw [upd_n (by decide), upd_n (by decide), upd_n (by decide), upd_s]
          exact ⟨h.2.1, hr_b⟩
        · exact ⟨h.2.1, h.2.2⟩
    refine ⟨?_, ?_, ?_⟩
    · rw [upd_s]
      exact ht_b
    · rw [upd_n (by decide), upd_n (by decide), upd_n (by decide), upd_s]
      exact pr_b hg.1 hc
    · rw [upd_n (by decide), upd_s]
      exact pr_b hg.2 hd
theorem nr_b (h : -9999 ≤ s.toInt ∧ s.toInt ≤ 9999) (hl : 0 ≤ x.toInt ∧ x.toInt ≤ (abF s).toInt) : -9999 ≤ (nrF s x).toInt ∧ (nrF s x).toInt ≤ 9999 := by
  have e0 : (0 : Int32).toInt = 0 := rfl
  have ha := ab_b h
  unfold nrF
  by_cases c : 0 < s
  · rw [if_pos c]
    rw [Int32.lt_iff_toInt_lt, e0] at c
    rw [Int32.toInt_sub, Int.bmod_eq_of_le (by omega) (by omega)]
    omega
  · rw [if_neg c]
    rw [Int32.lt_iff_toInt_lt, e0] at c
    rw [Int32.toInt_add, Int.bmod_eq_of_le (by omega) (by omega)]
    omega
theorem sb_r (h : 0 ≤ p.toInt ∧ p.toInt ≤ 9999) (hl : 0 ≤ x.toInt ∧ x.toInt ≤ p.toInt) : 0 ≤ (p - x).toInt ∧ (p - x).toInt ≤ 9999 := by
  rw [Int32.toInt_sub, Int.bmod_eq_of_le (by omega) (by omega)]
  omega
theorem ls_bd (hp : SitP f pc) (h : Bd T) : Bd (lsT (flO LS f) pc T) := by
  obtain ⟨h7, h8, h9⟩ := h
  have ha := ab_b h7
  unfold lsT loT
  refine ⟨?_, ?_, ?_⟩
  · rw [upd_n (by decide), upd_n (by decide), upd_n (by decide), upd_n (by decide), upd_n (by decide), upd_s]
    exact nr_b h7 (lsV_b hp ⟨ha.1, ha.2.1⟩)
  · rw [upd_n (by decide), upd_n (by decide), upd_n (by decide), upd_n (by decide), upd_s]
    exact sb_r h8 (lsV_b hp h8)
  · rw [upd_n (by decide), upd_n (by decide), upd_n (by decide), upd_s]
    exact sb_r h9 (lsV_b hp h9)
theorem bk_789 : bkT (tuT T) 7 = T 7 ∧ bkT (tuT T) 8 = T 8 ∧ bkT (tuT T) 9 = T 9 ∧ bkT (tuT T) 10 = T 10 ∧ bkT (tuT T) 13 = T 13 + T 7 ∧ bkT (tuT T) 14 = T 14 ∧ bkT (tuT T) 15 = T 15 ∧ bkT (tuT T) 16 = T 16 := by
  unfold bkT
  split
  · unfold tuT
    exact ⟨rfl, rfl, rfl, rfl, rfl, rfl, rfl, rfl⟩
  · split
    · unfold tuT
      exact ⟨rfl, rfl, rfl, rfl, rfl, rfl, rfl, rfl⟩
    · unfold tuT
      exact ⟨rfl, rfl, rfl, rfl, rfl, rfl, rfl, rfl⟩
theorem sp_bd (hc : 0 ≤ cc.toInt ∧ cc.toInt ≤ 100) (hd : 0 ≤ cd.toInt ∧ cd.toInt ≤ 100) (hp : SitP f pc) (h : Bd T) : Bd (spT k ca cb cc cd (flO LS f) pc T) := by
  have h1 : Bd (upd T 10 (T 10 + 1)) := ⟨by rw [upd_n (by decide)]; exact h.1, by rw [upd_n (by decide)]; exact h.2.1, by rw [upd_n (by decide)]; exact h.2.2⟩
  obtain ⟨b1, b2, b3⟩ := ls_bd (LS := LS) hp (gp_bd (k := k) (ca := ca) (cb := cb) hc hd h1)
  obtain ⟨e1, e2, e3, _⟩ := bk_789 (T := lsT (flO LS f) pc (phT k cc cd (grT k ca cb (upd T 10 (T 10 + 1)))))
  unfold spT
  exact ⟨by rw [e1]; exact b1, by rw [e2]; exact b2, by rw [e3]; exact b3⟩
-- what is taken
set_option maxHeartbeats 4000000 in
theorem e_takenBy (hn : n ≤ 4) (hs : SitM fl n f pc) (hA : AllM m LS n) (hv : 0 ≤ v.toInt ∧ v.toInt ≤ 9999) : ∃ m', Rr X (d + 4) MRm_takenBy 0 [.ref 81, .int fl, .int w, .int v, .int t] [] (Wd (moG m (gG T)) la ro et) = some (some (.int (lsV (flO LS f) pc w v (T 7) (T 8) (T 9) t)), Wd (moG m' (gG T)) la ro et) ∧ (∀ c j, ¬ c = 97 → ¬ c = 98 → m' c j = m c j) := by
  have z100 : ((100 : Int32) = 0) = False := eq_false (by decide)
  have e0 : (0 : Int32).toInt = 0 := rfl
  cases f with
  | none =>
    rcases hs with ⟨rfl, rfl⟩ | ⟨c, hc, rfl, rfl⟩
    · refine ⟨m, ?_, fun _ _ _ _ => rfl⟩
      have e : lsV (flO LS none) 0 w v (T 7) (T 8) (T 9) t = 0 := by
        show (v * 0 + 99) / 100 = 0
        rw [Int32.mul_zero]
        decide
      rw [e]
      simp only [r_MRm_takenBy_0, r_MRm_takenBy_1, r_MRm_takenBy_3, r_MRm_takenBy_6, r_MRm_takenBy_7, sL_0, sL_1, sL_2, mk_i, mk_r, mk_f, mk_n, mk_u, mk_l, List.set_cons_succ, List.set_cons_zero, Nat.reduceAdd, ckS_0, ckS_1, ckS_2, ckS_3, ckS_4, Option.bind_some, Option.isSome_some, psh, if_true, if_false, i10, not_true_eq_false, not_false_eq_true, Bool.false_eq_true, and_self, and_true, true_and, eq_self]
    · refine ⟨m, ?_, fun _ _ _ _ => rfl⟩
      have e1 : (-1 - nI c).toInt = -1 - (c : Int) := by
        rw [Int32.toInt_sub, nI_toInt (by omega), show (-1 : Int32).toInt = -1 from rfl]
        exact Int.bmod_eq_of_le (by omega) (by omega)
      have z1 : ¬ (-1 - nI c) = 9 := fun q => by
        have := congrArg Int32.toInt q
        rw [e1, show (9 : Int32).toInt = 9 from rfl] at this
        omega
      have z2 : ¬ 0 ≤ -1 - nI c := fun q => by
        rw [Int32.le_iff_toInt_le, e1, e0] at q
        omega
      have e2 : -1 - (-1 - nI c) = nI c := Int32.toInt_inj.mp (by
        rw [Int32.toInt_sub, e1, nI_toInt (by omega), show (-1 : Int32).toInt = -1 from rfl]
        rw [Int.bmod_eq_of_le (by omega) (by omega)]
        omega)
      have e : lsV (flO LS none) (nI c) w v (T 7) (T 8) (T 9) t = (v * nI c + 99) / 100 := rfl
      have eh := e_heldM (X := X) (d := d + 3) (m := moG m (gG T)) (la := la) (ro := ro) (et := et) (lo := 0) (hi := v) (x := (v * nI c + 99) / 100) (by rw [e0]; exact hv.1)
      rw [(pc_cl hc hv).1] at eh
      rw [e]
      simp only [r_MRm_takenBy_0, r_MRm_takenBy_1, r_MRm_takenBy_3, r_MRm_takenBy_6, r_MRm_takenBy_7, r_MRm_takenBy_8, r_MRm_takenBy_9, r_MRm_takenBy_12, r_MRm_takenBy_13, r_MRm_takenBy_14, r_MRm_takenBy_15, r_MRm_takenBy_16, r_MRm_takenBy_17, r_MRm_takenBy_19, r_MRm_takenBy_20, r_MRm_takenBy_22, r_MRm_takenBy_23, r_MRm_takenBy_24, r_MRm_takenBy_25, r_MRm_takenBy_28, sL_0, sL_1, sL_2, mk_i, mk_r, mk_f, mk_n, mk_u, mk_l, List.set_cons_succ, List.set_cons_zero, Nat.reduceAdd, ckS_0, ckS_1, ckS_2, ckS_3, ckS_4, Option.bind_some, Option.isSome_some, psh, if_true, if_false, i10, not_true_eq_false, not_false_eq_true, Bool.false_eq_true, and_self, and_true, true_and, eq_self, z1, z2, e2, z100, eh]
  | some F =>
    obtain ⟨hF, rfl⟩ := hs
    have z1 : ¬ nI F = 9 := fun q => absurd ((nI_eq (b := 9) (by omega) (by omega)).mp q) (by omega)
    have z2 : 0 ≤ nI F := nI_pos' (by omega)
    obtain ⟨g30, g31, g32, _⟩ := gG_v (T := T)
    have v30 : ∀ m, moG m (gG T) 81 30 = T 7 := fun m => (mg_v (by omega) (by omega)).trans g30
    have v31 : ∀ m, moG m (gG T) 81 31 = T 8 := fun m => (mg_v (by omega) (by omega)).trans g31
    have v32 : ∀ m, moG m (gG T) 81 32 = T 9 := fun m => (mg_v (by omega) (by omega)).trans g32
    have u97 : ∀ m j x, up2 (moG m (gG T)) 97 j x = moG (up2 m 97 j x) (gG T) := fun m j x => mg_97
    obtain ⟨m1, hm1⟩ : ∃ m1, m1 = up2 (up2 (up2 (up2 (up2 (up2 m 97 0 w) 97 1 v) 97 2 (abF (T 7))) 97 3 (T 8)) 97 4 (T 9)) 97 5 t := ⟨_, rfl⟩
    have o1 : ∀ c j, ¬ c = 97 → m1 c j = m c j := fun c j h => by rw [hm1, up2_a h, up2_a h, up2_a h, up2_a h, up2_a h, up2_a h]
    obtain ⟨q1, q2, q3, q4, q5⟩ := hA F hF
    have k92 : ∀ c j, 92 ≤ c → c ≤ 96 → moG m1 (gG T) c j = m c j := fun c j h1 h2 => by rw [mg_o (by omega)]; exact o1 _ _ (by omega)
    have l1 : lnsOk (moG m1 (gG T)) F (LS F).length 0 0 := lnsOk_e (fun j => k92 92 j (by omega) (by omega)) (fun j => k92 93 j (by omega) (by omega)) (fun j => k92 95 j (by omega) (by omega)) (fun j => k92 96 j (by omega) (by omega)) _ _ _ q2
    have f1 : FlM (moG m1 (gG T)) F (LS F) := FlM_k k92 q1
    have eg := e_gives (X := X) (d := d + 1) (mu := moG m1 (gG T)) (la := la) (ro := ro) (et := et) (P := F) (n := (LS F).length) (by omega) q5 f1.1 l1
    have eg : Rr X (d + 3) MRm_gives 0 [.ref 81, .int (nI F), mkU, mkU] [] (Wd (moG m1 (gG T)) la ro et) = _ := eg
    have ev := gv_gvL (e := enF w v (abF (T 7)) (T 8) (T 9) t) (p := F) (by omega) (LS F) 0 0 0 (moG m1 (gG T)) (fun k hk => by
      rw [mg_o (by decide), hm1]
      match k, hk with
      | 0, _ => rfl
      | 1, _ => rfl
      | 2, _ => rfl
      | 3, _ => rfl
      | 4, _ => rfl
      | 5, _ => rfl
      | k + 6, h => exact absurd h (by omega)) (by omega) q3 f1.2.1 (fun i c h => by rw [Nat.zero_add]; exact f1.2.2 i c h) l1
    rw [ev] at eg
    obtain ⟨m2, hm2⟩ : ∃ m2, m2 = (gv F (LS F).length 0 0 (moG m1 (gG T))).2 := ⟨_, rfl⟩
    have fg := frm_gv (la := la) (ro := ro) (p := F) (LS F).length 0 0 (moG m1 (gG T))
    rw [← hm2] at eg fg
    have o2 : ∀ c j, ¬ c = 98 → m2 c j = moG m1 (gG T) c j := fun c j h => fg.1 c j (by
      cases e : wIn [(98, 0)] c 0 with
      | false => rfl
      | true =>
        have := wIn_mem.mp e
        simp only [List.mem_cons, Prod.mk.injEq, List.not_mem_nil, or_false] at this
        omega) (by
      cases e : wIn [(98, 0)] c (j + 1) with
      | false => rfl
      | true =>
        have := wIn_mem.mp e
        simp only [List.mem_cons, Prod.mk.injEq, List.not_mem_nil, or_false] at this
        omega)
    have e2 : m2 = moG (fun c j => if c = 98 then m2 c j else m1 c j) (gG T) := by
      refine funext fun c => funext fun j => ?_
      unfold moG
      dsimp only
      by_cases h : c = 98
      · rw [if_neg (by omega), if_pos h]
      · rw [o2 c j h, if_neg h]
        rfl
    have eh := e_heldM (X := X) (d := d + 3) (m := m2) (la := la) (ro := ro) (et := et) (lo := 0) (hi := v) (x := gvL (enF w v (abF (T 7)) (T 8) (T 9) t) (LS F)) (by rw [e0]; exact hv.1)
    rw [hd_cl hv.1] at eh
    have e : lsV (flO LS (some F)) pc w v (T 7) (T 8) (T 9) t = if 0 < v then hd0 v (gvL (enF w v (abF (T 7)) (T 8) (T 9) t) (LS F)) else 0 := rfl
    have c0 : (0 : Int32).toNatClampNeg = 0 := by decide
    have c1 : (1 : Int32).toNatClampNeg = 1 := by decide
    have c2 : (2 : Int32).toNatClampNeg = 2 := by decide
    have c3 : (3 : Int32).toNatClampNeg = 3 := by decide
    have c4 : (4 : Int32).toNatClampNeg = 4 := by decide
    have c5 : (5 : Int32).toNatClampNeg = 5 := by decide
    have i0 : ((0 : Int32) < 0 ∨ 6 ≤ 0) = False := eq_false (by decide)
    have i1 : ((1 : Int32) < 0 ∨ 6 ≤ 1) = False := eq_false (by decide)
    have i2 : ((2 : Int32) < 0 ∨ 6 ≤ 2) = False := eq_false (by decide)
    have i3 : ((3 : Int32) < 0 ∨ 6 ≤ 3) = False := eq_false (by decide)
    have i4 : ((4 : Int32) < 0 ∨ 6 ≤ 4) = False := eq_false (by decide)
    have i5 : ((5 : Int32) < 0 ∨ 6 ≤ 5) = False := eq_false (by decide)
    rw [e]
    refine ⟨fun c j => if c = 98 then m2 c j else m1 c j, ?_, fun c j h1 h2 => by dsimp only; rw [if_neg h2]; exact o1 c j h1⟩
    rw [← e2]
    simp only [r_MRm_takenBy_0, r_MRm_takenBy_1, r_MRm_takenBy_3, r_MRm_takenBy_6, r_MRm_takenBy_7, r_MRm_takenBy_8, r_MRm_takenBy_9, r_MRm_takenBy_12, r_MRm_takenBy_13, r_MRm_takenBy_14, r_MRm_takenBy_15, r_MRm_takenBy_16, r_MRm_takenBy_17, r_MRm_takenBy_19, r_MRm_takenBy_20, r_MRm_takenBy_22, r_MRm_takenBy_23, r_MRm_takenBy_24, r_MRm_takenBy_25, r_MRm_takenBy_28, r_MRm_takenBy_29, r_MRm_takenBy_30, r_MRm_takenBy_33, r_MRm_takenBy_34, r_MRm_takenBy_35, r_MRm_takenBy_36, r_MRm_takenBy_37, r_MRm_takenBy_40, r_MRm_takenBy_41, r_MRm_takenBy_42, r_MRm_takenBy_43, r_MRm_takenBy_44, r_MRm_takenBy_47, r_MRm_takenBy_48, r_MRm_takenBy_49, r_MRm_takenBy_52, r_MRm_takenBy_55, r_MRm_takenBy_56, r_MRm_takenBy_57, r_MRm_takenBy_60, r_MRm_takenBy_61, r_MRm_takenBy_62, r_MRm_takenBy_65, r_MRm_takenBy_66, r_MRm_takenBy_67, r_MRm_takenBy_70, r_MRm_takenBy_71, r_MRm_takenBy_72, r_MRm_takenBy_75, r_MRm_takenBy_76, r_MRm_takenBy_77, r_MRm_takenBy_80, r_MRm_takenBy_81, r_MRm_takenBy_83, r_MRm_takenBy_84, r_MRm_takenBy_85, r_MRm_takenBy_86, r_MRm_takenBy_89, r_MRm_takenBy_90, r_MRm_takenBy_91, r_MRm_takenBy_94, sL_0, sL_1, sL_2, mk_i, mk_r, mk_f, mk_n, mk_u, mk_l, List.set_cons_succ, List.set_cons_zero, Nat.reduceAdd, ckS_0, ckS_1, ckS_2, ckS_3, ckS_4, Option.bind_some, Option.isSome_some, psh, if_true, if_false, i10, not_true_eq_false, not_false_eq_true, Bool.false_eq_true, and_self, and_true, true_and, eq_self, qI_81_0, qI_81_2, qI_81_3, qI_81_9, qI_81_10, qI_81_11, qI_81_12, qI_81_13, qI_81_18, qI_81_19, qI_81_20, qI_81_21, qI_81_29, qI_81_30, qI_81_31, qI_81_32, qI_81_33, qI_81_34, qI_81_35, qI_81_39, qI_81_40, qI_81_41, qI_81_42, qI_81_43, qI_81_44, qI_81_45, qI_81_46, qI_81_47, qI_81_51, qI_81_53, qR_81_1, qRd_81_1, qR_81_4, qRd_81_4, qR_81_5, qRd_81_5, qR_81_6, qRd_81_6, qR_81_7, qRd_81_7, qR_81_8, qRd_81_8, qR_81_14, qRd_81_14, qR_81_15, qRd_81_15, qR_81_16, qRd_81_16, qR_81_17, qRd_81_17, qR_81_22, qRd_81_22, qR_81_23, qRd_81_23, qR_81_24, qRd_81_24, qR_81_25, qRd_81_25, qR_81_26, qRd_81_26, qR_81_27, qRd_81_27, qR_81_28, qRd_81_28, qR_81_36, qRd_81_36, qR_81_37, qRd_81_37, qR_81_38, qRd_81_38, qR_81_48, qRd_81_48, qR_81_49, qRd_81_49, qR_81_50, qRd_81_50, qR_81_52, qRd_81_52, qR_81_54, qRd_81_54, qR_81_55, qRd_81_55, qR_81_56, qRd_81_56, qR_81_57, qRd_81_57, qR_81_58, qRd_81_58, qA_97, qAd_97, qO_81, qL_97, qLd_97, z1, z2, c0, c1, c2, c3, c4, c5, i0, i1, i2, i3, i4, i5, u97, v30, v31, v32, sz_M, ← hm1, eg, eh]
-- go: the rattle grows
theorem i32_64 (x : Int32) : x.toInt64.toInt32 = x := Int32.toInt32_toInt64 x
theorem ab_pos (h : 0 < x) : abF x = x := by
  unfold abF
  rw [if_pos (Int32.le_of_lt h)]
theorem ab_neg (h : x < 0) : abF x = -x := by
  unfold abF
  rw [if_neg (Int32.not_le.mpr h), Int32.zero_sub]
theorem gn_1 (c : (abF s).toInt64 ≤ gnL r sz rt) : gnF s r sz rt = abF s := by
  unfold gnF
  rw [if_neg (Int64.not_lt.mpr c), i32_64]
theorem gn_2 (c : ¬ (abF s).toInt64 ≤ gnL r sz rt) : gnF s r sz rt = (gnL r sz rt).toInt32 := by
  unfold gnF
  rw [if_pos (Int64.not_le.mp c)]
theorem nr_1 (c : 0 < s) : s + -x = nrF s x := by
  unfold nrF
  rw [if_pos c, Int32.sub_eq_add_neg]
theorem nr_2 (c : ¬ 0 < s) : s + x = nrF s x := by
  unfold nrF
  rw [if_neg c]
set_option maxHeartbeats 8000000 in
theorem go_1 (hS : S < 6) (h0 : m 87 (4 * S) = ca) (h1 : m 87 (4 * S + 1) = cb) : ∃ (x5 x6 : Int32) (l7 l8 l9 : Value), Rr X (d + 5) MRm_go 0 [.ref 81, .int (nI S), .int k, .int fl, .int t, mkU, mkU, mkU, mkU, mkU] [] (Wd (moG m (gG T)) la ro et) = Rr X (d + 5) MRm_go 222 [.ref 81, .int (nI S), .int k, .int fl, .int t, .int x5, .int x6, l7, l8, l9] [] (Wd (moG m (gG (grT k ca cb T))) la ro et) := by
  obtain ⟨g30, g31, g32, g33, g34, g35⟩ := gG_v (T := T)
  have v30 : ∀ T, moG m (gG T) 81 30 = T 7 := fun T => mg_v (by omega) (by omega)
  have v31 : ∀ T, moG m (gG T) 81 31 = T 8 := fun T => mg_v (by omega) (by omega)
  have v32 : ∀ T, moG m (gG T) 81 32 = T 9 := fun T => mg_v (by omega) (by omega)
  have u30 : ∀ T x, up2 (moG m (gG T)) 81 30 x = moG m (gG (upd T 7 x)) := fun T x => mg_up (by omega)
  have u31 : ∀ T x, up2 (moG m (gG T)) 81 31 x = moG m (gG (upd T 8 x)) := fun T x => mg_up (by omega)
  have u32 : ∀ T x, up2 (moG m (gG T)) 81 32 x = moG m (gG (upd T 9 x)) := fun T x => mg_up (by omega)
  have n87 : ∀ T j, moG m (gG T) 87 j = m 87 j := fun T j => mg_o (by decide)
  have e40 : (4 : Int32) * nI S = nI (4 * S) := (Int32.ofNat_mul 4 S).symm
  have e41 : nI (4 * S) + 1 = nI (4 * S + 1) := nI_add (4 * S) 1
  have c0 : (nI (4 * S)).toNatClampNeg = 4 * S := nI_clamp (by omega)
  have c1 : (nI (4 * S + 1)).toNatClampNeg = 4 * S + 1 := nI_clamp (by omega)
  have i0 := ix (j := 4 * S) (N := 28) (by omega) (by decide)
  have i1 := ix (j := 4 * S + 1) (N := 28) (by omega) (by decide)
  have z : ((1000000 : Int64) = 0) = False := eq_false (by decide)
  have a7 : ∀ x, upd T 8 x 7 = T 7 := fun x => upd_n (by decide)
  have b7 : ∀ x, upd T 9 x 7 = T 7 := fun x => upd_n (by decide)
  have hh : ∀ m x, Rr X (d + 4) MRm_held 0 [.int x, .int 0, .int 9999] [] (Wd m la ro et) = some (some (.int (hrF x)), Wd m la ro et) := fun m x => e_heldM (by decide)
  have eg : ∀ r sz rt, r.toInt64 * sz.toInt64 * rt.toInt64 / 1000000 = gnL r sz rt := fun r sz rt => rfl
  have lc : ∀ x y, (0 ≤ lg_cmp x y) = (y ≤ x) := fun x y => propext (lg_cmp_ge x y)
  unfold grT
  by_cases c : 0 < T 7 * k
  · have c' : ¬ T 7 * k ≤ 0 := Int32.not_le.mpr c
    have ea := ab_pos c
    rw [if_pos c]
    by_cases cl : (abF (T 7)).toInt64 ≤ gnL (T 8) (T 7 * k) ca
    · have e9 := gn_1 cl
      by_cases cs : 0 < T 7
      · have cs' : ¬ T 7 ≤ 0 := Int32.not_le.mpr cs
        have e8 := nr_1 (x := abF (T 7)) cs
        refine ⟨T 7 * k, T 7 * k, .long (gnL (T 8) (T 7 * k) ca), mkU, .int (abF (T 7)), ?_⟩
        · rw [e9]
          simp only [r_MRm_go_0, r_MRm_go_1, r_MRm_go_4, r_MRm_go_5, r_MRm_go_6, r_MRm_go_8, r_MRm_go_10, r_MRm_go_13, r_MRm_go_15, r_MRm_go_17, r_MRm_go_20, r_MRm_go_21, r_MRm_go_24, r_MRm_go_25, r_MRm_go_27, r_MRm_go_28, r_MRm_go_29, r_MRm_go_30, r_MRm_go_33, r_MRm_go_34, r_MRm_go_35, r_MRm_go_36, r_MRm_go_37, r_MRm_go_38, r_MRm_go_39, r_MRm_go_42, r_MRm_go_43, r_MRm_go_45, r_MRm_go_47, r_MRm_go_48, r_MRm_go_51, r_MRm_go_54, r_MRm_go_55, r_MRm_go_56, r_MRm_go_59, r_MRm_go_61, r_MRm_go_62, r_MRm_go_65, r_MRm_go_66, r_MRm_go_69, r_MRm_go_72, r_MRm_go_74, r_MRm_go_75, r_MRm_go_76, r_MRm_go_79, r_MRm_go_81, r_MRm_go_82, r_MRm_go_83, r_MRm_go_86, r_MRm_go_89, r_MRm_go_92, r_MRm_go_93, r_MRm_go_93i, r_MRm_go_94, r_MRm_go_97, r_MRm_go_98, r_MRm_go_101, r_MRm_go_104, r_MRm_go_106, r_MRm_go_107, r_MRm_go_110, r_MRm_go_112, r_MRm_go_113, r_MRm_go_116, sL_0, sL_1, sL_2, mk_i, mk_r, mk_f, mk_n, mk_u, mk_l, List.set_cons_succ, List.set_cons_zero, Nat.reduceAdd, ckS_0, ckS_1, ckS_2, ckS_3, ckS_4, Option.bind_some, Option.isSome_some, psh, if_true, if_false, i10, not_true_eq_false, not_false_eq_true, Bool.false_eq_true, and_self, and_true, true_and, eq_self, qI_81_0, qI_81_2, qI_81_3, qI_81_9, qI_81_10, qI_81_11, qI_81_12, qI_81_13, qI_81_18, qI_81_19, qI_81_20, qI_81_21, qI_81_29, qI_81_30, qI_81_31, qI_81_32, qI_81_33, qI_81_34, qI_81_35, qI_81_39, qI_81_40, qI_81_41, qI_81_42, qI_81_43, qI_81_44, qI_81_45, qI_81_46, qI_81_47, qI_81_51, qI_81_53, qR_81_1, qRd_81_1, qR_81_4, qRd_81_4, qR_81_5, qRd_81_5, qR_81_6, qRd_81_6, qR_81_7, qRd_81_7, qR_81_8, qRd_81_8, qR_81_14, qRd_81_14, qR_81_15, qRd_81_15, qR_81_16, qRd_81_16, qR_81_17, qRd_81_17, qR_81_22, qRd_81_22, qR_81_23, qRd_81_23, qR_81_24, qRd_81_24, qR_81_25, qRd_81_25, qR_81_26, qRd_81_26, qR_81_27, qRd_81_27, qR_81_28, qRd_81_28, qR_81_36, qRd_81_36, qR_81_37, qRd_81_37, qR_81_38, qRd_81_38, qR_81_48, qRd_81_48, qR_81_49, qRd_81_49, qR_81_50, qRd_81_50, qR_81_52, qRd_81_52, qR_81_54, qRd_81_54, qR_81_55, qRd_81_55, qR_81_56, qRd_81_56, qR_81_57, qRd_81_57, qR_81_58, qRd_81_58, qA_87, qAd_87, qO_81, qL_87, qLd_87, v30, v31, sz_M, c', ea, n87, e40, c0, i0, h0, z, eg, lc, cl, hh, u31, a7, cs', e8, u30]
      · have cs' : T 7 ≤ 0 := Int32.not_lt.mp cs
        have e8 := nr_2 (x := abF (T 7)) cs
        refine ⟨T 7 * k, T 7 * k, .long (gnL (T 8) (T 7 * k) ca), mkU, .int (abF (T 7)), ?_⟩
        · rw [e9]
          simp only [r_MRm_go_0, r_MRm_go_1, r_MRm_go_4, r_MRm_go_5, r_MRm_go_6, r_MRm_go_8, r_MRm_go_10, r_MRm_go_13, r_MRm_go_15, r_MRm_go_17, r_MRm_go_20, r_MRm_go_21, r_MRm_go_24, r_MRm_go_25, r_MRm_go_27, r_MRm_go_28, r_MRm_go_29, r_MRm_go_30, r_MRm_go_33, r_MRm_go_34, r_MRm_go_35, r_MRm_go_36, r_MRm_go_37, r_MRm_go_38, r_MRm_go_39, r_MRm_go_42, r_MRm_go_43, r_MRm_go_45, r_MRm_go_47, r_MRm_go_48, r_MRm_go_51, r_MRm_go_54, r_MRm_go_55, r_MRm_go_56, r_MRm_go_59, r_MRm_go_61, r_MRm_go_62, r_MRm_go_65, r_MRm_go_66, r_MRm_go_69, r_MRm_go_72, r_MRm_go_74, r_MRm_go_75, r_MRm_go_76, r_MRm_go_79, r_MRm_go_81, r_MRm_go_82, r_MRm_go_83, r_MRm_go_86, r_MRm_go_89, r_MRm_go_92, r_MRm_go_93, r_MRm_go_93i, r_MRm_go_94, r_MRm_go_97, r_MRm_go_98, r_MRm_go_101, r_MRm_go_104, r_MRm_go_106, r_MRm_go_107, r_MRm_go_110, r_MRm_go_112, r_MRm_go_113, r_MRm_go_116, sL_0, sL_1, sL_2, mk_i, mk_r, mk_f, mk_n, mk_u, mk_l, List.set_cons_succ, List.set_cons_zero, Nat.reduceAdd, ckS_0, ckS_1, ckS_2, ckS_3, ckS_4, Option.bind_some, Option.isSome_some, psh, if_true, if_false, i10, not_true_eq_false, not_false_eq_true, Bool.false_eq_true, and_self, and_true, true_and, eq_self, qI_81_0, qI_81_2, qI_81_3, qI_81_9, qI_81_10, qI_81_11, qI_81_12, qI_81_13, qI_81_18, qI_81_19, qI_81_20, qI_81_21, qI_81_29, qI_81_30, qI_81_31, qI_81_32, qI_81_33, qI_81_34, qI_81_35, qI_81_39, qI_81_40, qI_81_41, qI_81_42, qI_81_43, qI_81_44, qI_81_45, qI_81_46, qI_81_47, qI_81_51, qI_81_53, qR_81_1, qRd_81_1, qR_81_4, qRd_81_4, qR_81_5, qRd_81_5, qR_81_6, qRd_81_6, qR_81_7, qRd_81_7, qR_81_8, qRd_81_8, qR_81_14, qRd_81_14, qR_81_15, qRd_81_15, qR_81_16, qRd_81_16, qR_81_17, qRd_81_17, qR_81_22, qRd_81_22, qR_81_23, qRd_81_23, qR_81_24, qRd_81_24, qR_81_25, qRd_81_25, qR_81_26, qRd_81_26, qR_81_27, qRd_81_27, qR_81_28, qRd_81_28, qR_81_36, qRd_81_36, qR_81_37, qRd_81_37, qR_81_38, qRd_81_38, qR_81_48, qRd_81_48, qR_81_49, qRd_81_49, qR_81_50, qRd_81_50, qR_81_52, qRd_81_52, qR_81_54, qRd_81_54, qR_81_55, qRd_81_55, qR_81_56, qRd_81_56, qR_81_57, qRd_81_57, qR_81_58, qRd_81_58, qA_87, qAd_87, qO_81, qL_87, qLd_87, v30, v31, sz_M, c', ea, n87, e40, c0, i0, h0, z, eg, lc, cl, hh, u31, a7, cs', e8, u30]
    · have e9 := gn_2 cl
      by_cases cs : 0 < T 7
      · have cs' : ¬ T 7 ≤ 0 := Int32.not_le.mpr cs
        have e8 := nr_1 (x := (gnL (T 8) (T 7 * k) ca).toInt32) cs
        refine ⟨T 7 * k, T 7 * k, .long (gnL (T 8) (T 7 * k) ca), mkU, .int ((gnL (T 8) (T 7 * k) ca).toInt32), ?_⟩
        · rw [e9]
          simp only [r_MRm_go_0, r_MRm_go_1, r_MRm_go_4, r_MRm_go_5, r_MRm_go_6, r_MRm_go_8, r_MRm_go_10, r_MRm_go_13, r_MRm_go_15, r_MRm_go_17, r_MRm_go_20, r_MRm_go_21, r_MRm_go_24, r_MRm_go_25, r_MRm_go_27, r_MRm_go_28, r_MRm_go_29, r_MRm_go_30, r_MRm_go_33, r_MRm_go_34, r_MRm_go_35, r_MRm_go_36, r_MRm_go_37, r_MRm_go_38, r_MRm_go_39, r_MRm_go_42, r_MRm_go_43, r_MRm_go_45, r_MRm_go_47, r_MRm_go_48, r_MRm_go_51, r_MRm_go_54, r_MRm_go_55, r_MRm_go_56, r_MRm_go_59, r_MRm_go_61, r_MRm_go_62, r_MRm_go_65, r_MRm_go_66, r_MRm_go_69, r_MRm_go_72, r_MRm_go_74, r_MRm_go_75, r_MRm_go_76, r_MRm_go_79, r_MRm_go_81, r_MRm_go_82, r_MRm_go_83, r_MRm_go_86, r_MRm_go_89, r_MRm_go_92, r_MRm_go_93, r_MRm_go_93i, r_MRm_go_94, r_MRm_go_97, r_MRm_go_98, r_MRm_go_101, r_MRm_go_104, r_MRm_go_106, r_MRm_go_107, r_MRm_go_110, r_MRm_go_112, r_MRm_go_113, r_MRm_go_116, sL_0, sL_1, sL_2, mk_i, mk_r, mk_f, mk_n, mk_u, mk_l, List.set_cons_succ, List.set_cons_zero, Nat.reduceAdd, ckS_0, ckS_1, ckS_2, ckS_3, ckS_4, Option.bind_some, Option.isSome_some, psh, if_true, if_false, i10, not_true_eq_false, not_false_eq_true, Bool.false_eq_true, and_self, and_true, true_and, eq_self, qI_81_0, qI_81_2, qI_81_3, qI_81_9, qI_81_10, qI_81_11, qI_81_12, qI_81_13, qI_81_18, qI_81_19, qI_81_20, qI_81_21, qI_81_29, qI_81_30, qI_81_31, qI_81_32, qI_81_33, qI_81_34, qI_81_35, qI_81_39, qI_81_40, qI_81_41, qI_81_42, qI_81_43, qI_81_44, qI_81_45, qI_81_46, qI_81_47, qI_81_51, qI_81_53, qR_81_1, qRd_81_1, qR_81_4, qRd_81_4, qR_81_5, qRd_81_5, qR_81_6, qRd_81_6, qR_81_7, qRd_81_7, qR_81_8, qRd_81_8, qR_81_14, qRd_81_14, qR_81_15, qRd_81_15, qR_81_16, qRd_81_16, qR_81_17, qRd_81_17, qR_81_22, qRd_81_22, qR_81_23, qRd_81_23, qR_81_24, qRd_81_24, qR_81_25, qRd_81_25, qR_81_26, qRd_81_26, qR_81_27, qRd_81_27, qR_81_28, qRd_81_28, qR_81_36, qRd_81_36, qR_81_37, qRd_81_37, qR_81_38, qRd_81_38, qR_81_48, qRd_81_48, qR_81_49, qRd_81_49, qR_81_50, qRd_81_50, qR_81_52, qRd_81_52, qR_81_54, qRd_81_54, qR_81_55, qRd_81_55, qR_81_56, qRd_81_56, qR_81_57, qRd_81_57, qR_81_58, qRd_81_58, qA_87, qAd_87, qO_81, qL_87, qLd_87, v30, v31, sz_M, c', ea, n87, e40, c0, i0, h0, z, eg, lc, cl, hh, u31, a7, cs', e8, u30]
      · have cs' : T 7 ≤ 0 := Int32.not_lt.mp cs
        have e8 := nr_2 (x := (gnL (T 8) (T 7 * k) ca).toInt32) cs
        refine ⟨T 7 * k, T 7 * k, .long (gnL (T 8) (T 7 * k) ca), mkU, .int ((gnL (T 8) (T 7 * k) ca).toInt32), ?_⟩
        · rw [e9]
          simp only [r_MRm_go_0, r_MRm_go_1, r_MRm_go_4, r_MRm_go_5, r_MRm_go_6, r_MRm_go_8, r_MRm_go_10, r_MRm_go_13, r_MRm_go_15, r_MRm_go_17, r_MRm_go_20, r_MRm_go_21, r_MRm_go_24, r_MRm_go_25, r_MRm_go_27, r_MRm_go_28, r_MRm_go_29, r_MRm_go_30, r_MRm_go_33, r_MRm_go_34, r_MRm_go_35, r_MRm_go_36, r_MRm_go_37, r_MRm_go_38, r_MRm_go_39, r_MRm_go_42, r_MRm_go_43, r_MRm_go_45, r_MRm_go_47, r_MRm_go_48, r_MRm_go_51, r_MRm_go_54, r_MRm_go_55, r_MRm_go_56, r_MRm_go_59, r_MRm_go_61, r_MRm_go_62, r_MRm_go_65, r_MRm_go_66, r_MRm_go_69, r_MRm_go_72, r_MRm_go_74, r_MRm_go_75, r_MRm_go_76, r_MRm_go_79, r_MRm_go_81, r_MRm_go_82, r_MRm_go_83, r_MRm_go_86, r_MRm_go_89, r_MRm_go_92, r_MRm_go_93, r_MRm_go_93i, r_MRm_go_94, r_MRm_go_97, r_MRm_go_98, r_MRm_go_101, r_MRm_go_104, r_MRm_go_106, r_MRm_go_107, r_MRm_go_110, r_MRm_go_112, r_MRm_go_113, r_MRm_go_116, sL_0, sL_1, sL_2, mk_i, mk_r, mk_f, mk_n, mk_u, mk_l, List.set_cons_succ, List.set_cons_zero, Nat.reduceAdd, ckS_0, ckS_1, ckS_2, ckS_3, ckS_4, Option.bind_some, Option.isSome_some, psh, if_true, if_false, i10, not_true_eq_false, not_false_eq_true, Bool.false_eq_true, and_self, and_true, true_and, eq_self, qI_81_0, qI_81_2, qI_81_3, qI_81_9, qI_81_10, qI_81_11, qI_81_12, qI_81_13, qI_81_18, qI_81_19, qI_81_20, qI_81_21, qI_81_29, qI_81_30, qI_81_31, qI_81_32, qI_81_33, qI_81_34, qI_81_35, qI_81_39, qI_81_40, qI_81_41, qI_81_42, qI_81_43, qI_81_44, qI_81_45, qI_81_46, qI_81_47, qI_81_51, qI_81_53, qR_81_1, qRd_81_1, qR_81_4, qRd_81_4, qR_81_5, qRd_81_5, qR_81_6, qRd_81_6, qR_81_7, qRd_81_7, qR_81_8, qRd_81_8, qR_81_14, qRd_81_14, qR_81_15, qRd_81_15, qR_81_16, qRd_81_16, qR_81_17, qRd_81_17, qR_81_22, qRd_81_22, qR_81_23, qRd_81_23, qR_81_24, qRd_81_24, qR_81_25, qRd_81_25, qR_81_26, qRd_81_26, qR_81_27, qRd_81_27, qR_81_28, qRd_81_28, qR_81_36, qRd_81_36, qR_81_37, qRd_81_37, qR_81_38, qRd_81_38, qR_81_48, qRd_81_48, qR_81_49, qRd_81_49, qR_81_50, qRd_81_50, qR_81_52, qRd_81_52, qR_81_54, qRd_81_54, qR_81_55, qRd_81_55, qR_81_56, qRd_81_56, qR_81_57, qRd_81_57, qR_81_58, qRd_81_58, qA_87, qAd_87, qO_81, qL_87, qLd_87, v30, v31, sz_M, c', ea, n87, e40, c0, i0, h0, z, eg, lc, cl, hh, u31, a7, cs', e8, u30]
  · have c' : T 7 * k ≤ 0 := Int32.not_lt.mp c
    rw [if_neg c]
    by_cases c2 : T 7 * k < 0
    · have c2' : ¬ 0 ≤ T 7 * k := Int32.not_le.mpr c2
      have ea := ab_neg c2
      rw [if_pos c2]
      by_cases cl : (abF (T 7)).toInt64 ≤ gnL (T 9) (-(T 7 * k)) cb
      · have e9 := gn_1 cl
        by_cases cs : 0 < T 7
        · have cs' : ¬ T 7 ≤ 0 := Int32.not_le.mpr cs
          have e8 := nr_1 (x := abF (T 7)) cs
          refine ⟨T 7 * k, -(T 7 * k), .long (gnL (T 9) (-(T 7 * k)) cb), mkU, .int (abF (T 7)), ?_⟩
          · rw [e9]
            simp only [r_MRm_go_0, r_MRm_go_1, r_MRm_go_4, r_MRm_go_5, r_MRm_go_6, r_MRm_go_8, r_MRm_go_10, r_MRm_go_13, r_MRm_go_15, r_MRm_go_17, r_MRm_go_119, r_MRm_go_121, r_MRm_go_124, r_MRm_go_125, r_MRm_go_128, r_MRm_go_129, r_MRm_go_131, r_MRm_go_132, r_MRm_go_133, r_MRm_go_134, r_MRm_go_137, r_MRm_go_138, r_MRm_go_139, r_MRm_go_140, r_MRm_go_141, r_MRm_go_142, r_MRm_go_143, r_MRm_go_144, r_MRm_go_145, r_MRm_go_148, r_MRm_go_149, r_MRm_go_151, r_MRm_go_153, r_MRm_go_154, r_MRm_go_157, r_MRm_go_160, r_MRm_go_161, r_MRm_go_162, r_MRm_go_165, r_MRm_go_167, r_MRm_go_168, r_MRm_go_171, r_MRm_go_172, r_MRm_go_175, r_MRm_go_178, r_MRm_go_180, r_MRm_go_181, r_MRm_go_182, r_MRm_go_185, r_MRm_go_187, r_MRm_go_188, r_MRm_go_189, r_MRm_go_192, r_MRm_go_195, r_MRm_go_198, r_MRm_go_199, r_MRm_go_199i, r_MRm_go_200, r_MRm_go_203, r_MRm_go_204, r_MRm_go_207, r_MRm_go_210, r_MRm_go_212, r_MRm_go_213, r_MRm_go_216, r_MRm_go_218, r_MRm_go_219, sL_0, sL_1, sL_2, mk_i, mk_r, mk_f, mk_n, mk_u, mk_l, List.set_cons_succ, List.set_cons_zero, Nat.reduceAdd, ckS_0, ckS_1, ckS_2, ckS_3, ckS_4, Option.bind_some, Option.isSome_some, psh, if_true, if_false, i10, not_true_eq_false, not_false_eq_true, Bool.false_eq_true, and_self, and_true, true_and, eq_self, qI_81_0, qI_81_2, qI_81_3, qI_81_9, qI_81_10, qI_81_11, qI_81_12, qI_81_13, qI_81_18, qI_81_19, qI_81_20, qI_81_21, qI_81_29, qI_81_30, qI_81_31, qI_81_32, qI_81_33, qI_81_34, qI_81_35, qI_81_39, qI_81_40, qI_81_41, qI_81_42, qI_81_43, qI_81_44, qI_81_45, qI_81_46, qI_81_47, qI_81_51, qI_81_53, qR_81_1, qRd_81_1, qR_81_4, qRd_81_4, qR_81_5, qRd_81_5, qR_81_6, qRd_81_6, qR_81_7, qRd_81_7, qR_81_8, qRd_81_8, qR_81_14, qRd_81_14, qR_81_15, qRd_81_15, qR_81_16, qRd_81_16, qR_81_17, qRd_81_17, qR_81_22, qRd_81_22, qR_81_23, qRd_81_23, qR_81_24, qRd_81_24, qR_81_25, qRd_81_25, qR_81_26, qRd_81_26, qR_81_27, qRd_81_27, qR_81_28, qRd_81_28, qR_81_36, qRd_81_36, qR_81_37, qRd_81_37, qR_81_38, qRd_81_38, qR_81_48, qRd_81_48, qR_81_49, qRd_81_49, qR_81_50, qRd_81_50, qR_81_52, qRd_81_52, qR_81_54, qRd_81_54, qR_81_55, qRd_81_55, qR_81_56, qRd_81_56, qR_81_57, qRd_81_57, qR_81_58, qRd_81_58, qA_87, qAd_87, qO_81, qL_87, qLd_87, v30, v32, sz_M, c', c2', ea, n87, e40, e41, c1, i1, h1, z, eg, lc, cl, hh, u32, b7, cs', e8, u30]
        · have cs' : T 7 ≤ 0 := Int32.not_lt.mp cs
          have e8 := nr_2 (x := abF (T 7)) cs
          refine ⟨T 7 * k, -(T 7 * k), .long (gnL (T 9) (-(T 7 * k)) cb), mkU, .int (abF (T 7)), ?_⟩
          · rw [e9]
            simp only [r_MRm_go_0, r_MRm_go_1, r_MRm_go_4, r_MRm_go_5, r_MRm_go_6, r_MRm_go_8, r_MRm_go_10, r_MRm_go_13, r_MRm_go_15, r_MRm_go_17, r_MRm_go_119, r_MRm_go_121, r_MRm_go_124, r_MRm_go_125, r_MRm_go_128, r_MRm_go_129, r_MRm_go_131, r_MRm_go_132, r_MRm_go_133, r_MRm_go_134, r_MRm_go_137, r_MRm_go_138, r_MRm_go_139, r_MRm_go_140, r_MRm_go_141, r_MRm_go_142, r_MRm_go_143, r_MRm_go_144, r_MRm_go_145, r_MRm_go_148, r_MRm_go_149, r_MRm_go_151, r_MRm_go_153, r_MRm_go_154, r_MRm_go_157, r_MRm_go_160, r_MRm_go_161, r_MRm_go_162, r_MRm_go_165, r_MRm_go_167, r_MRm_go_168, r_MRm_go_171, r_MRm_go_172, r_MRm_go_175, r_MRm_go_178, r_MRm_go_180, r_MRm_go_181, r_MRm_go_182, r_MRm_go_185, r_MRm_go_187, r_MRm_go_188, r_MRm_go_189, r_MRm_go_192, r_MRm_go_195, r_MRm_go_198, r_MRm_go_199, r_MRm_go_199i, r_MRm_go_200, r_MRm_go_203, r_MRm_go_204, r_MRm_go_207, r_MRm_go_210, r_MRm_go_212, r_MRm_go_213, r_MRm_go_216, r_MRm_go_218, r_MRm_go_219, sL_0, sL_1, sL_2, mk_i, mk_r, mk_f, mk_n, mk_u, mk_l, List.set_cons_succ, List.set_cons_zero, Nat.reduceAdd, ckS_0, ckS_1, ckS_2, ckS_3, ckS_4, Option.bind_some, Option.isSome_some, psh, if_true, if_false, i10, not_true_eq_false, not_false_eq_true, Bool.false_eq_true, and_self, and_true, true_and, eq_self, qI_81_0, qI_81_2, qI_81_3, qI_81_9, qI_81_10, qI_81_11, qI_81_12, qI_81_13, qI_81_18, qI_81_19, qI_81_20, qI_81_21, qI_81_29, qI_81_30, qI_81_31, qI_81_32, qI_81_33, qI_81_34, qI_81_35, qI_81_39, qI_81_40, qI_81_41, qI_81_42, qI_81_43, qI_81_44, qI_81_45, qI_81_46, qI_81_47, qI_81_51, qI_81_53, qR_81_1, qRd_81_1, qR_81_4, qRd_81_4, qR_81_5, qRd_81_5, qR_81_6, qRd_81_6, qR_81_7, qRd_81_7, qR_81_8, qRd_81_8, qR_81_14, qRd_81_14, qR_81_15, qRd_81_15, qR_81_16, qRd_81_16, qR_81_17, qRd_81_17, qR_81_22, qRd_81_22, qR_81_23, qRd_81_23, qR_81_24, qRd_81_24, qR_81_25, qRd_81_25, qR_81_26, qRd_81_26, qR_81_27, qRd_81_27, qR_81_28, qRd_81_28, qR_81_36, qRd_81_36, qR_81_37, qRd_81_37, qR_81_38, qRd_81_38, qR_81_48, qRd_81_48, qR_81_49, qRd_81_49, qR_81_50, qRd_81_50, qR_81_52, qRd_81_52, qR_81_54, qRd_81_54, qR_81_55, qRd_81_55, qR_81_56, qRd_81_56, qR_81_57, qRd_81_57, qR_81_58, qRd_81_58, qA_87, qAd_87, qO_81, qL_87, qLd_87, v30, v32, sz_M, c', c2', ea, n87, e40, e41, c1, i1, h1, z, eg, lc, cl, hh, u32, b7, cs', e8, u30]
      · have e9 := gn_2 cl
        by_cases cs : 0 < T 7
        · have cs' : ¬ T 7 ≤ 0 := Int32.not_le.mpr cs
          have e8 := nr_1 (x := (gnL (T 9) (-(T 7 * k)) cb).toInt32) cs
          refine ⟨T 7 * k, -(T 7 * k), .long (gnL (T 9) (-(T 7 * k)) cb), mkU, .int ((gnL (T 9) (-(T 7 * k)) cb).toInt32), ?_⟩
          · rw [e9]
            simp only [r_MRm_go_0, r_MRm_go_1, r_MRm_go_4, r_MRm_go_5, r_MRm_go_6, r_MRm_go_8, r_MRm_go_10, r_MRm_go_13, r_MRm_go_15, r_MRm_go_17, r_MRm_go_119, r_MRm_go_121, r_MRm_go_124, r_MRm_go_125, r_MRm_go_128, r_MRm_go_129, r_MRm_go_131, r_MRm_go_132, r_MRm_go_133, r_MRm_go_134, r_MRm_go_137, r_MRm_go_138, r_MRm_go_139, r_MRm_go_140, r_MRm_go_141, r_MRm_go_142, r_MRm_go_143, r_MRm_go_144, r_MRm_go_145, r_MRm_go_148, r_MRm_go_149, r_MRm_go_151, r_MRm_go_153, r_MRm_go_154, r_MRm_go_157, r_MRm_go_160, r_MRm_go_161, r_MRm_go_162, r_MRm_go_165, r_MRm_go_167, r_MRm_go_168, r_MRm_go_171, r_MRm_go_172, r_MRm_go_175, r_MRm_go_178, r_MRm_go_180, r_MRm_go_181, r_MRm_go_182, r_MRm_go_185, r_MRm_go_187, r_MRm_go_188, r_MRm_go_189, r_MRm_go_192, r_MRm_go_195, r_MRm_go_198, r_MRm_go_199, r_MRm_go_199i, r_MRm_go_200, r_MRm_go_203, r_MRm_go_204, r_MRm_go_207, r_MRm_go_210, r_MRm_go_212, r_MRm_go_213, r_MRm_go_216, r_MRm_go_218, r_MRm_go_219, sL_0, sL_1, sL_2, mk_i, mk_r, mk_f, mk_n, mk_u, mk_l, List.set_cons_succ, List.set_cons_zero, Nat.reduceAdd, ckS_0, ckS_1, ckS_2, ckS_3, ckS_4, Option.bind_some, Option.isSome_some, psh, if_true, if_false, i10, not_true_eq_false, not_false_eq_true, Bool.false_eq_true, and_self, and_true, true_and, eq_self, qI_81_0, qI_81_2, qI_81_3, qI_81_9, qI_81_10, qI_81_11, qI_81_12, qI_81_13, qI_81_18, qI_81_19, qI_81_20, qI_81_21, qI_81_29, qI_81_30, qI_81_31, qI_81_32, qI_81_33, qI_81_34, qI_81_35, qI_81_39, qI_81_40, qI_81_41, qI_81_42, qI_81_43, qI_81_44, qI_81_45, qI_81_46, qI_81_47, qI_81_51, qI_81_53, qR_81_1, qRd_81_1, qR_81_4, qRd_81_4, qR_81_5, qRd_81_5, qR_81_6, qRd_81_6, qR_81_7, qRd_81_7, qR_81_8, qRd_81_8, qR_81_14, qRd_81_14, qR_81_15, qRd_81_15, qR_81_16, qRd_81_16, qR_81_17, qRd_81_17, qR_81_22, qRd_81_22, qR_81_23, qRd_81_23, qR_81_24, qRd_81_24, qR_81_25, qRd_81_25, qR_81_26, qRd_81_26, qR_81_27, qRd_81_27, qR_81_28, qRd_81_28, qR_81_36, qRd_81_36, qR_81_37, qRd_81_37, qR_81_38, qRd_81_38, qR_81_48, qRd_81_48, qR_81_49, qRd_81_49, qR_81_50, qRd_81_50, qR_81_52, qRd_81_52, qR_81_54, qRd_81_54, qR_81_55, qRd_81_55, qR_81_56, qRd_81_56, qR_81_57, qRd_81_57, qR_81_58, qRd_81_58, qA_87, qAd_87, qO_81, qL_87, qLd_87, v30, v32, sz_M, c', c2', ea, n87, e40, e41, c1, i1, h1, z, eg, lc, cl, hh, u32, b7, cs', e8, u30]
        · have cs' : T 7 ≤ 0 := Int32.not_lt.mp cs
          have e8 := nr_2 (x := (gnL (T 9) (-(T 7 * k)) cb).toInt32) cs
          refine ⟨T 7 * k, -(T 7 * k), .long (gnL (T 9) (-(T 7 * k)) cb), mkU, .int ((gnL (T 9) (-(T 7 * k)) cb).toInt32), ?_⟩
          · rw [e9]
            simp only [r_MRm_go_0, r_MRm_go_1, r_MRm_go_4, r_MRm_go_5, r_MRm_go_6, r_MRm_go_8, r_MRm_go_10, r_MRm_go_13, r_MRm_go_15, r_MRm_go_17, r_MRm_go_119, r_MRm_go_121, r_MRm_go_124, r_MRm_go_125, r_MRm_go_128, r_MRm_go_129, r_MRm_go_131, r_MRm_go_132, r_MRm_go_133, r_MRm_go_134, r_MRm_go_137, r_MRm_go_138, r_MRm_go_139, r_MRm_go_140, r_MRm_go_141, r_MRm_go_142, r_MRm_go_143, r_MRm_go_144, r_MRm_go_145, r_MRm_go_148, r_MRm_go_149, r_MRm_go_151, r_MRm_go_153, r_MRm_go_154, r_MRm_go_157, r_MRm_go_160, r_MRm_go_161, r_MRm_go_162, r_MRm_go_165, r_MRm_go_167, r_MRm_go_168, r_MRm_go_171, r_MRm_go_172, r_MRm_go_175, r_MRm_go_178, r_MRm_go_180, r_MRm_go_181, r_MRm_go_182, r_MRm_go_185, r_MRm_go_187, r_MRm_go_188, r_MRm_go_189, r_MRm_go_192, r_MRm_go_195, r_MRm_go_198, r_MRm_go_199, r_MRm_go_199i, r_MRm_go_200, r_MRm_go_203, r_MRm_go_204, r_MRm_go_207, r_MRm_go_210, r_MRm_go_212, r_MRm_go_213, r_MRm_go_216, r_MRm_go_218, r_MRm_go_219, sL_0, sL_1, sL_2, mk_i, mk_r, mk_f, mk_n, mk_u, mk_l, List.set_cons_succ, List.set_cons_zero, Nat.reduceAdd, ckS_0, ckS_1, ckS_2, ckS_3, ckS_4, Option.bind_some, Option.isSome_some, psh, if_true, if_false, i10, not_true_eq_false, not_false_eq_true, Bool.false_eq_true, and_self, and_true, true_and, eq_self, qI_81_0, qI_81_2, qI_81_3, qI_81_9, qI_81_10, qI_81_11, qI_81_12, qI_81_13, qI_81_18, qI_81_19, qI_81_20, qI_81_21, qI_81_29, qI_81_30, qI_81_31, qI_81_32, qI_81_33, qI_81_34, qI_81_35, qI_81_39, qI_81_40, qI_81_41, qI_81_42, qI_81_43, qI_81_44, qI_81_45, qI_81_46, qI_81_47, qI_81_51, qI_81_53, qR_81_1, qRd_81_1, qR_81_4, qRd_81_4, qR_81_5, qRd_81_5, qR_81_6, qRd_81_6, qR_81_7, qRd_81_7, qR_81_8, qRd_81_8, qR_81_14, qRd_81_14, qR_81_15, qRd_81_15, qR_81_16, qRd_81_16, qR_81_17, qRd_81_17, qR_81_22, qRd_81_22, qR_81_23, qRd_81_23, qR_81_24, qRd_81_24, qR_81_25, qRd_81_25, qR_81_26, qRd_81_26, qR_81_27, qRd_81_27, qR_81_28, qRd_81_28, qR_81_36, qRd_81_36, qR_81_37, qRd_81_37, qR_81_38, qRd_81_38, qR_81_48, qRd_81_48, qR_81_49, qRd_81_49, qR_81_50, qRd_81_50, qR_81_52, qRd_81_52, qR_81_54, qRd_81_54, qR_81_55, qRd_81_55, qR_81_56, qRd_81_56, qR_81_57, qRd_81_57, qR_81_58, qRd_81_58, qA_87, qAd_87, qO_81, qL_87, qLd_87, v30, v32, sz_M, c', c2', ea, n87, e40, e41, c1, i1, h1, z, eg, lc, cl, hh, u32, b7, cs', e8, u30]
    · have c2' : 0 ≤ T 7 * k := Int32.not_lt.mp c2
      rw [if_neg c2]
      refine ⟨T 7 * k, abF (T 7 * k), mkU, mkU, mkU, ?_⟩
      · simp only [r_MRm_go_0, r_MRm_go_1, r_MRm_go_4, r_MRm_go_5, r_MRm_go_6, r_MRm_go_8, r_MRm_go_10, r_MRm_go_13, r_MRm_go_15, r_MRm_go_17, r_MRm_go_119, r_MRm_go_121, sL_0, sL_1, sL_2, mk_i, mk_r, mk_f, mk_n, mk_u, mk_l, List.set_cons_succ, List.set_cons_zero, Nat.reduceAdd, ckS_0, ckS_1, ckS_2, ckS_3, ckS_4, Option.bind_some, Option.isSome_some, psh, if_true, if_false, i10, not_true_eq_false, not_false_eq_true, Bool.false_eq_true, and_self, and_true, true_and, eq_self, qI_81_0, qI_81_2, qI_81_3, qI_81_9, qI_81_10, qI_81_11, qI_81_12, qI_81_13, qI_81_18, qI_81_19, qI_81_20, qI_81_21, qI_81_29, qI_81_30, qI_81_31, qI_81_32, qI_81_33, qI_81_34, qI_81_35, qI_81_39, qI_81_40, qI_81_41, qI_81_42, qI_81_43, qI_81_44, qI_81_45, qI_81_46, qI_81_47, qI_81_51, qI_81_53, qR_81_1, qRd_81_1, qR_81_4, qRd_81_4, qR_81_5, qRd_81_5, qR_81_6, qRd_81_6, qR_81_7, qRd_81_7, qR_81_8, qRd_81_8, qR_81_14, qRd_81_14, qR_81_15, qRd_81_15, qR_81_16, qRd_81_16, qR_81_17, qRd_81_17, qR_81_22, qRd_81_22, qR_81_23, qRd_81_23, qR_81_24, qRd_81_24, qR_81_25, qRd_81_25, qR_81_26, qRd_81_26, qR_81_27, qRd_81_27, qR_81_28, qRd_81_28, qR_81_36, qRd_81_36, qR_81_37, qRd_81_37, qR_81_38, qRd_81_38, qR_81_48, qRd_81_48, qR_81_49, qRd_81_49, qR_81_50, qRd_81_50, qR_81_52, qRd_81_52, qR_81_54, qRd_81_54, qR_81_55, qRd_81_55, qR_81_56, qRd_81_56, qR_81_57, qRd_81_57, qR_81_58, qRd_81_58, qO_81, v30, sz_M, c', c2']
end
