-- ===== the reckonings
theorem add32 {x y : Int32} (h1 : iLo ≤ x.toInt + y.toInt) (h2 : x.toInt + y.toInt ≤ iHi) : (x + y).toInt = x.toInt + y.toInt := by rw [Int32.toInt_add, bm32 h1 h2]
theorem sub32 {x y : Int32} (h1 : iLo ≤ x.toInt - y.toInt) (h2 : x.toInt - y.toInt ≤ iHi) : (x - y).toInt = x.toInt - y.toInt := by rw [Int32.toInt_sub, bm32 h1 h2]
theorem mul32 {x y : Int32} (h1 : iLo ≤ x.toInt * y.toInt) (h2 : x.toInt * y.toInt ≤ iHi) : (x * y).toInt = x.toInt * y.toInt := by rw [Int32.toInt_mul, bm32 h1 h2]
theorem add64 {x y : Int64} (h1 : jLo ≤ x.toInt + y.toInt) (h2 : x.toInt + y.toInt ≤ jHi) : (x + y).toInt = x.toInt + y.toInt := by rw [Int64.toInt_add, bm64 h1 h2]
theorem mul64 {x y : Int64} (h1 : jLo ≤ x.toInt * y.toInt) (h2 : x.toInt * y.toInt ≤ jHi) : (x * y).toInt = x.toInt * y.toInt := by rw [Int64.toInt_mul, bm64 h1 h2]
/-- a product lies between those of the ends -/
theorem mul_mid {l h y a : Int} (h1 : l ≤ y) (h2 : y ≤ h) : imn (l * a) (h * a) ≤ y * a ∧ y * a ≤ imx (l * a) (h * a) := by
  have m := @imn_le (l * a) (h * a)
  have M := @imx_ge (l * a) (h * a)
  rcases Int.le_total 0 a with q | q
  · have := Int.mul_le_mul_of_nonneg_right h1 q
    have := Int.mul_le_mul_of_nonneg_right h2 q
    omega
  · have := Int.mul_le_mul_of_nonpos_right h1 q
    have := Int.mul_le_mul_of_nonpos_right h2 q
    omega
theorem imn_mono {a b c d : Int} (h1 : a ≤ c) (h2 : b ≤ d) : imn a b ≤ imn c d := by
  have := @imn_le a b
  rcases @imn_or c d with q | q <;> omega
theorem imx_mono {a b c d : Int} (h1 : a ≤ c) (h2 : b ≤ d) : imx a b ≤ imx c d := by
  have := @imx_ge c d
  rcases @imx_or a b with q | q <;> omega
theorem mul_itv {l h l' h' x y : Int} (h1 : l ≤ x) (h2 : x ≤ h) (h3 : l' ≤ y) (h4 : y ≤ h') : imn (imn (l * l') (l * h')) (imn (h * l') (h * h')) ≤ x * y ∧ x * y ≤ imx (imx (l * l') (l * h')) (imx (h * l') (h * h')) := by
  obtain ⟨a1, a2⟩ := @mul_mid l h x y h1 h2
  obtain ⟨b1, b2⟩ := @mul_mid l' h' y l h3 h4
  obtain ⟨c1, c2⟩ := @mul_mid l' h' y h h3 h4
  rw [Int.mul_comm l' l, Int.mul_comm h' l, Int.mul_comm y l] at b1 b2
  rw [Int.mul_comm l' h, Int.mul_comm h' h, Int.mul_comm y h] at c1 c2
  exact ⟨Int.le_trans (imn_mono b1 c1) a1, Int.le_trans a2 (imx_mono b2 c2)⟩
theorem band_ok {x y : Int32} (h : 0 ≤ y.toInt) : 0 ≤ (x &&& y).toInt ∧ (x &&& y).toInt ≤ y.toInt := by
  have hy : y.toBitVec.msb = false := by
    rw [BitVec.msb_eq_false_iff_two_mul_lt]
    have := BitVec.toInt_eq_toNat_cond y.toBitVec
    rw [show y.toInt = y.toBitVec.toInt from rfl, this] at h
    have := y.toBitVec.isLt
    split at h
    · assumption
    · omega
  have hm : (x &&& y).toBitVec.msb = false := by
    rw [Int32.toBitVec_and, BitVec.msb_and, hy, Bool.and_false]
  rw [show (x &&& y).toInt = (x &&& y).toBitVec.toInt from rfl, show y.toInt = y.toBitVec.toInt from rfl, BitVec.toInt_eq_toNat_of_msb hm, BitVec.toInt_eq_toNat_of_msb hy, Int32.toBitVec_and, BitVec.toNat_and]
  exact ⟨Int.natCast_nonneg _, Int.ofNat_le.mpr Nat.and_le_right⟩
theorem abs_tdiv {a c : Int} (hc : 1 ≤ c) : imn 0 a ≤ a.tdiv c ∧ a.tdiv c ≤ imx 0 a ∧ imn 0 a ≤ a.tdiv c * c ∧ a.tdiv c * c ≤ imx 0 a := by
  have m := @imn_le 0 a
  have M := @imx_ge 0 a
  have e := Int.mul_tdiv_add_tmod a c
  rw [Int.mul_comm] at e
  rcases Int.le_total 0 a with q | q
  · have t0 := Int.tmod_nonneg c q
    have d0 : 0 ≤ a.tdiv c := by
      have := @Int.tdiv_le_tdiv 0 a c (by omega) q
      rwa [Int.zero_tdiv] at this
    have := Int.mul_le_mul_of_nonneg_left hc d0
    omega
  · have d0 : a.tdiv c ≤ 0 := by
      have := @Int.tdiv_le_tdiv a 0 c (by omega) q
      rwa [Int.zero_tdiv] at this
    have t0 : a.tmod c ≤ 0 := by
      have := Int.tmod_nonneg c (a := -a) (by omega)
      rw [Int.neg_tmod] at this
      omega
    have := Int.mul_le_mul_of_nonneg_left hc (show 0 ≤ -(a.tdiv c) by omega)
    rw [Int.neg_mul, Int.neg_mul] at this
    omega
theorem div_pos {x y : Int32} (hy : 1 ≤ y.toInt) : (x / y).toInt = x.toInt.tdiv y.toInt := by
  have a := @abs_tdiv x.toInt y.toInt hy
  have i1 := i_lo x
  have i2 := i_hi x
  have m := @imn_or 0 x.toInt
  have M := @imx_or 0 x.toInt
  have z1 : iLo ≤ 0 := by decide
  have z2 : 0 ≤ iHi := by decide
  rw [Int32.toInt_div, bm32 (by rcases m with m | m <;> omega) (by rcases M with M | M <;> omega)]
theorem rem_pos {x y : Int32} (hy : 1 ≤ y.toInt) : (x - x / y * y).toInt = x.toInt.tmod y.toInt := by
  have a := @abs_tdiv x.toInt y.toInt hy
  have i1 := i_lo x
  have i2 := i_hi x
  have m := @imn_or 0 x.toInt
  have M := @imx_or 0 x.toInt
  have z1 : iLo ≤ 0 := by decide
  have z2 : 0 ≤ iHi := by decide
  have e := Int.mul_tdiv_add_tmod x.toInt y.toInt
  rw [Int.mul_comm] at e
  have t1 := Int.lt_tmod_of_pos x.toInt (b := y.toInt) (by omega)
  have t2 := Int.tmod_lt_of_pos x.toInt (b := y.toInt) (by omega)
  have j2 := i_hi y
  have k1 : iLo ≤ 0 - iHi := by decide
  have hd : (x / y * y).toInt = x.toInt.tdiv y.toInt * y.toInt := by
    rw [mul32 (by rw [div_pos hy]; rcases m with m | m <;> omega) (by rw [div_pos hy]; rcases M with M | M <;> omega), div_pos hy]
  rw [sub32 (by rw [hd]; omega) (by rw [hd]; omega), hd]
  omega
section OPS
variable {ν : Nat → Int} {σ : St} {mu : Mu} {s s' : Nat} {o o' : Int}
theorem wrap32 {x y : Int32} (h : iHi < x.toInt + y.toInt) : (x + y).toInt = x.toInt + y.toInt - 4294967296 := by
  have a := i_hi x
  have b := i_hi y
  unfold iHi at h a b
  rw [Int32.toInt_add, Int.bmod_def]
  split <;> omega
theorem opAdd_ok {x y : Int32} (h : sOk ν σ mu) (hs : s < σ.1) (hx : x.toInt = ν s + o) (hs' : s' < σ.1) (hy : y.toInt = ν s' + o') : gotL ν σ mu (opAdd σ s o s' o') (.int (x + y)) := by
  have z := h.2.1
  unfold opAdd
  split
  · rename_i l h0 l' h0' e1 e2
    have a1 := itv_ok h.2.2.1 e1
    have a2 := itv_ok h.2.2.1 e2
    simp only [Bool.and_eq_true, inI_iff, ile_iff, Nat.beq_eq]
    split
    · rename_i q
      obtain ⟨rfl, q⟩ := q
      exact gotL_1 (got_s h ⟨hs, by rw [add32 (by omega) (by omega)]; omega⟩)
    · split
      · rename_i q
        obtain ⟨rfl, q⟩ := q
        exact gotL_1 (got_s h ⟨hs', by rw [add32 (by omega) (by omega)]; omega⟩)
      · split
        · rename_i q
          exact gotL_1 (got_s h ⟨hs, by rw [add32 (by omega) (by omega)]; omega⟩)
        · split
          · rename_i q
            exact gotL_1 (got_s h ⟨hs', by rw [add32 (by omega) (by omega)]; omega⟩)
          · split
            · rename_i q
              obtain ⟨rfl, q⟩ := q
              rcases Int.lt_or_le iHi (x.toInt + y.toInt) with w | w
              · refine gotL_r (got_cas h (nar_ok h.2.2.1 (by omega) (by omega)) fun τ ht e => got_s ht ⟨by omega, ?_⟩)
                rw [wrap32 w]; omega
              · refine gotL_l (got_cas h (nar_ok h.2.2.1 (by omega) (by omega)) fun τ ht e => got_s ht ⟨by omega, ?_⟩)
                rw [add32 (by omega) (by omega)]; omega
            · refine gotL_1 (got_mkI h fun hi => ?_)
              rw [inI_iff] at hi
              rw [add32 (by omega) (by omega)]
              omega
  · exact gotL_1 (got_tI _ h)
theorem opSub_ok {x y : Int32} (h : sOk ν σ mu) (hs : s < σ.1) (hx : x.toInt = ν s + o) (hs' : s' < σ.1) (hy : y.toInt = ν s' + o') : gotL ν σ mu (opSub σ s o s' o') (.int (x - y)) := by
  have z := h.2.1
  unfold opSub
  split
  · rename_i l h0 l' h0' e1 e2
    have a1 := itv_ok h.2.2.1 e1
    have a2 := itv_ok h.2.2.1 e2
    simp only [Bool.and_eq_true, inI_iff, ile_iff, Nat.beq_eq]
    split
    · rename_i q
      obtain ⟨rfl, q⟩ := q
      exact gotL_1 (got_s h ⟨hs, by rw [sub32 (by omega) (by omega)]; omega⟩)
    · split
      · rename_i q
        obtain ⟨rfl, q⟩ := q
        exact gotL_1 (got_s h ⟨h.1, by rw [sub32 (by omega) (by omega)]; omega⟩)
      · split
        · rename_i q
          exact gotL_1 (got_s h ⟨hs, by rw [sub32 (by omega) (by omega)]; omega⟩)
        · refine gotL_1 (got_mkI h fun hi => ?_)
          rw [inI_iff] at hi
          rw [sub32 (by omega) (by omega)]
          omega
  · exact gotL_1 (got_tI _ h)
theorem opMul_ok {x y : Int32} (h : sOk ν σ mu) (hs : s < σ.1) (hx : x.toInt = ν s + o) (hs' : s' < σ.1) (hy : y.toInt = ν s' + o') : gotL ν σ mu (opMul σ s o s' o') (.int (x * y)) := by
  unfold opMul
  split
  · rename_i l h0 l' h0' e1 e2
    have a1 := itv_ok h.2.2.1 e1
    have a2 := itv_ok h.2.2.1 e2
    refine gotL_1 (got_mkI h fun hi => ?_)
    rw [inI_iff] at hi
    have m := mul_itv (x := x.toInt) (y := y.toInt) (l := l) (h := h0) (l' := l') (h' := h0') (by omega) (by omega) (by omega) (by omega)
    rw [mul32 (by omega) (by omega)]
    exact m
  · exact gotL_1 (got_tI _ h)
theorem opAnd_ok {x y : Int32} (h : sOk ν σ mu) (hy : y.toInt = ν s' + o') : gotL ν σ mu (opAnd σ s' o') (.int (x &&& y)) := by
  unfold opAnd
  split
  · rename_i l' h0' e2
    have a2 := itv_ok h.2.2.1 e2
    split
    · rename_i q
      have q := (ile_iff _ _).mp q
      have := @band_ok x y (by omega)
      refine gotL_1 (got_mkI h fun _ => ?_)
      omega
    · exact gotL_1 (got_tI _ h)
  · exact gotL_1 (got_tI _ h)
theorem opNeg_ok {x : Int32} (h : sOk ν σ mu) (hs : s < σ.1) (hx : x.toInt = ν s + o) : gotL ν σ mu (opNeg σ s o) (.int (-x)) := by
  have z := h.2.1
  unfold opNeg
  split
  · rename_i l h0 e1
    have a1 := itv_ok h.2.2.1 e1
    have b1 := i_lo x
    have b2 := i_hi x
    split
    · rcases Int.lt_or_le iLo x.toInt with w | w
      · refine gotL_r (got_cas h (nar_ok h.2.2.1 (by omega) (by omega)) fun τ ht e => got_mkI ht fun q => ?_)
        rw [inI_iff] at q
        rw [Int32.toInt_neg, bm32 (by unfold iLo iHi at *; omega) (by unfold iLo iHi at *; omega)]
        unfold iLo iHi at *; omega
      · have ex : x.toInt = iLo := by omega
        refine gotL_l (got_cas h (nar_ok h.2.2.1 (by omega) (by omega)) fun τ ht e => got_s ht ⟨by omega, ?_⟩)
        rw [Int32.toInt_neg, ex, z]
        decide
    · refine gotL_1 (got_mkI h fun q => ?_)
      rw [inI_iff] at q
      rw [Int32.toInt_neg, bm32 (by omega) (by omega)]
      omega
  · exact gotL_1 (got_tI _ h)
theorem zsub (x : Int32) : (0 : Int32) - x = -x := by rw [Int32.zero_sub]
theorem opAbs_ok {x : Int32} (h : sOk ν σ mu) (hs : s < σ.1) (hx : x.toInt = ν s + o) : gotL ν σ mu (opAbs σ s o) (.int (if 0 ≤ x then x else 0 - x)) := by
  have b1 := i_lo x
  have b2 := i_hi x
  have z : (0 : Int32).toInt = 0 := rfl
  unfold opAbs
  by_cases q : 0 ≤ x
  · rw [if_pos q]
    rw [Int32.le_iff_toInt_le, z] at q
    exact gotL_l (got_cas h (nar_ok h.2.2.1 (by omega) (by omega)) fun τ ht e => got_s ht ⟨by omega, hx⟩)
  · rw [if_neg q, zsub]
    rw [Int32.le_iff_toInt_le, z] at q
    refine gotL_r ?_
    obtain ⟨τ, e0, e1, e2⟩ := nar_ok (σ := σ) (s := s) (lo := iLo - o) (hi := -1 - o) h.2.2.1 (by omega) (by omega)
    rw [e0]
    obtain ⟨p, g1, ν', g2, g3, g4, g5⟩ := opNeg_ok (x := x) (sOk_e h e1 e2) (by rw [e1.1]; exact hs) hx
    exact ⟨p, g1, ν', by rw [← e1.1]; exact g2, by rw [← e1.1]; exact g3, g4, g5⟩
theorem opMx_ok {x y : Int32} (h : sOk ν σ mu) (hx : x.toInt = ν s + o) (hy : y.toInt = ν s' + o') : gotL ν σ mu (opM true σ s o s' o') (.int (if x < y then y else x)) := by
  unfold opM
  split
  · rename_i l h0 l' h0' e1 e2
    have a1 := itv_ok h.2.2.1 e1
    have a2 := itv_ok h.2.2.1 e2
    have p1 := @imx_or l l'
    have p2 := @imx_ge h0 h0'
    rw [if_pos rfl]
    refine gotL_1 (got_mkI h fun _ => ?_)
    split
    · rename_i q
      rw [Int32.lt_iff_toInt_lt] at q
      rcases p1 with p1 | p1 <;> omega
    · rename_i q
      rw [Int32.lt_iff_toInt_lt] at q
      rcases p1 with p1 | p1 <;> omega
  · exact gotL_1 (got_tI _ h)
theorem opMn_ok {x y : Int32} (h : sOk ν σ mu) (hx : x.toInt = ν s + o) (hy : y.toInt = ν s' + o') : gotL ν σ mu (opM false σ s o s' o') (.int (if y < x then y else x)) := by
  unfold opM
  split
  · rename_i l h0 l' h0' e1 e2
    have a1 := itv_ok h.2.2.1 e1
    have a2 := itv_ok h.2.2.1 e2
    have p1 := @imn_le l l'
    have p2 := @imn_or h0 h0'
    rw [if_neg Bool.false_ne_true]
    refine gotL_1 (got_mkI h fun _ => ?_)
    split
    · rename_i q
      rw [Int32.lt_iff_toInt_lt] at q
      rcases p2 with p2 | p2 <;> omega
    · rename_i q
      rw [Int32.lt_iff_toInt_lt] at q
      rcases p2 with p2 | p2 <;> omega
  · exact gotL_1 (got_tI _ h)
theorem opC8_ok {x : Int32} (h : sOk ν σ mu) (hs : s < σ.1) (hx : x.toInt = ν s + o) : gotL ν σ mu (opC σ s o 128) (.int x.toInt8.toInt32) := by
  have e : x.toInt8.toInt32.toInt = x.toInt.bmod (2 ^ 8) := by rw [Int8.toInt_toInt32, Int32.toInt_toInt8]
  have b1 := @Int.le_bmod x.toInt (2 ^ 8) (by decide)
  have b2 := @Int.bmod_lt x.toInt (2 ^ 8) (by decide)
  unfold opC
  split
  · rename_i l h0 e1
    have a1 := itv_ok h.2.2.1 e1
    simp only [Bool.and_eq_true, ile_iff]
    split
    · refine gotL_1 (got_s h ⟨hs, ?_⟩)
      rw [e, Int.bmod_eq_of_le (by omega) (by omega)]
      exact hx
    · refine gotL_1 (got_mkI h fun _ => ?_)
      rw [e]; omega
  · refine gotL_1 (got_mkI h fun _ => ?_)
    rw [e]; omega
theorem opC16_ok {x : Int32} (h : sOk ν σ mu) (hs : s < σ.1) (hx : x.toInt = ν s + o) : gotL ν σ mu (opC σ s o 32768) (.int x.toInt16.toInt32) := by
  have e : x.toInt16.toInt32.toInt = x.toInt.bmod (2 ^ 16) := by rw [Int16.toInt_toInt32, Int32.toInt_toInt16]
  have b1 := @Int.le_bmod x.toInt (2 ^ 16) (by decide)
  have b2 := @Int.bmod_lt x.toInt (2 ^ 16) (by decide)
  unfold opC
  split
  · rename_i l h0 e1
    have a1 := itv_ok h.2.2.1 e1
    simp only [Bool.and_eq_true, ile_iff]
    split
    · refine gotL_1 (got_s h ⟨hs, ?_⟩)
      rw [e, Int.bmod_eq_of_le (by omega) (by omega)]
      exact hx
    · refine gotL_1 (got_mkI h fun _ => ?_)
      rw [e]; omega
  · refine gotL_1 (got_mkI h fun _ => ?_)
    rw [e]; omega
theorem dlk_mem {b : Bool} {c : Int} {r : Nat} : ∀ {d : Dvs}, dlk d b s o c = some r → (b, s, o, c, r) ∈ d
  | [], q => by cases q
  | (b', s1, o1, c1, r1) :: d, q => by
    unfold dlk at q
    split at q
    · rename_i w
      simp only [Bool.and_eq_true, beq_iff_eq, Nat.beq_eq, ile_iff] at w
      cases q
      obtain ⟨rfl, rfl, ⟨w1, w2⟩, w3, w4⟩ := w
      have : o1 = o := by omega
      subst this
      have : c1 = c := by omega
      subst this
      exact List.mem_cons_self
    · exact List.mem_cons_of_mem _ (dlk_mem q)
theorem opQ_ok {b : Bool} {x y : Int32} {c : Int} (h : sOk ν σ mu) (hs : s < σ.1) (hx : x.toInt = ν s + o) (hc : 1 ≤ c) (hv : y.toInt = if b = true then x.toInt.tdiv c else x.toInt.tmod c) : gotL ν σ mu (opQ b σ s o c) (.int y) := by
  unfold opQ
  split
  · rename_i r e
    obtain ⟨h1, h2, h3⟩ := h.2.2.2.2 _ _ _ _ _ (dlk_mem e)
    refine gotL_1 (got_s h ⟨h2, ?_⟩)
    rw [h3, Int.add_zero, hv, hx]
  · split
    · rename_i l h0 e1
      have a1 := itv_ok h.2.2.1 e1
      split
      rename_i lo hi e2
      have key : lo ≤ y.toInt ∧ y.toInt ≤ hi := by
        cases b
        · rw [if_neg Bool.false_ne_true] at hv e2
          cases e2
          rw [hv]
          have t1 := Int.lt_tmod_of_pos x.toInt (b := c) (by omega)
          have t2 := Int.tmod_lt_of_pos x.toInt (b := c) (by omega)
          have M := @imx_ge 0 (imn h0 (c - 1))
          have N := @imn_or h0 (c - 1)
          have e := Int.mul_tdiv_add_tmod x.toInt c
          rw [Int.mul_comm] at e
          have a := @abs_tdiv x.toInt c (by omega)
          have m' := @imn_or 0 x.toInt
          have m'' := @imn_le 0 x.toInt
          refine ⟨?_, ?_⟩
          · split
            · rename_i w
              rw [ile_iff] at w
              exact Int.tmod_nonneg _ (by omega)
            · omega
          · rcases Int.le_total 0 x.toInt with p | p
            · have d0 : 0 ≤ x.toInt.tdiv c * c := by rcases m' with m' | m' <;> omega
              rcases N with N | N <;> omega
            · have : x.toInt.tmod c ≤ 0 := by
                have := Int.tmod_nonneg c (a := -x.toInt) (by omega)
                rw [Int.neg_tmod] at this
                omega
              omega
        · rw [if_pos rfl] at hv e2
          cases e2
          rw [hv]
          exact ⟨Int.tdiv_le_tdiv (by omega) (by omega), Int.tdiv_le_tdiv (by omega) (by omega)⟩
      have f := fre_ok h key.1 key.2
      refine gotL_1 ⟨_, up1_a ν σ.1 y.toInt, Nat.le_succ _, ⟨f.1, f.2.1, f.2.2.1, f.2.2.2.1, ?_⟩, Nat.lt_succ_self _, by rw [up1_s, Int.add_zero]⟩
      intro b' s1 o1 c1 r hm
      rcases List.mem_cons.mp hm with w | w
      · cases w
        refine ⟨Nat.lt_succ_of_lt hs, Nat.lt_succ_self _, ?_⟩
        rw [up1_s, up1_a ν σ.1 y.toInt s hs, ← hx]
        exact hv
      · exact f.2.2.2.2 _ _ _ _ _ w
    · exact gotL_1 (got_tI _ h)
theorem opDd_ok {x y : Int32} {l : List (St × AV)} (h : sOk ν σ mu) (hs : s < σ.1) (hx : x.toInt = ν s + o) (hy : y.toInt = ν s' + o') (e : opD true σ s o s' o' = some l) : ¬ y = 0 ∧ gotL ν σ mu l (.int (x / y)) := by
  unfold opD at e
  have z : (0 : Int32).toInt = 0 := rfl
  split at e
  · rename_i l' h0' e2
    have a2 := itv_ok h.2.2.1 e2
    simp only [Bool.and_eq_true, Bool.or_eq_true, ile_iff] at e
    split at e
    · rename_i q
      cases e
      have ey : y.toInt = l' := by omega
      refine ⟨fun w => by rw [w, z] at ey; omega, opQ_ok h hs hx q.1 ?_⟩
      rw [div_pos (by omega), ey]
      rfl
    · split at e
      · rename_i q
        cases e
        exact ⟨fun w => by rw [w, z] at hy; omega, gotL_1 (got_tI _ h)⟩
      · cases e
  · cases e
theorem opDr_ok {x y : Int32} {l : List (St × AV)} (h : sOk ν σ mu) (hs : s < σ.1) (hx : x.toInt = ν s + o) (hy : y.toInt = ν s' + o') (e : opD false σ s o s' o' = some l) : ¬ y = 0 ∧ gotL ν σ mu l (.int (x - x / y * y)) := by
  unfold opD at e
  have z : (0 : Int32).toInt = 0 := rfl
  split at e
  · rename_i l' h0' e2
    have a2 := itv_ok h.2.2.1 e2
    simp only [Bool.and_eq_true, Bool.or_eq_true, ile_iff] at e
    split at e
    · rename_i q
      cases e
      have ey : y.toInt = l' := by omega
      refine ⟨fun w => by rw [w, z] at ey; omega, opQ_ok h hs hx q.1 ?_⟩
      rw [rem_pos (by omega), ey]
      rfl
    · split at e
      · rename_i q
        cases e
        exact ⟨fun w => by rw [w, z] at hy; omega, gotL_1 (got_tI _ h)⟩
      · cases e
  · cases e
theorem opLA_ok {x y : Int64} (h : sOk ν σ mu) (hs : s < σ.1) (hx : x.toInt = ν s + o) (hy : y.toInt = ν s' + o') : gotL ν σ mu (opLA σ s o s' o') (.long (x + y)) := by
  have z := h.2.1
  unfold opLA
  split
  · rename_i l h0 l' h0' e1 e2
    have a1 := itv_ok h.2.2.1 e1
    have a2 := itv_ok h.2.2.1 e2
    simp only [Bool.and_eq_true, inJ_iff, Nat.beq_eq]
    split
    · rename_i q
      obtain ⟨rfl, q⟩ := q
      exact gotL_1 (got_s h ⟨hs, by rw [add64 (by omega) (by omega)]; omega⟩)
    · refine gotL_1 (got_mkL h fun hi => ?_)
      rw [inJ_iff] at hi
      rw [add64 (by omega) (by omega)]
      omega
  · exact gotL_1 (got_tL _ h)
theorem opLM_ok {x y : Int64} (h : sOk ν σ mu) (hx : x.toInt = ν s + o) (hy : y.toInt = ν s' + o') : gotL ν σ mu (opLM σ s o s' o') (.long (x * y)) := by
  unfold opLM
  split
  · rename_i l h0 l' h0' e1 e2
    have a1 := itv_ok h.2.2.1 e1
    have a2 := itv_ok h.2.2.1 e2
    refine gotL_1 (got_mkL h fun hi => ?_)
    rw [inJ_iff] at hi
    have m := mul_itv (x := x.toInt) (y := y.toInt) (l := l) (h := h0) (l' := l') (h' := h0') (by omega) (by omega) (by omega) (by omega)
    rw [mul64 (by omega) (by omega)]
    exact m
  · exact gotL_1 (got_tL _ h)
theorem opL2I_ok {x : Int64} (h : sOk ν σ mu) (hs : s < σ.1) (hx : x.toInt = ν s + o) : gotL ν σ mu (opL2I σ s o) (.int x.toInt32) := by
  unfold opL2I
  split
  · rename_i l h0 e1
    have a1 := itv_ok h.2.2.1 e1
    split
    · rename_i q
      rw [inI_iff] at q
      refine gotL_1 (got_s h ⟨hs, ?_⟩)
      rw [Int64.toInt_toInt32, bm32 (by omega) (by omega)]
      exact hx
    · exact gotL_1 (got_tI _ h)
  · exact gotL_1 (got_tI _ h)
end OPS
