-- ===== elements of rows, on both sides
section
variable {X : Tok} {d : Nat} {mu mu' : Mu} {la la' : La} {ro ro' : Ro} {et : Nat → Option va_E}
/-- the elements of shelf S's row -/
def elS (mu : Mu) (la : La) (S : Nat) : Prop := ∀ j : Nat, j < 60 → (j : Int) < (mu 108 S).toInt → la (69 + 2 * S + 1) j = la 109 (60 * S + j)
def RElm (mu : Mu) (la : La) (ro : Ro) : Prop := RShf mu la ro ∧ ∀ S, S < 6 → elS mu la S
abbrev dElm : WS := dShf ++ [(70, 0), (72, 0), (74, 0), (76, 0), (78, 0), (80, 0), (109, 0)]
theorem elq {S : Nat} (h : S < 6) : wIn dElm (69 + 2 * S + 1) 0 = true := by
  match S, h with
  | 0, _ => decide
  | 1, _ => decide
  | 2, _ => decide
  | 3, _ => decide
  | 4, _ => decide
  | 5, _ => decide
theorem RElm_f {w : WS} (h : wDis w dElm = true) (f : frm w mu la ro mu' la' ro') (q : RElm mu la ro) : RElm mu' la' ro' := by
  refine ⟨RShf_f (wDis_s (by decide) h) f q.1, fun S hS j h1 h2 => ?_⟩
  rw [f.2.1 _ (dis_d h (elq hS)), f.2.1 109 (dis_d h (by decide))]
  refine q.2 S hS j h1 ?_
  rw [← dis_r (a := 108) (k := S) h f (by decide) (by decide)]
  exact h2
theorem elS_m {S : Nat} (h : mu' 108 S = mu 108 S) (q : elS mu la S) : elS mu' la S := fun j h1 h2 => q j h1 (by rw [← h]; exact h2)
theorem bd_108 {n S : Nat} {k : Int32} : bdM (bdC mu k n) k n 108 S = mu 108 S := by
  unfold bdM bdC
  by_cases c : (0 ≤ k ∧ k ≤ 7) ∧ n < 50
  · rw [if_pos c, if_pos c]
    rfl
  · rw [if_neg c, if_neg c]
theorem RElm_b {n : Nat} {k : Int32} (h1 : n ≤ 50) (h2 : RBn n mu) (h3 : ∀ S, S < 6 → shS n mu S) (h4 : ∀ S, S < 6 → elS mu la S) : RElm (bdM (bdC mu k n) k n) la ro :=
  ⟨RShf_b h1 h2 h3, fun S hS => elS_m bd_108 (h4 S hS)⟩
theorem kp_108 {n S : Nat} {s b : Int32} (hs : (0 ≤ s ∧ s ≤ 5) → ∃ S, S < 6 ∧ s = nI S) : kpM (kpC mu s b n) s b n 108 S = mu 108 S := by
  unfold kpM kpC
  by_cases c : (0 ≤ s ∧ s ≤ 5) ∧ (-1 ≤ b ∧ b ≤ nI n - 1)
  · obtain ⟨S', hS', rfl⟩ := hs c.1
    rw [if_pos c, if_pos c, nI_clamp (by omega), up2_e, if_neg (by omega), up2_e, if_neg (by omega), up2_e, if_neg (by omega), up2_e, if_neg (by omega)]
  · rw [if_neg c, if_neg c]
theorem rw_el {mu1 mu2 : Mu} {la1 la2 : La} {s t n : Int32} (hq : ∀ S, S < 6 → elS mu la S)
    (h1 : (rwOk s t n = true ∧ 0 ≤ n ∧ ∃ S N, S < 6 ∧ N ≤ 60 ∧ s = nI S ∧ n = nI N ∧ mu1 = rowMu mu (69 + 2 * S) t n ∧ la1 = zrJ la (69 + 2 * S + 1) 0 N) ∨ (¬ (rwOk s t n = true ∧ 0 ≤ n) ∧ mu1 = mu ∧ la1 = la))
    (h2 : (rwOk s t n = true ∧ 0 ≤ n ∧ ∃ S N, S < 6 ∧ N ≤ 60 ∧ s = nI S ∧ n = nI N ∧ mu2 = up2 (up2 mu1 107 S (-2 - t)) 108 S n ∧ la2 = zrJ la1 109 (60 * S) (60 * S + 60)) ∨ (¬ (rwOk s t n = true ∧ 0 ≤ n) ∧ mu2 = mu1 ∧ la2 = la1)) : ∀ S, S < 6 → elS mu2 la2 S := by
  rcases h1 with ⟨a1, a2, S, N, hS, hN, rfl, rfl, rfl, rfl⟩ | ⟨a1, rfl, rfl⟩
  · rcases h2 with ⟨_, _, S', N', hS', hN', e1, e2, rfl, rfl⟩ | ⟨b1, _, _⟩
    · have : S' = S := (nI_eq (by omega) (by omega)).mp e1.symm
      subst this
      intro S2 hS2 j hj hj2
      by_cases q : S2 = S'
      · subst q
        rw [up2_s, nI_toInt (by omega)] at hj2
        have e3 : ¬ 69 + 2 * S2 + 1 = 109 := by omega
        have e4 : ¬ (109 : Nat) = 69 + 2 * S2 + 1 := by omega
        unfold zrJ
        rw [if_neg e3, if_pos rfl, if_pos (by omega), if_pos rfl, if_pos (by omega)]
      · have hj3 : (j : Int) < (mu 108 S2).toInt := by
          have e : up2 (up2 (rowMu mu (69 + 2 * S') t (nI N)) 107 S' (-2 - t)) 108 S' (nI N) 108 S2 = mu 108 S2 := by
            unfold rowMu
            rw [up2_e, if_neg (by omega), up2_e, if_neg (by omega), up2_e, if_neg (by omega), up2_e, if_neg (by omega), up2_e, if_neg (by omega)]
          rw [e] at hj2
          exact hj2
        have e3 : ¬ 69 + 2 * S2 + 1 = 109 := by omega
        have e4 : ¬ (109 : Nat) = 69 + 2 * S' + 1 := by omega
        have e5 : ¬ 69 + 2 * S2 + 1 = 69 + 2 * S' + 1 := by omega
        have e := hq S2 hS2 j hj hj3
        unfold zrJ
        rw [if_neg e3, if_neg e5, if_pos rfl, if_neg (by omega), if_neg e4]
        exact e
    · exact absurd ⟨a1, a2⟩ b1
  · rcases h2 with ⟨b1, b2, _⟩ | ⟨_, rfl, rfl⟩
    · exact absurd ⟨b1, b2⟩ a1
    · exact hq
/-- a shift moves on both sides, or on neither -/
theorem sh_cases {n S O : Nat} {i j x : Int32} (hn : n ≤ 50) (hg : gOk ivG mu) (hS : shS n mu S) (hO : shS n mu O) : (∃ I J N : Nat, I + N ≤ 60 ∧ J + N ≤ 60 ∧ ((I + N : Nat) : Int) ≤ (mu 108 S).toInt ∧ ∀ la : La, shL mu la (69 + 2 * S) (69 + 2 * O) i j x = upB la (69 + 2 * O + 1) (va_cpy (la (69 + 2 * S + 1)) (la (69 + 2 * O + 1)) I J N) ∧ smL mu la S O i j x = sm2 (sm1 la (60 * S + I) N) (60 * O + J) N) ∨ (∀ la : La, shL mu la (69 + 2 * S) (69 + 2 * O) i j x = la ∧ smL mu la S O i j x = la) := by
  have eS := emp_iff hn hS
  have eO := emp_iff hn hO
  unfold shL smL
  by_cases c1 : mu 107 S = -1
  · exact .inr fun la => ⟨by rw [if_pos (eS.mpr c1)], by rw [if_pos c1]⟩
  · have c1' : ¬ empC mu (69 + 2 * S) = true := fun q => c1 (eS.mp q)
    by_cases c2 : mu 107 O = -1
    · exact .inr fun la => ⟨by rw [if_neg c1', if_pos (eO.mpr c2)], by rw [if_neg c1, if_pos c2]⟩
    · have c2' : ¬ empC mu (69 + 2 * O) = true := fun q => c2 (eO.mp q)
      rcases hS with ⟨p1, p2, p3⟩ | ⟨b, hb, p1, p2, p3⟩ | ⟨T, N, hT, hN, p1, p2, p3, p4, p5⟩
      · exact absurd p1 c1
      · have k1 : ¬ rowC mu (69 + 2 * S) = true := fun q => of_decide_eq_true q p3
        have k2 : 0 ≤ mu 107 S := by rw [p1]; exact nI_pos' (by omega)
        exact .inr fun la => ⟨by rw [if_neg c1', if_neg c2', if_neg k1], by rw [if_neg c1, if_neg c2, if_pos k2]⟩
      · have k1 : rowC mu (69 + 2 * S) = true := decide_eq_true (by rw [p3]; exact nI_nm (by omega))
        have k2 : ¬ 0 ≤ mu 107 S := by rw [p1]; exact m2_neg hT
        rcases hO with ⟨q1, q2, q3⟩ | ⟨b, hb, q1, q2, q3⟩ | ⟨T', N', hT', hN', q1, q2, q3, q4, q5⟩
        · exact absurd q1 c2
        · have k3 : ¬ ofC mu (69 + 2 * O) (mu (69 + 2 * S) 2) = true := fun q => (of_decide_eq_true q).1 q3
          have k4 : ¬ mu 107 S = mu 107 O := by
            rw [p1, q1]
            intro q
            have q6 := m2_neg hT
            rw [q] at q6
            exact q6 (nI_pos' (by omega))
          exact .inr fun la => ⟨by rw [if_neg c1', if_neg c2', if_pos k1, if_neg k3], by rw [if_neg c1, if_neg c2, if_neg k2, if_neg k4]⟩
        · by_cases k : T = T'
          · subst k
            have k3 : ofC mu (69 + 2 * O) (mu (69 + 2 * S) 2) = true := decide_eq_true (by rw [p3, q3]; exact ⟨nI_nm (by omega), rfl⟩)
            have k4 : mu 107 S = mu 107 O := by rw [p1, q1]
            by_cases d : ((0 ≤ i ∧ 0 ≤ x) ∧ i ≤ nI N - x) ∧ 0 ≤ j ∧ j ≤ nI N' - x
            · obtain ⟨⟨⟨d1, d2⟩, d3⟩, d4, d5⟩ := d
              have m1 : hasC mu (69 + 2 * S) i x = true := decide_eq_true (by rw [p4]; exact ⟨⟨d1, d2⟩, d3⟩)
              have m2 : hasC mu (69 + 2 * O) j x = true := decide_eq_true (by rw [q4]; exact ⟨⟨d4, d2⟩, d5⟩)
              have m3 : sgnM i j x = true := decide_eq_true ⟨Int32.not_lt.mpr d2, Int32.not_lt.mpr d1, Int32.not_lt.mpr d4⟩
              have m4 : hasM mu S i x = true := decide_eq_true (by rw [p5]; exact d3)
              have m5 : hasM mu O j x = true := decide_eq_true (by rw [q5]; exact d5)
              obtain ⟨I, hI, rfl⟩ := nI_of (Int32.not_lt.mpr d1)
              obtain ⟨J, hJ, rfl⟩ := nI_of (Int32.not_lt.mpr d4)
              obtain ⟨Z, hZ, rfl⟩ := nI_of (Int32.not_lt.mpr d2)
              have e1 : (nI N - nI Z).toInt = (N : Int) - (Z : Int) := by
                rw [Int32.toInt_sub, nI_toInt (by omega), nI_toInt hZ]
                exact Int.bmod_eq_of_le (by omega) (by omega)
              have e2 : (nI N' - nI Z).toInt = (N' : Int) - (Z : Int) := by
                rw [Int32.toInt_sub, nI_toInt (by omega), nI_toInt hZ]
                exact Int.bmod_eq_of_le (by omega) (by omega)
              rw [Int32.le_iff_toInt_le, e1, nI_toInt hI] at d3
              rw [Int32.le_iff_toInt_le, e2, nI_toInt hJ] at d5
              refine .inl ⟨I, J, Z, by omega, by omega, by rw [p5, nI_toInt (by omega)]; omega, fun la => ⟨?_, ?_⟩⟩
              · rw [if_neg c1', if_neg c2', if_pos k1, if_pos k3, if_pos m1, if_pos m2, nI_clamp hI, nI_clamp hJ, nI_clamp hZ]
              · rw [if_neg c1, if_neg c2, if_neg k2, if_pos k4, if_pos m3, if_pos m4, if_pos m5, nI_clamp hI, nI_clamp hJ, nI_clamp hZ]
            · refine .inr fun la => ⟨?_, ?_⟩
              · rw [if_neg c1', if_neg c2', if_pos k1, if_pos k3]
                by_cases m1 : hasC mu (69 + 2 * S) i x = true
                · have m2 : ¬ hasC mu (69 + 2 * O) j x = true := fun q => d ⟨by have := of_decide_eq_true m1; rw [p4] at this; exact this, by have := of_decide_eq_true q; rw [q4] at this; exact ⟨this.1.1, this.2⟩⟩
                  rw [if_pos m1, if_neg m2]
                · rw [if_neg m1]
              · rw [if_neg c1, if_neg c2, if_neg k2, if_pos k4]
                by_cases m3 : sgnM i j x = true
                · have z := of_decide_eq_true m3
                  rw [if_pos m3]
                  by_cases m4 : hasM mu S i x = true
                  · have m5 : ¬ hasM mu O j x = true := fun q => d ⟨⟨⟨Int32.not_lt.mp z.2.1, Int32.not_lt.mp z.1⟩, by have := of_decide_eq_true m4; rw [p5] at this; exact this⟩, Int32.not_lt.mp z.2.2, by have := of_decide_eq_true q; rw [q5] at this; exact this⟩
                    rw [if_pos m4, if_neg m5]
                  · rw [if_neg m4]
                · rw [if_neg m3]
          · have k3 : ¬ ofC mu (69 + 2 * O) (mu (69 + 2 * S) 2) = true := fun q => by
              have q6 := (of_decide_eq_true q).2
              rw [p3, q3] at q6
              exact k ((nI_eq (by omega) (by omega)).mp q6.symm)
            have k4 : ¬ mu 107 S = mu 107 O := by
              rw [p1, q1]
              exact fun q => k (m2_eq hT hT' q)
            exact .inr fun la => ⟨by rw [if_neg c1', if_neg c2', if_pos k1, if_neg k3], by rw [if_neg c1, if_neg c2, if_neg k2, if_neg k4]⟩
theorem sh_el {n S O : Nat} {i j x : Int32} (hn : n ≤ 50) (hg : gOk ivG mu) (hS6 : S < 6) (hO6 : O < 6) (hS : shS n mu S) (hO : shS n mu O) (hq : ∀ S, S < 6 → elS mu la S) : ∀ S2, S2 < 6 → elS mu (smL mu (shL mu la (69 + 2 * S) (69 + 2 * O) i j x) S O i j x) S2 := by
  rcases sh_cases (i := i) (j := j) (x := x) hn hg hS hO with ⟨I, J, N, h1, h2, h3, h⟩ | h
  · intro S2 hS2 p hp hp2
    rw [(h la).1, (h _).2]
    have e1 : ¬ 69 + 2 * S2 + 1 = 109 := by omega
    have e2 : ¬ 69 + 2 * S2 + 1 = 110 := by omega
    have e3 : ¬ (109 : Nat) = 69 + 2 * O + 1 := by omega
    have e4 : ¬ (109 : Nat) = 110 := by decide
    have e5 := hq S2 hS2 p hp hp2
    unfold sm2 sm1 upB
    rw [if_neg e1, if_neg e2, if_pos rfl]
    by_cases q : S2 = O
    · subst q
      rw [if_pos rfl]
      unfold va_cpy
      by_cases c : J ≤ p ∧ p < J + N
      · rw [if_pos c, if_pos (by omega), if_pos rfl, if_pos (by omega), if_neg e3]
        have e6 := hq S hS6 (I + (p - J)) (by omega) (by omega)
        rw [e6]
        congr 1
        omega
      · rw [if_neg c, if_neg (by omega), if_neg e4, if_neg e3]
        exact e5
    · have e6 : ¬ 69 + 2 * S2 + 1 = 69 + 2 * O + 1 := by omega
      rw [if_neg e6, if_neg (by omega), if_neg e4, if_neg e3]
      exact e5
  · rw [(h la).1, (h la).2]
    exact hq
theorem el_ini (i1 : ∀ a, a < 111 → ∀ j, j < lnI a → isRf a j = false → mu a j = ini a j) (i2 : ∀ a, a < 111 → ∀ j, j < lnJ a → la a j = 0) {S : Nat} (hS : S < 6) : elS mu la S := by
  intro j hj _
  have h1 : la 109 (60 * S + j) = 0 := i2 109 (by decide) _ (by show 60 * S + j < 360; omega)
  have h2 : la (69 + 2 * S + 1) j = 0 := by
    match S, hS with
    | 0, _ => exact i2 70 (by decide) _ hj
    | 1, _ => exact i2 72 (by decide) _ hj
    | 2, _ => exact i2 74 (by decide) _ hj
    | 3, _ => exact i2 76 (by decide) _ hj
    | 4, _ => exact i2 78 (by decide) _ hj
    | 5, _ => exact i2 80 (by decide) _ hj
  rw [h1, h2]
end
