-- ===== counts: alike on both sides
section
variable {X : Tok} {d : Nat} {mu mu' : Mu} {la la' : La} {ro ro' : Ro} {et : Nat → Option va_E} {k : Int32}
/-- what the counts ask for: all that is kept, and both traces -/
def RCn (mu : Mu) (la : La) (ro : Ro) : Prop := RTS mu la ro ∧ RFlm mu la ro ∧ RTr mu
abbrev dCn : WS := dTS ++ (dFlm ++ dTr)
theorem RCn_f {w : WS} (h : wDis w dCn = true) (f : frm w mu la ro mu' la' ro') (q : RCn mu la ro) : RCn mu' la' ro' := ⟨RTS_f (wDis_l h).1 f q.1, RFlm_f (wDis_l (wDis_l h).2).1 f q.2.1, RTr_f (wDis_l (wDis_l h).2).2 f q.2.2⟩
theorem RBod_of (q : RFlm mu la ro) : RBod mu la ro := by
  obtain ⟨⟨⟨n, hn, hb, _⟩, _⟩, _⟩ := q
  exact ⟨n, hn, hb⟩
theorem RCn_eq (q : RCn mu la ro) : (mu 81 3 = mu 0 9 ∧ mu 81 29 = mu 0 10 ∧ mu 81 47 = mu 11 2 ∧ mu 81 2 = mu 1 1) ∧ mu 81 12 = mu 14 1 ∧ mu 81 51 = mu 16 2 ∧ mu 81 53 = mu 16 3 := by
  obtain ⟨⟨⟨⟨T, -, t1, t2, -⟩, ⟨F, -, f1, f2⟩, S, -, s1, s2⟩, n, D, U, -, -, -, -, -, ⟨d1, -, d2, -⟩, -⟩, ⟨⟨⟨b, -, hb, -⟩, -⟩, K, t, s, -, -, k1, k2⟩, R, -, r1, r2, -⟩ := q
  exact ⟨⟨s2.trans s1.symm, f2.trans f1.symm, k2.1.trans k1.1.symm, t2.trans t1.symm⟩, d2.trans d1.symm, hb.2.1.trans hb.1.symm, r2.trans r1.symm⟩
theorem e_countD (hx : k.toInt < 0 ∨ 6 < k.toInt) : Rr X d MTo_count 0 [.ref 0, .int k] [] (Wd mu la ro et) = some (some (.int (-1)), Wd mu la ro et) ∧ Rr X d MRm_count 0 [.ref 81, .int k] [] (Wd mu la ro et) = some (some (.int (-1)), Wd mu la ro et) := by
  rw [r_MTo_count_0, r_MTo_count_1D hx, r_MTo_count_94, r_MTo_count_95, r_MRm_count_0, r_MRm_count_1D hx, r_MRm_count_79, r_MRm_count_80]
  exact ⟨rfl, rfl⟩
theorem e_count0 : Rr X d MTo_count 0 [.ref 0, .int 0] [] (Wd mu la ro et) = some (some (.int (mu 0 9)), Wd mu la ro et) ∧ Rr X d MRm_count 0 [.ref 81, .int 0] [] (Wd mu la ro et) = some (some (.int (mu 81 3)), Wd mu la ro et) := by
  rw [r_MTo_count_0, r_MTo_count_1_0, r_MTo_count_44, r_MTo_count_45 (by decide), r_MTo_count_48, r_MRm_count_0, r_MRm_count_1_0, r_MRm_count_44, r_MRm_count_45 (by decide), r_MRm_count_48]
  exact ⟨rfl, rfl⟩
theorem e_count1 : Rr X d MTo_count 0 [.ref 0, .int 1] [] (Wd mu la ro et) = some (some (.int (mu 0 10)), Wd mu la ro et) ∧ Rr X d MRm_count 0 [.ref 81, .int 1] [] (Wd mu la ro et) = some (some (.int (mu 81 29)), Wd mu la ro et) := by
  rw [r_MTo_count_0, r_MTo_count_1_1, r_MTo_count_49, r_MTo_count_50 (by decide), r_MTo_count_53, r_MRm_count_0, r_MRm_count_1_1, r_MRm_count_49, r_MRm_count_50 (by decide), r_MRm_count_53]
  exact ⟨rfl, rfl⟩
theorem e_count2 : Rr X d MTo_count 0 [.ref 0, .int 2] [] (Wd mu la ro et) = some (some (.int (mu 11 2)), Wd mu la ro et) ∧ Rr X d MRm_count 0 [.ref 81, .int 2] [] (Wd mu la ro et) = some (some (.int (mu 81 47)), Wd mu la ro et) := by
  rw [r_MTo_count_0, r_MTo_count_1_2, r_MTo_count_54, r_MTo_count_55 (by decide), r_MTo_count_58 (by decide), r_MTo_count_61, r_MRm_count_0, r_MRm_count_1_2, r_MRm_count_54, r_MRm_count_55 (by decide), r_MRm_count_58]
  exact ⟨rfl, rfl⟩
theorem e_count3 : Rr X d MTo_count 0 [.ref 0, .int 3] [] (Wd mu la ro et) = some (some (.int (mu 1 1)), Wd mu la ro et) ∧ Rr X d MRm_count 0 [.ref 81, .int 3] [] (Wd mu la ro et) = some (some (.int (mu 81 2)), Wd mu la ro et) := by
  rw [r_MTo_count_0, r_MTo_count_1_3, r_MTo_count_62, r_MTo_count_63 (by decide), r_MTo_count_66 (by decide), r_MTo_count_69, r_MRm_count_0, r_MRm_count_1_3, r_MRm_count_59, r_MRm_count_60 (by decide), r_MRm_count_63]
  exact ⟨rfl, rfl⟩
theorem e_count4 : Rr X d MTo_count 0 [.ref 0, .int 4] [] (Wd mu la ro et) = some (some (.int (mu 14 1)), Wd mu la ro et) ∧ Rr X d MRm_count 0 [.ref 81, .int 4] [] (Wd mu la ro et) = some (some (.int (mu 81 12)), Wd mu la ro et) := by
  rw [r_MTo_count_0, r_MTo_count_1_4, r_MTo_count_70, r_MTo_count_71 (by decide), r_MTo_count_74 (by decide), r_MTo_count_77, r_MRm_count_0, r_MRm_count_1_4, r_MRm_count_64, r_MRm_count_65 (by decide), r_MRm_count_68]
  exact ⟨rfl, rfl⟩
theorem e_count5 : Rr X d MTo_count 0 [.ref 0, .int 5] [] (Wd mu la ro et) = some (some (.int (mu 16 2)), Wd mu la ro et) ∧ Rr X d MRm_count 0 [.ref 81, .int 5] [] (Wd mu la ro et) = some (some (.int (mu 81 51)), Wd mu la ro et) := by
  rw [r_MTo_count_0, r_MTo_count_1_5, r_MTo_count_78, r_MTo_count_79 (by decide), r_MTo_count_82 (by decide), r_MTo_count_85, r_MRm_count_0, r_MRm_count_1_5, r_MRm_count_69, r_MRm_count_70 (by decide), r_MRm_count_73]
  exact ⟨rfl, rfl⟩
theorem e_count6 : Rr X d MTo_count 0 [.ref 0, .int 6] [] (Wd mu la ro et) = some (some (.int (mu 16 3)), Wd mu la ro et) ∧ Rr X d MRm_count 0 [.ref 81, .int 6] [] (Wd mu la ro et) = some (some (.int (mu 81 53)), Wd mu la ro et) := by
  rw [r_MTo_count_0, r_MTo_count_1_6, r_MTo_count_86, r_MTo_count_87 (by decide), r_MTo_count_90 (by decide), r_MTo_count_93, r_MRm_count_0, r_MRm_count_1_6, r_MRm_count_74, r_MRm_count_75 (by decide), r_MRm_count_78]
  exact ⟨rfl, rfl⟩
theorem count_all (q : RCn mu la ro) : ∃ x : Int32, Rr X d MTo_count 0 [.ref 0, .int k] [] (Wd mu la ro et) = some (some (.int x), Wd mu la ro et) ∧ Rr X d MRm_count 0 [.ref 81, .int k] [] (Wd mu la ro et) = some (some (.int x), Wd mu la ro et) := by
  obtain ⟨⟨q0, q1, q2, q3⟩, q4, q5, q6⟩ := RCn_eq q
  by_cases hx : k.toInt < 0 ∨ 6 < k.toInt
  · exact ⟨_, e_countD hx⟩
  · have : k.toInt = 0 ∨ k.toInt = 1 ∨ k.toInt = 2 ∨ k.toInt = 3 ∨ k.toInt = 4 ∨ k.toInt = 5 ∨ k.toInt = 6 := by omega
    rcases this with h | h | h | h | h | h | h
    · obtain rfl : k = 0 := Int32.toInt_inj.mp h
      exact ⟨_, e_count0.1, q0 ▸ e_count0.2⟩
    · obtain rfl : k = 1 := Int32.toInt_inj.mp h
      exact ⟨_, e_count1.1, q1 ▸ e_count1.2⟩
    · obtain rfl : k = 2 := Int32.toInt_inj.mp h
      exact ⟨_, e_count2.1, q2 ▸ e_count2.2⟩
    · obtain rfl : k = 3 := Int32.toInt_inj.mp h
      exact ⟨_, e_count3.1, q3 ▸ e_count3.2⟩
    · obtain rfl : k = 4 := Int32.toInt_inj.mp h
      exact ⟨_, e_count4.1, q4 ▸ e_count4.2⟩
    · obtain rfl : k = 5 := Int32.toInt_inj.mp h
      exact ⟨_, e_count5.1, q5 ▸ e_count5.2⟩
    · obtain rfl : k = 6 := Int32.toInt_inj.mp h
      exact ⟨_, e_count6.1, q6 ▸ e_count6.2⟩
end
