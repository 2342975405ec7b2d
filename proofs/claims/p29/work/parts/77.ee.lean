-- ===== lines and the whole of a floor's text, class against model
/-- a line: its code, how much of it is its test, its parts -/
abbrev Ln : Type := List (Int32 × Int32) × Nat × List Pt
def cdL : List Ln → List (Int32 × Int32)
  | [] => []
  | x :: r => x.1 ++ cdL r
def ptL : List Ln → List Pt
  | [] => []
  | x :: r => x.2.2 ++ ptL r
def LnOk (code : List (Int32 × Int32)) (t : Nat) (N : List Pt) (n : Nat) : Prop := (t = 0 ∧ ∃ N1 q, N = N1 ++ [(4, nI q, -1, none)] ∧ Sem code N1 n q) ∨ (0 < t ∧ ∃ c1 c2 N1 N2 q1 q2, code = c1 ++ c2 ∧ t = c1.length ∧ N = N1 ++ [(3, nI q1, -1, none)] ++ N2 ++ [(4, nI q2, -1, none)] ∧ Sem c1 N1 n q1 ∧ Sem c2 N2 (n + (N1.length + 1)) q2)
def lnsOkC : Nat → List Ln → Prop
  | _, [] => True
  | n, x :: r => LnOk x.1 x.2.1 x.2.2 n ∧ lnsOkC (n + x.2.2.length) r
def rowsOk (m : Mu) (B : Nat) : Nat → Nat → List Ln → Prop
  | _, _, [] => True
  | i, st, x :: r => (m 95 (B + i) = nI (st + x.2.1) ∧ m 96 (B + i) = nI (st + x.1.length)) ∧ rowsOk m B (i + 1) (st + x.1.length) r
noncomputable def lnS (mu : Mu) (s : PS) : PS := if (noF (eiS mu s) && decide (bt mu (eiS mu s).1 = 63)) = true then eiS mu (hS (eiS mu s)) else eiS mu s
noncomputable def teS (mu : Mu) (s : PS) : Nat := if (noF (eiS mu s) && decide (bt mu (eiS mu s).1 = 63)) = true then (eiS mu s).2.2.2.length else s.2.2.2.length
section
variable {mu m m' : Mu} {s : PS} {n : Nat} {x : Ln}
theorem Sem_pos {code : List (Int32 × Int32)} {N : List Pt} {n q : Nat} (h : Sem code N n q) : 0 < code.length := by
  obtain ⟨_, f, f1, _⟩ := h
  cases code with
  | nil => exact absurd (f1 (fun _ => 0) []) (by intro q; cases q)
  | cons _ _ => exact Nat.succ_pos _
theorem cdL_a : ∀ (a b : List Ln), cdL (a ++ b) = cdL a ++ cdL b
  | [], _ => rfl
  | y :: a, b => by rw [List.cons_append, cdL, cdL, cdL_a a b, List.append_assoc]
theorem ptL_a : ∀ (a b : List Ln), ptL (a ++ b) = ptL a ++ ptL b
  | [], _ => rfl
  | y :: a, b => by rw [List.cons_append, ptL, ptL, ptL_a a b, List.append_assoc]
theorem lnsOkC_a : ∀ (a : List Ln) (n : Nat), lnsOkC n a → LnOk x.1 x.2.1 x.2.2 (n + (ptL a).length) → lnsOkC n (a ++ [x])
  | [], _, _, h2 => ⟨h2, trivial⟩
  | y :: a, n, ⟨q1, q2⟩, h2 => ⟨q1, lnsOkC_a a (n + y.2.2.length) q2 (by rw [ptL, List.length_append, ← Nat.add_assoc] at h2; exact h2)⟩
theorem rowsOk_a {B : Nat} : ∀ (a : List Ln) (i st : Nat), rowsOk m B i st a → (m 95 (B + (i + a.length)) = nI (st + (cdL a).length + x.2.1) ∧ m 96 (B + (i + a.length)) = nI (st + (cdL a).length + x.1.length)) → rowsOk m B i st (a ++ [x])
  | [], _, _, _, h => ⟨h, trivial⟩
  | y :: a, i, st, ⟨q1, q2⟩, h => ⟨q1, rowsOk_a a (i + 1) (st + y.1.length) q2 (by
      rw [cdL, List.length_append, List.length_cons, show i + (a.length + 1) = i + 1 + a.length by omega, ← Nat.add_assoc st] at h
      exact h)⟩
theorem rowsOk_c {B B' : Nat} : ∀ (a : List Ln) (i st : Nat), (∀ j, j < i + a.length → m' 95 (B' + j) = m 95 (B + j) ∧ m' 96 (B' + j) = m 96 (B + j)) → rowsOk m B i st a → rowsOk m' B' i st a
  | [], _, _, _, _ => trivial
  | y :: a, i, st, h, ⟨q1, q2⟩ => by
    rw [List.length_cons] at h
    exact ⟨⟨(h i (by omega)).1.trans q1.1, (h i (by omega)).2.trans q1.2⟩, rowsOk_c a (i + 1) _ (fun j hj => h j (by omega)) q2⟩
theorem lnF_S : (lnF mu n s).2 = lnS mu s := by
  unfold lnF lnS
  split <;> rfl
theorem lnF_95 : (lnF mu n s).1 95 (244 + n) = nI (teS mu s) ∧ (lnF mu n s).1 96 (244 + n) = nI (lnS mu s).2.2.2.length := by
  unfold lnF lnS teS
  split <;> simp [up2_e]
theorem lnF_lo {j : Nat} (h : j < n) : (lnF mu n s).1 95 (244 + j) = mu 95 (244 + j) ∧ (lnF mu n s).1 96 (244 + j) = mu 96 (244 + j) := by
  have h2 : ¬ j = n := by omega
  unfold lnF
  split <;> simp [up2_e, h2]
theorem lnS_c (hb : bt m = bt mu) : lnS m s = lnS mu s := by
  unfold lnS
  rw [eiS_c hb, hb]
theorem teS_c (hb : bt m = bt mu) : teS m s = teS mu s := by
  unfold teS
  rw [eiS_c hb, hb]
end
noncomputable def rdS (mu : Mu) : Nat → PS → PS
  | 0, s => s
  | k + 1, s => if (noF s && decide (bt mu s.1 = 59)) = true then rdS mu k (lnS mu (hS s)) else s
section
variable {mu mu' : Mu}
theorem rdL_S : ∀ (k : Nat) (m : Mu) (n : Nat) (s : PS), bt m = bt mu → (rdL k m n s).2.1 = rdS mu k s
  | 0, _, _, _, _ => rfl
  | k + 1, m, n, s, hb => by
    rw [rdL, rdS, hb]
    split
    · rw [rdL_S k _ _ _ (lnF_bt.trans hb), lnF_S, lnS_c hb]
    · rfl
theorem rdS_c (hb : bt mu' = bt mu) : ∀ (k : Nat) (s : PS), rdS mu' k s = rdS mu k s
  | 0, _ => rfl
  | k + 1, s => by rw [rdS, rdS, hb, lnS_c hb, rdS_c hb k]
end
section
variable {X : Tok} {mu mu' : Mu} {la la' : La} {ro ro' : Ro} {et : Nat → Option va_E} {a h : Nat} {P : List Pt} {x : Int32} {s : PS}
theorem w_atEnd {d : Nat} (hR : RT mu) (ha : 49 ≤ a) (hh : h ≤ 120) : Rr X d MTa_isAtEnd 0 [.ref 1] [] (Wd (tp (fm mu a (P)) (h)) la ro et) = some (some (.int (if h = Tt mu then 1 else 0)), (Wd (tp (fm mu a (P)) (h)) la ro et)) := by
  rw [e_atEnd (tC_fm ha (RT_C hR)) hh, Tcl_fm ha, RT_T hR]
theorem rj0 (hR : RT mu) (qa : flA a) (d : Nat) (s : PS) (P : List Pt) (h0 : Pre mu 7 s) (ho : s.2.2.1 = 0) (hP : P.length ≤ s.1) : Ocm mu a la ro et s (eiS mu s) P (Rr X (d + 67) MFl_readJoined 0 [.ref a, .ref 1, .int 0, .int 0, mkU, mkU, mkU, mkU, mkU] [] (Wd (tp (fm mu a (P)) (s.1)) la ro et)) := by
  have e := rj_all (X := X) (la := la) (ro := ro) (et := et) (c := 60) hR qa (Gd_op (RT_M hR) 7) (fun d s P h hp => rone hR qa 7 d s P h hp) d s P h0 hP
  rw [ho] at e
  exact e
set_option maxHeartbeats 4000000 in
theorem e_readLine (hR : RT mu) (qa : flA a) (d : Nat) (h0 : Pre mu 7 s) (ho : s.2.2.1 = 0) (hP : P.length ≤ s.1) : ∃ (N : List Pt) (b : Int32) (h : Nat), Rr X (d + 68) MFl_readLine 0 [.ref a, .ref 1, mkU] [] (Wd (tp (fm mu a (P)) (s.1)) la ro et) = some (some (.int b), (Wd (tp (fm mu a (P ++ N)) (h)) la ro et)) ∧ (N.length + s.1 ≤ h + 1 ∧ h ≤ Tt mu) ∧ (noF (lnS mu s) = true → b = 1 ∧ h = (lnS mu s).1 ∧ (lnS mu s).2.2.1 = 0 ∧ s.1 < h ∧ ∃ code t, (lnS mu s).2.2.2 = s.2.2.2 ++ code ∧ LnOk code t N P.length ∧ teS mu s = s.2.2.2.length + t) ∧ (noF (lnS mu s) = false → (lnS mu s).2.1 = some h ∧ (b = 0 ∨ (b = 1 ∧ isD (bt mu h) = true))) := by
  have hT := RT_M hR
  have hT2 := Tt_le hT
  have ha := qa.1.2.2
  have f0 := qa.1.1
  obtain ⟨N1, p1, h1, e1, ⟨b1, b2⟩, b3, b4⟩ := rj0 (X := X) (la := la) (ro := ro) (et := et) hR qa d s P h0 ho hP
  have hlen : (P ++ N1).length ≤ h1 := by rw [List.length_append]; omega
  have sk := w_skip (X := X) (d := d + 66) (la := la) (ro := ro) (et := et) (P := P ++ N1) (x := 63) hR ha (show h1 ≤ 120 by omega)
  obtain ⟨_, _, _, _, _, _, r8⟩ := Gd_ei hT s h0
  by_cases c : noF (eiS mu s) = true
  · obtain ⟨rfl, q1, rfl, hq1, code1, m1, m2⟩ := b3 c
    have z1 : ¬ nI q1 = -1 := nI_nm (by omega)
    obtain ⟨r9, r10, _⟩ := r8 c
    by_cases c63 : bt mu (eiS mu s).1 = 63
    · have cc : (noF (eiS mu s) && decide (bt mu (eiS mu s).1 = 63)) = true := by rw [c, decide_eq_true c63]; rfl
      have cbe : cb mu (eiS mu s).1 = 63 := (cb_k hR (by decide)).mpr c63
      have P2 := Pre_63 hT h0 c (by rw [c63]; decide)
      have ea1 := e_app (X := X) (d := d + 67) (mu := mu) (la := la) (ro := ro) (et := et) (P := P ++ N1) (h := (eiS mu s).1 + 1) (x := 3) (l := nI q1) (r := -1) qa (by omega)
      have hl2 : (P ++ N1 ++ [((3 : Int32), nI q1, (-1 : Int32), (none : Option Int32))]).length ≤ (eiS mu s).1 + 1 := by rw [List.length_append (as := P ++ N1), List.length_singleton]; omega
      obtain ⟨N2, p2, h2, e2, ⟨g1, g2⟩, g3, g4⟩ := rj0 (X := X) (la := la) (ro := ro) (et := et) hR qa d (hS (eiS mu s)) (P ++ N1 ++ [(3, nI q1, -1, none)]) P2 (by show (eiS mu s).2.2.1 = 0; omega) hl2
      have e2 : Rr X (d + 67) MFl_readJoined 0 [.ref a, .ref 1, .int 0, .int 0, mkU, mkU, mkU, mkU, mkU] [] (Wd (tp (fm mu a (P ++ N1 ++ [(3, nI q1, -1, none)])) ((eiS mu s).1 + 1)) la ro et) = some (some (.int p2), (Wd (tp (fm mu a (P ++ N1 ++ [(3, nI q1, -1, none)] ++ N2)) (h2)) la ro et)) := e2
      have g1 : N2.length + ((eiS mu s).1 + 1) ≤ h2 := g1
      have ea2 := e_app (X := X) (d := d + 67) (mu := mu) (la := la) (ro := ro) (et := et) (P := P ++ N1 ++ [(3, nI q1, -1, none)] ++ N2) (h := h2) (x := 4) (l := p2) (r := -1) qa (by rw [List.length_append]; omega)
      have eN : P ++ (N1 ++ [(3, nI q1, -1, none)] ++ N2 ++ [(4, p2, -1, none)]) = P ++ N1 ++ [(3, nI q1, -1, none)] ++ N2 ++ [(4, p2, -1, none)] := by simp only [List.append_assoc]
      have hS' : lnS mu s = eiS mu (hS (eiS mu s)) := by unfold lnS; rw [if_pos cc]
      have hT' : teS mu s = (eiS mu s).2.2.2.length := by unfold teS; rw [if_pos cc]
      have run : Rr X (d + 68) MFl_readLine 0 [.ref a, .ref 1, mkU] [] (Wd (tp (fm mu a (P)) (s.1)) la ro et) = some (some (.int (if p2 = -1 then 0 else 1)), (Wd (tp (fm mu a (P ++ (N1 ++ [(3, nI q1, -1, none)] ++ N2 ++ [(4, p2, -1, none)]))) (h2)) la ro et)) := by
        rw [eN]
        by_cases z2 : p2 = -1
        · subst z2
          simp only [r_MFl_readLine_0, r_MFl_readLine_1, r_MFl_readLine_1n, r_MFl_readLine_2, r_MFl_readLine_3, r_MFl_readLine_4, r_MFl_readLine_7, r_MFl_readLine_8, r_MFl_readLine_9, r_MFl_readLine_10, r_MFl_readLine_13, r_MFl_readLine_13n, r_MFl_readLine_14, r_MFl_readLine_16, r_MFl_readLine_19, r_MFl_readLine_22, r_MFl_readLine_23, r_MFl_readLine_24, r_MFl_readLine_25, r_MFl_readLine_26, r_MFl_readLine_29, r_MFl_readLine_30, r_MFl_readLine_31, r_MFl_readLine_31n, r_MFl_readLine_32, r_MFl_readLine_33, r_MFl_readLine_34, r_MFl_readLine_37, r_MFl_readLine_38, r_MFl_readLine_39, r_MFl_readLine_40, r_MFl_readLine_41, r_MFl_readLine_42, r_MFl_readLine_45, r_MFl_readLine_46, r_MFl_readLine_47, r_MFl_readLine_48, r_MFl_readLine_51, r_MFl_readLine_52, r_MFl_readLine_55, r_MFl_readLine_56, sL_0, sL_1, sL_2, mk_i, mk_r, mk_f, mk_n, mk_u, mk_l, List.set_cons_succ, List.set_cons_zero, Nat.reduceAdd, ckS_0, ckS_1, ckS_2, ckS_3, ckS_4, Option.bind_some, Option.isSome_some, psh, if_true, if_false, i10, not_true_eq_false, not_false_eq_true, Bool.false_eq_true, and_self, and_true, true_and, eq_self, f0, qI_1_1, qI_1_2, qR_1_0, qRd_1_0, qO_1, e1, z1, sk, cbe, ea1, e2, ea2, true_or]
        · simp only [r_MFl_readLine_0, r_MFl_readLine_1, r_MFl_readLine_1n, r_MFl_readLine_2, r_MFl_readLine_3, r_MFl_readLine_4, r_MFl_readLine_7, r_MFl_readLine_8, r_MFl_readLine_9, r_MFl_readLine_10, r_MFl_readLine_13, r_MFl_readLine_13n, r_MFl_readLine_14, r_MFl_readLine_16, r_MFl_readLine_19, r_MFl_readLine_22, r_MFl_readLine_23, r_MFl_readLine_24, r_MFl_readLine_25, r_MFl_readLine_26, r_MFl_readLine_29, r_MFl_readLine_30, r_MFl_readLine_31, r_MFl_readLine_31n, r_MFl_readLine_32, r_MFl_readLine_33, r_MFl_readLine_34, r_MFl_readLine_37, r_MFl_readLine_38, r_MFl_readLine_39, r_MFl_readLine_40, r_MFl_readLine_41, r_MFl_readLine_42, r_MFl_readLine_45, r_MFl_readLine_46, r_MFl_readLine_47, r_MFl_readLine_48, r_MFl_readLine_51, r_MFl_readLine_52, r_MFl_readLine_55, r_MFl_readLine_56, sL_0, sL_1, sL_2, mk_i, mk_r, mk_f, mk_n, mk_u, mk_l, List.set_cons_succ, List.set_cons_zero, Nat.reduceAdd, ckS_0, ckS_1, ckS_2, ckS_3, ckS_4, Option.bind_some, Option.isSome_some, psh, if_true, if_false, i10, not_true_eq_false, not_false_eq_true, Bool.false_eq_true, and_self, and_true, true_and, eq_self, f0, qI_1_1, qI_1_2, qR_1_0, qRd_1_0, qO_1, e1, z1, sk, cbe, ea1, e2, ea2, z2, or_true]
      rw [hS', hT']
      refine ⟨_, _, h2, run, ⟨by simp only [List.length_append, List.length_singleton]; omega, g2⟩, fun hn => ?_, fun hf => ?_⟩
      · obtain ⟨rfl, q2, rfl, hq2, code2, m3, m4⟩ := g3 hn
        have z2 : ¬ nI q2 = -1 := nI_nm (by rw [List.length_append] at hq2; omega)
        obtain ⟨_, _, _, _, _, _, t8⟩ := Gd_ei hT _ P2
        obtain ⟨t9, t10, _⟩ := t8 hn
        have t9 : (eiS mu (hS (eiS mu s))).2.2.1 = (eiS mu s).2.2.1 := t9
        refine ⟨if_neg z2, rfl, by omega, by omega, code1 ++ code2, code1.length, ?_, .inr ⟨Sem_pos m2, code1, code2, N1, N2, q1, q2, rfl, rfl, rfl, m2, ?_⟩, ?_⟩
        · rw [m3]
          show (eiS mu s).2.2.2 ++ code2 = _
          rw [m1, List.append_assoc]
        · rw [List.length_append, List.length_append, List.length_singleton, Nat.add_assoc] at m4
          exact m4
        · rw [m1, List.length_append]
      · obtain ⟨k1, k2⟩ := g4 hf
        refine ⟨k1, ?_⟩
        by_cases z2 : p2 = -1
        · exact .inl (if_pos z2)
        · exact .inr ⟨if_neg z2, k2.resolve_left z2⟩
    · have cc : ¬ (noF (eiS mu s) && decide (bt mu (eiS mu s).1 = 63)) = true := by rw [c, decide_eq_false c63]; decide
      have cbe : ¬ cb mu (eiS mu s).1 = 63 := fun q => c63 ((cb_k hR (by decide)).mp q)
      have ea2 := e_app (X := X) (d := d + 67) (mu := mu) (la := la) (ro := ro) (et := et) (P := P ++ N1) (h := (eiS mu s).1) (x := 4) (l := nI q1) (r := -1) qa (by omega)
      have hS' : lnS mu s = eiS mu s := by unfold lnS; rw [if_neg cc]
      have hT' : teS mu s = s.2.2.2.length := by unfold teS; rw [if_neg cc]
      rw [hS', hT']
      refine ⟨N1 ++ [(4, nI q1, -1, none)], 1, (eiS mu s).1, ?_, ⟨by rw [List.length_append, List.length_singleton]; omega, b2⟩, fun _ => ⟨rfl, rfl, by omega, r10, code1, 0, m1, .inl ⟨rfl, N1, q1, rfl, m2⟩, rfl⟩, fun hf => absurd (c.symm.trans hf) (by decide)⟩
      rw [← List.append_assoc]
      simp only [r_MFl_readLine_0, r_MFl_readLine_1, r_MFl_readLine_1n, r_MFl_readLine_2, r_MFl_readLine_3, r_MFl_readLine_4, r_MFl_readLine_7, r_MFl_readLine_8, r_MFl_readLine_9, r_MFl_readLine_10, r_MFl_readLine_13, r_MFl_readLine_13n, r_MFl_readLine_14, r_MFl_readLine_16, r_MFl_readLine_19, r_MFl_readLine_22, r_MFl_readLine_23, r_MFl_readLine_24, r_MFl_readLine_25, r_MFl_readLine_26, r_MFl_readLine_29, r_MFl_readLine_30, r_MFl_readLine_31, r_MFl_readLine_31n, r_MFl_readLine_32, r_MFl_readLine_33, r_MFl_readLine_34, r_MFl_readLine_37, r_MFl_readLine_38, r_MFl_readLine_39, r_MFl_readLine_40, r_MFl_readLine_41, r_MFl_readLine_42, r_MFl_readLine_45, r_MFl_readLine_46, r_MFl_readLine_47, r_MFl_readLine_48, r_MFl_readLine_51, r_MFl_readLine_52, r_MFl_readLine_55, r_MFl_readLine_56, sL_0, sL_1, sL_2, mk_i, mk_r, mk_f, mk_n, mk_u, mk_l, List.set_cons_succ, List.set_cons_zero, Nat.reduceAdd, ckS_0, ckS_1, ckS_2, ckS_3, ckS_4, Option.bind_some, Option.isSome_some, psh, if_true, if_false, i10, not_true_eq_false, not_false_eq_true, Bool.false_eq_true, and_self, and_true, true_and, eq_self, f0, qI_1_1, qI_1_2, qR_1_0, qRd_1_0, qO_1, e1, z1, sk, cbe, ea2, or_true]
  · have cc : ¬ (noF (eiS mu s) && decide (bt mu (eiS mu s).1 = 63)) = true := fun q => c (by rw [Bool.and_eq_true] at q; exact q.1)
    have hS' : lnS mu s = eiS mu s := by unfold lnS; rw [if_neg cc]
    obtain ⟨k1, k2⟩ := b4 (Bool.eq_false_iff.mpr c)
    have ea2 := e_app (X := X) (d := d + 67) (mu := mu) (la := la) (ro := ro) (et := et) (P := P ++ N1) (h := h1) (x := 4) (l := p1) (r := -1) qa (by omega)
    rw [hS']
    by_cases z1 : p1 = -1
    · subst z1
      refine ⟨N1 ++ [(4, -1, -1, none)], 0, h1, ?_, ⟨by rw [List.length_append, List.length_singleton]; omega, b2⟩, fun hn => absurd hn c, fun _ => ⟨k1, .inl rfl⟩⟩
      rw [← List.append_assoc]
      simp only [r_MFl_readLine_0, r_MFl_readLine_1, r_MFl_readLine_1n, r_MFl_readLine_2, r_MFl_readLine_3, r_MFl_readLine_4, r_MFl_readLine_7, r_MFl_readLine_8, r_MFl_readLine_9, r_MFl_readLine_10, r_MFl_readLine_13, r_MFl_readLine_13n, r_MFl_readLine_14, r_MFl_readLine_16, r_MFl_readLine_19, r_MFl_readLine_22, r_MFl_readLine_23, r_MFl_readLine_24, r_MFl_readLine_25, r_MFl_readLine_26, r_MFl_readLine_29, r_MFl_readLine_30, r_MFl_readLine_31, r_MFl_readLine_31n, r_MFl_readLine_32, r_MFl_readLine_33, r_MFl_readLine_34, r_MFl_readLine_37, r_MFl_readLine_38, r_MFl_readLine_39, r_MFl_readLine_40, r_MFl_readLine_41, r_MFl_readLine_42, r_MFl_readLine_45, r_MFl_readLine_46, r_MFl_readLine_47, r_MFl_readLine_48, r_MFl_readLine_51, r_MFl_readLine_52, r_MFl_readLine_55, r_MFl_readLine_56, sL_0, sL_1, sL_2, mk_i, mk_r, mk_f, mk_n, mk_u, mk_l, List.set_cons_succ, List.set_cons_zero, Nat.reduceAdd, ckS_0, ckS_1, ckS_2, ckS_3, ckS_4, Option.bind_some, Option.isSome_some, psh, if_true, if_false, i10, not_true_eq_false, not_false_eq_true, Bool.false_eq_true, and_self, and_true, true_and, eq_self, f0, qI_1_1, qI_1_2, qR_1_0, qRd_1_0, qO_1, e1, ea2, true_or]
    · have g := k2.resolve_left z1
      have cbe : ¬ cb mu h1 = 63 := fun q => by
        rw [cb_d hR g] at q
        rw [q] at g
        exact absurd (of_decide_eq_true g) (by decide)
      refine ⟨N1 ++ [(4, p1, -1, none)], 1, h1, ?_, ⟨by rw [List.length_append, List.length_singleton]; omega, b2⟩, fun hn => absurd hn c, fun _ => ⟨k1, .inr ⟨rfl, g⟩⟩⟩
      rw [← List.append_assoc]
      simp only [r_MFl_readLine_0, r_MFl_readLine_1, r_MFl_readLine_1n, r_MFl_readLine_2, r_MFl_readLine_3, r_MFl_readLine_4, r_MFl_readLine_7, r_MFl_readLine_8, r_MFl_readLine_9, r_MFl_readLine_10, r_MFl_readLine_13, r_MFl_readLine_13n, r_MFl_readLine_14, r_MFl_readLine_16, r_MFl_readLine_19, r_MFl_readLine_22, r_MFl_readLine_23, r_MFl_readLine_24, r_MFl_readLine_25, r_MFl_readLine_26, r_MFl_readLine_29, r_MFl_readLine_30, r_MFl_readLine_31, r_MFl_readLine_31n, r_MFl_readLine_32, r_MFl_readLine_33, r_MFl_readLine_34, r_MFl_readLine_37, r_MFl_readLine_38, r_MFl_readLine_39, r_MFl_readLine_40, r_MFl_readLine_41, r_MFl_readLine_42, r_MFl_readLine_45, r_MFl_readLine_46, r_MFl_readLine_47, r_MFl_readLine_48, r_MFl_readLine_51, r_MFl_readLine_52, r_MFl_readLine_55, r_MFl_readLine_56, sL_0, sL_1, sL_2, mk_i, mk_r, mk_f, mk_n, mk_u, mk_l, List.set_cons_succ, List.set_cons_zero, Nat.reduceAdd, ckS_0, ckS_1, ckS_2, ckS_3, ckS_4, Option.bind_some, Option.isSome_some, psh, if_true, if_false, i10, not_true_eq_false, not_false_eq_true, Bool.false_eq_true, and_self, and_true, true_and, eq_self, f0, qI_1_1, qI_1_2, qR_1_0, qRd_1_0, qO_1, e1, z1, sk, cbe, ea2, or_true]
theorem rl_stop {D : Nat} {i : Int32} (hR : RT mu) (ha : 49 ≤ a) (hh : h ≤ 120) : Rr X (D + 1) MFl_readFrom 9 [.ref a, .ref 1, .int 0, .int i] [] (Wd (tp (fm mu a (P)) (h)) la ro et) = some (some (.int (if h = Tt mu then 1 else 0)), (Wd (tp (fm mu a (P)) (h)) la ro et)) := by
  have e := w_atEnd (X := X) (d := D) (la := la) (ro := ro) (et := et) (P := P) hR ha hh
  rw [r_MFl_readFrom_9]
  by_cases c : h = Tt mu
  · rw [if_pos c] at e ⊢
    simp only [r_MFl_readFrom_10, r_MFl_readFrom_12, r_MFl_readFrom_15, r_MFl_readFrom_16, r_MFl_readFrom_42, r_MFl_readFrom_42n, r_MFl_readFrom_43, r_MFl_readFrom_46, sL_0, sL_1, sL_2, mk_i, mk_r, mk_f, mk_n, mk_u, mk_l, List.set_cons_succ, List.set_cons_zero, Nat.reduceAdd, ckS_0, ckS_1, ckS_2, ckS_3, ckS_4, Option.bind_some, Option.isSome_some, psh, if_true, if_false, i10, not_true_eq_false, not_false_eq_true, Bool.false_eq_true, and_self, and_true, true_and, eq_self, qI_1_1, qI_1_2, qR_1_0, qRd_1_0, qO_1, e, or_true, ite_self]
  · rw [if_neg c] at e ⊢
    simp only [r_MFl_readFrom_10, r_MFl_readFrom_12, r_MFl_readFrom_15, r_MFl_readFrom_16, r_MFl_readFrom_42, r_MFl_readFrom_42n, r_MFl_readFrom_43, r_MFl_readFrom_46, sL_0, sL_1, sL_2, mk_i, mk_r, mk_f, mk_n, mk_u, mk_l, List.set_cons_succ, List.set_cons_zero, Nat.reduceAdd, ckS_0, ckS_1, ckS_2, ckS_3, ckS_4, Option.bind_some, Option.isSome_some, psh, if_true, if_false, i10, not_true_eq_false, not_false_eq_true, Bool.false_eq_true, and_self, and_true, true_and, eq_self, qI_1_1, qI_1_2, qR_1_0, qRd_1_0, qO_1, e, true_or, ite_self]
/-- how the reading of a floor's text ends: from line i on, at s; ls stand -/
abbrev OcF (mu : Mu) (a : Nat) (la : La) (ro : Ro) (et : Nat → Option va_E) (k i : Nat) (s : PS) (ls : List Ln) (res : Res) : Prop := ∃ (Q : List Pt) (b : Int32) (h : Nat), res = some (some (.int b), (Wd (tp (fm mu a (Q)) (h)) la ro et)) ∧ Q.length ≤ 121 ∧ h ≤ 120 ∧ (noF (endS mu (rdS mu k (lnS mu s))) = true → b = 1 ∧ ∃ ls', Q = ptL ls' ∧ (endS mu (rdS mu k (lnS mu s))).2.2.2 = cdL ls' ∧ lnsOkC 0 ls' ∧ ∀ m, bt m = bt mu → rowsOk m 244 0 0 ls → rowsOk (rdL k (lnF m i s).1 (i + 1) (lnF m i s).2).1 244 0 0 ls' ∧ ls'.length = (rdL k (lnF m i s).1 (i + 1) (lnF m i s).2).2.2) ∧ (noF (endS mu (rdS mu k (lnS mu s))) = false → b = 0 ∧ (endS mu (rdS mu k (lnS mu s))).2.1 = some h)
set_option maxHeartbeats 4000000 in
theorem rl_loop (hR : RT mu) (qa : flA a) (d : Nat) : ∀ (k i : Nat) (s : PS) (ls : List Ln), Pre mu 7 s → s.2.2.1 = 0 → (ptL ls).length ≤ s.1 → 2 * i ≤ s.1 → ls.length = i → s.2.2.2 = cdL ls → lnsOkC 0 ls → Tt mu - s.1 < k → OcF mu a la ro et k i s ls (Rr X (d + 69) MFl_readFrom 9 [.ref a, .ref 1, .int 1, .int (nI i)] [] (Wd (tp (fm mu a (ptL ls)) (s.1)) la ro et)) := by
  have hT := RT_M hR
  have hT2 := Tt_le hT
  have ha := qa.1.2.2
  have f0 := qa.1.1
  intro k
  induction k with
  | zero => intro i s ls _ _ _ _ _ _ _ h; exact absurd h (by omega)
  | succ k ih =>
    intro i s ls h0 ho hP hi l1 l2 l3 hk
    have hs120 : s.1 ≤ 120 := by have := h0.2.1; omega
    obtain ⟨N, b, h, e, ⟨b1, b2⟩, b3, b4⟩ := e_readLine (X := X) (la := la) (ro := ro) (et := et) hR qa d h0 ho hP
    have z : ¬ (120 : Int32) < nI i := nI_nlt (a := 120) (b := i) (by omega) (by omega)
    have L := LI_ln (n := i) hT h0 hi
    rw [lnF_S] at L
    have sk := w_skip (X := X) (d := d + 67) (la := la) (ro := ro) (et := et) (P := ptL ls ++ N) (x := 59) hR ha (show h ≤ 120 by omega)
    have st := fun x => rl_stop (X := X) (D := d + 68) (la := la) (ro := ro) (et := et) (i := x) (P := ptL ls ++ N) hR ha (show h ≤ 120 by omega)
    have hq : (ptL ls ++ N).length ≤ 121 := by rw [List.length_append]; omega
    have er : ∀ m, bt m = bt mu → rdL (k + 1) (lnF m i s).1 (i + 1) (lnF m i s).2 = if (noF (lnS mu s) && decide (bt mu (lnS mu s).1 = 59)) = true then rdL k (lnF (lnF m i s).1 (i + 1) (hS (lnS mu s))).1 (i + 1 + 1) (lnF (lnF m i s).1 (i + 1) (hS (lnS mu s))).2 else ((lnF m i s).1, lnS mu s, i + 1) := fun m hb => by
      have e2 : (lnF m i s).2 = lnS mu s := lnF_S.trans (lnS_c hb)
      have hb1 : bt (lnF m i s).1 = bt mu := lnF_bt.trans hb
      rw [rdL, e2, hb1]
    by_cases c : noF (lnS mu s) = true
    · obtain ⟨rfl, rfl, c1, c2, code, t, c3, c4, c5⟩ := b3 c
      have L2 := L.2.2.2.2.2 c
      have ls2 : (ls ++ [((code, t, N) : Ln)]).length = i + 1 := by rw [List.length_append, l1]; rfl
      have p2 : ptL (ls ++ [((code, t, N) : Ln)]) = ptL ls ++ N := by rw [ptL_a]; show ptL ls ++ (N ++ []) = _; rw [List.append_nil]
      have d2 : (lnS mu s).2.2.2 = cdL (ls ++ [((code, t, N) : Ln)]) := by rw [cdL_a, c3, l2]; show _ = cdL ls ++ (code ++ []); rw [List.append_nil]
      have o2 : lnsOkC 0 (ls ++ [((code, t, N) : Ln)]) := lnsOkC_a ls 0 l3 (by rw [Nat.zero_add]; exact c4)
      have w2 : ∀ m, bt m = bt mu → rowsOk m 244 0 0 ls → rowsOk (lnF m i s).1 244 0 0 (ls ++ [((code, t, N) : Ln)]) := fun m hb l4 => by
        have e95 := lnF_95 (mu := m) (n := i) (s := s)
        rw [teS_c hb, lnS_c hb] at e95
        refine rowsOk_a ls 0 0 (rowsOk_c ls 0 0 (fun j hj => lnF_lo (by omega)) l4) ?_
        rw [Nat.zero_add, Nat.zero_add, l1, ← l2]
        refine ⟨e95.1.trans (by rw [c5]), e95.2.trans ?_⟩
        rw [c3, List.length_append]
      by_cases c59 : bt mu (lnS mu s).1 = 59
      · have cc : (noF (lnS mu s) && decide (bt mu (lnS mu s).1 = 59)) = true := by rw [c, decide_eq_true c59]; rfl
        have cbe : cb mu (lnS mu s).1 = 59 := (cb_k hR (by decide)).mpr c59
        have hlt := bt_lt (mu := mu) (k := (lnS mu s).1) (by rw [c59]; decide)
        obtain ⟨Q, b', h', n1, n2, n3, n4, n5⟩ := ih (i + 1) (hS (lnS mu s)) (ls ++ [((code, t, N) : Ln)]) ⟨c, by show (lnS mu s).1 + 1 ≤ _; omega, L2.1, by show (lnS mu s).2.2.2.length ≤ (lnS mu s).1 + 1; omega, by show 7 ≤ 7 + _; omega⟩ c1 (by rw [p2, List.length_append]; show _ ≤ (lnS mu s).1 + 1; omega) (by show 2 * (i + 1) ≤ (lnS mu s).1 + 1; omega) ls2 d2 o2 (by show Tt mu - ((lnS mu s).1 + 1) < k; omega)
        rw [p2] at n1
        have er2 : rdS mu (k + 1) (lnS mu s) = rdS mu k (lnS mu (hS (lnS mu s))) := by rw [rdS, if_pos cc]
        unfold OcF
        rw [er2]
        refine ⟨Q, b', h', ?_, n2, n3, fun hn => ?_, n5⟩
        · rw [← n1, r_MFl_readFrom_9]
          simp only [r_MFl_readFrom_10, r_MFl_readFrom_12, r_MFl_readFrom_15, r_MFl_readFrom_16, r_MFl_readFrom_19, r_MFl_readFrom_20, r_MFl_readFrom_20n, r_MFl_readFrom_21, r_MFl_readFrom_24, r_MFl_readFrom_27, r_MFl_readFrom_28, r_MFl_readFrom_29, r_MFl_readFrom_29n, r_MFl_readFrom_30, r_MFl_readFrom_32, r_MFl_readFrom_35, r_MFl_readFrom_36, r_MFl_readFrom_39, sL_0, sL_1, sL_2, mk_i, mk_r, mk_f, mk_n, mk_u, mk_l, List.set_cons_succ, List.set_cons_zero, Nat.reduceAdd, ckS_0, ckS_1, ckS_2, ckS_3, ckS_4, Option.bind_some, Option.isSome_some, psh, if_true, if_false, i10, not_true_eq_false, not_false_eq_true, Bool.false_eq_true, and_self, and_true, true_and, eq_self, qI_1_1, qI_1_2, qR_1_0, qRd_1_0, qO_1, z, f0, e, sk, cbe, nI_1]
          rfl
        · obtain ⟨v1, ls', v2, v3, v4, v5⟩ := n4 hn
          refine ⟨v1, ls', v2, v3, v4, fun m hb l4 => ?_⟩
          rw [er m hb, if_pos cc]
          exact v5 _ (lnF_bt.trans hb) (w2 m hb l4)
      · have cc : ¬ (noF (lnS mu s) && decide (bt mu (lnS mu s).1 = 59)) = true := by rw [c, decide_eq_false c59]; decide
        have cbe : ¬ cb mu (lnS mu s).1 = 59 := fun q => c59 ((cb_k hR (by decide)).mp q)
        have run : Rr X (d + 69) MFl_readFrom 9 [.ref a, .ref 1, .int 1, .int (nI i)] [] (Wd (tp (fm mu a (ptL ls)) (s.1)) la ro et) = some (some (.int (if (lnS mu s).1 = Tt mu then 1 else 0)), (Wd (tp (fm mu a (ptL ls ++ N)) ((lnS mu s).1)) la ro et)) := by
          rw [r_MFl_readFrom_9]
          simp only [r_MFl_readFrom_10, r_MFl_readFrom_12, r_MFl_readFrom_15, r_MFl_readFrom_16, r_MFl_readFrom_19, r_MFl_readFrom_20, r_MFl_readFrom_20n, r_MFl_readFrom_21, r_MFl_readFrom_24, r_MFl_readFrom_27, r_MFl_readFrom_28, r_MFl_readFrom_29, r_MFl_readFrom_29n, r_MFl_readFrom_30, r_MFl_readFrom_32, r_MFl_readFrom_35, r_MFl_readFrom_36, r_MFl_readFrom_39, sL_0, sL_1, sL_2, mk_i, mk_r, mk_f, mk_n, mk_u, mk_l, List.set_cons_succ, List.set_cons_zero, Nat.reduceAdd, ckS_0, ckS_1, ckS_2, ckS_3, ckS_4, Option.bind_some, Option.isSome_some, psh, if_true, if_false, i10, not_true_eq_false, not_false_eq_true, Bool.false_eq_true, and_self, and_true, true_and, eq_self, qI_1_1, qI_1_2, qR_1_0, qRd_1_0, qO_1, z, f0, e, sk, cbe, nI_1, st]
        have er2 : rdS mu (k + 1) (lnS mu s) = lnS mu s := by rw [rdS, if_neg cc]
        unfold OcF
        rw [er2]
        refine ⟨ptL ls ++ N, _, _, run, hq, by omega, ?_, ?_⟩
        · unfold endS
          by_cases q : (lnS mu s).1 < Tt mu
          · rw [if_pos (by rw [c, decide_eq_true q]; rfl)]
            intro hn
            rw [wr_noF] at hn
            cases hn
          · rw [if_neg (by rw [c, decide_eq_false q]; decide)]
            refine fun _ => ⟨if_pos (by omega), ls ++ [(code, t, N)], p2.symm, d2, o2, fun m hb l4 => ?_⟩
            rw [er m hb, if_neg cc]
            exact ⟨w2 m hb l4, ls2⟩
        · unfold endS
          by_cases q : (lnS mu s).1 < Tt mu
          · rw [if_pos (by rw [c, decide_eq_true q]; rfl)]
            refine fun _ => ⟨if_neg (by omega), ?_⟩
            unfold wrS
            rw [noF_n c]
          · rw [if_neg (by rw [c, decide_eq_false q]; decide)]
            intro hf
            exact absurd (c.symm.trans hf) (by decide)
    · have c' : noF (lnS mu s) = false := Bool.eq_false_iff.mpr c
      obtain ⟨k1, k2⟩ := b4 c'
      have er2 : rdS mu (k + 1) (lnS mu s) = lnS mu s := by rw [rdS, if_neg (by rw [c', Bool.false_and]; decide)]
      have en : endS mu (lnS mu s) = lnS mu s := by
        unfold endS
        rw [if_neg (by rw [c', Bool.false_and]; decide)]
      have run : Rr X (d + 69) MFl_readFrom 9 [.ref a, .ref 1, .int 1, .int (nI i)] [] (Wd (tp (fm mu a (ptL ls)) (s.1)) la ro et) = some (some (.int 0), (Wd (tp (fm mu a (ptL ls ++ N)) (h)) la ro et)) := by
        rcases k2 with rfl | ⟨rfl, g⟩
        · rw [r_MFl_readFrom_9]
          simp only [r_MFl_readFrom_10, r_MFl_readFrom_12, r_MFl_readFrom_15, r_MFl_readFrom_16, r_MFl_readFrom_19, r_MFl_readFrom_20, r_MFl_readFrom_20n, r_MFl_readFrom_21, r_MFl_readFrom_24, r_MFl_readFrom_27, r_MFl_readFrom_28, sL_0, sL_1, sL_2, mk_i, mk_r, mk_f, mk_n, mk_u, mk_l, List.set_cons_succ, List.set_cons_zero, Nat.reduceAdd, ckS_0, ckS_1, ckS_2, ckS_3, ckS_4, Option.bind_some, Option.isSome_some, psh, if_true, if_false, i10, not_true_eq_false, not_false_eq_true, Bool.false_eq_true, and_self, and_true, true_and, eq_self, qI_1_1, qI_1_2, qR_1_0, qRd_1_0, qO_1, z, f0, e, true_or]
        · have cbe : ¬ cb mu h = 59 := fun q => by
            rw [cb_d hR g] at q
            rw [q] at g
            exact absurd (of_decide_eq_true g) (by decide)
          have ne : ¬ h = Tt mu := fun q => by have := isD_lt g; omega
          rw [r_MFl_readFrom_9]
          simp only [r_MFl_readFrom_10, r_MFl_readFrom_12, r_MFl_readFrom_15, r_MFl_readFrom_16, r_MFl_readFrom_19, r_MFl_readFrom_20, r_MFl_readFrom_20n, r_MFl_readFrom_21, r_MFl_readFrom_24, r_MFl_readFrom_27, r_MFl_readFrom_28, r_MFl_readFrom_29, r_MFl_readFrom_29n, r_MFl_readFrom_30, r_MFl_readFrom_32, r_MFl_readFrom_35, r_MFl_readFrom_36, r_MFl_readFrom_39, sL_0, sL_1, sL_2, mk_i, mk_r, mk_f, mk_n, mk_u, mk_l, List.set_cons_succ, List.set_cons_zero, Nat.reduceAdd, ckS_0, ckS_1, ckS_2, ckS_3, ckS_4, Option.bind_some, Option.isSome_some, psh, if_true, if_false, i10, not_true_eq_false, not_false_eq_true, Bool.false_eq_true, and_self, and_true, true_and, eq_self, qI_1_1, qI_1_2, qR_1_0, qRd_1_0, qO_1, z, f0, e, sk, cbe, nI_1, st, ne]
      unfold OcF
      rw [er2, en]
      exact ⟨ptL ls ++ N, 0, h, run, hq, by omega, fun hn => absurd hn c, fun _ => ⟨rfl, k1⟩⟩
theorem rdL_Tt : ∀ (k : Nat) (m : Mu) (n : Nat) (s : PS), Tt (rdL k m n s).1 = Tt m
  | 0, _, _, _ => rfl
  | k + 1, m, n, s => by
    rw [rdL]
    split
    · rw [rdL_Tt k, lnF_Tt]
    · rfl
theorem up_0 (ha : 49 ≤ a) : up2 (tp mu 0) a 4 0 = tp (fm mu a []) 0 := by
  refine funext fun c => funext fun j => ?_
  have a1 : ¬ a = 1 := by omega
  simp only [up2_e, tp, fm]
  by_cases h0 : c = a
  · subst h0
    by_cases j4 : j = 4
    · subst j4; simp [a1]; rfl
    · simp [j4, a1]
  · simp [h0]
theorem rtS_e : rtS mu = endS mu (rdS mu 121 (lnS mu (0, none, 0, []))) := by
  have hb : bt (m0 mu) = bt mu := bt_up (by decide) (by decide)
  have e1 : Tt (rdF mu).1 = Tt mu := (rdL_Tt _ _ _ _).trans (lnF_Tt.trans (Tt_up (by decide)))
  have e2 : (rdF mu).2.1 = rdS mu 121 (lnS mu (0, none, 0, [])) := by
    unfold rdF
    rw [rdL_S _ _ _ _ (lnF_bt.trans hb), lnF_S, lnS_c hb]
  unfold rtS
  rw [e2]
  unfold endS
  rw [e1]
theorem e_readFrom (hR : RT mu) (qa : flA a) (d : Nat) : ∃ (Q : List Pt) (b : Int32) (h : Nat), Rr X (d + 69) MFl_readFrom 0 [.ref a, .ref 1, mkU, mkU] [] (Wd (tp mu 0) la ro et) = some (some (.int b), (Wd (tp (fm mu a (Q)) (h)) la ro et)) ∧ Q.length ≤ 121 ∧ h ≤ 120 ∧ (noF (rtS mu) = true → b = 1 ∧ ∃ ls, Q = ptL ls ∧ (rtS mu).2.2.2 = cdL ls ∧ lnsOkC 0 ls ∧ ∀ m, bt m = bt mu → rowsOk (rdF m).1 244 0 0 ls ∧ ls.length = (rdF m).2.2) ∧ (noF (rtS mu) = false → b = 0 ∧ (rtS mu).2.1 = some h) := by
  have hT := RT_M hR
  have hT2 := Tt_le hT
  obtain ⟨Q, b, h, e, q1, q2, q3, q4⟩ := rl_loop (X := X) (la := la) (ro := ro) (et := et) hR qa d 121 0 (0, none, 0, []) [] ⟨rfl, Nat.zero_le _, by decide, Nat.le_refl _, by decide⟩ rfl (Nat.le_refl _) (Nat.le_refl _) rfl rfl trivial (by omega)
  rw [rtS_e]
  refine ⟨Q, b, h, ?_, q1, q2, fun hn => ?_, q4⟩
  · simp only [r_MFl_readFrom_0, r_MFl_readFrom_1, r_MFl_readFrom_2, r_MFl_readFrom_5, r_MFl_readFrom_6, r_MFl_readFrom_7, r_MFl_readFrom_8, sL_0, sL_1, sL_2, mk_i, mk_r, mk_f, mk_n, mk_u, mk_l, List.set_cons_succ, List.set_cons_zero, Nat.reduceAdd, ckS_0, ckS_1, ckS_2, ckS_3, ckS_4, Option.bind_some, Option.isSome_some, psh, if_true, if_false, qa.1.2.1, up_0 qa.1.2.2]
    exact e
  · obtain ⟨v1, ls, v2, v3, v4, v5⟩ := q3 hn
    exact ⟨v1, ls, v2, v3, v4, fun m hb => v5 (m0 m) ((bt_up (by decide) (by decide)).trans hb) trivial⟩
end
