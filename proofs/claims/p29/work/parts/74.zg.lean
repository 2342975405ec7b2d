-- ===== by hand: the reader is these functions
section
variable {X : Tok} {mu : Mu} {la : La} {ro : Ro} {et : Nat → Option va_E} {s : PS} {k : Nat} {sub : PS → PS}
theorem Gd_op (hT : tOK mu) : ∀ k, Gd mu k (opN mu k)
  | 0 => fun s h0 => absurd h0.2.2.2.2 (by have := h0.2.2.1; omega)
  | k + 1 => fun s h0 => by
    have ih := Gd_op hT k
    have ihE := (Gd_lv5 ih).2.2.2.2
    obtain ⟨q1, q2, q3, q4, q5⟩ := h0
    rw [opN]
    unfold opd
    have hin : s.2.2.1 ≠ 6 → bt mu s.1 ≠ -1 → Pre mu k (hS (oS s (s.2.2.1 + 1))) := fun h1 h2 => by
      have := bt_lt h2
      exact ⟨q1, by show s.1 + 1 ≤ _; omega, by show s.2.2.1 + 1 ≤ 6; omega, by show s.2.2.2.length ≤ s.1 + 1; omega, by show 7 ≤ k + (s.2.2.1 + 1); omega⟩
    have hun : ∀ (r : PS) (a : Int32), (a = 3 ∨ a = 4) → Rl mu (hS (oS s (s.2.2.1 + 1))) r → Rl mu s (adS (oS r (r.2.2.1 - 1)) a 0) := by
      rintro r a ha ⟨⟨r1, r2⟩, ⟨r3, r4⟩, r5, code, r6, r7, r8⟩
      have r1 : s.1 + 1 ≤ r.1 := r1
      have r3 : s.2.2.1 + 1 ≤ r.2.2.1 := r3
      have r6 : r.2.2.2 = s.2.2.2 ++ code := r6
      have r7 : code.length + (s.1 + 1) ≤ r.1 + (if noF r = true then 0 else 1) := r7
      refine ⟨⟨by show s.1 ≤ r.1; omega, r2⟩, ⟨by show s.2.2.1 ≤ r.2.2.1 - 1; omega, by show r.2.2.1 - 1 ≤ 6; omega⟩, r5, code ++ [(a, 0)], ?_, ?_, fun hn => ?_⟩
      · show r.2.2.2 ++ [(a, 0)] = _
        rw [r6, List.append_assoc]
      · show (code ++ [(a, 0)]).length + s.1 ≤ r.1 + (if noF r = true then 0 else 1)
        rw [List.length_append, List.length_singleton]
        omega
      · obtain ⟨t1, t2, t3⟩ := r8 hn
        have t1 : r.2.2.1 = s.2.2.1 + 1 := t1
        refine ⟨by show r.2.2.1 - 1 = _; omega, by show s.1 < r.1; omega, fun n hl => ?_⟩
        rw [List.length_append, List.length_singleton] at hl
        rw [dpL_a, t3 n (by omega), Option.bind_some]
        show (dp1 a 0 (n + 1)).bind (dpL []) = _
        unfold dp1
        rw [if_neg (by rcases ha with rfl | rfl <;> decide), if_neg (by rcases ha with rfl | rfl <;> decide), if_pos ha, if_pos (by omega)]
        rfl
    by_cases c1 : 0 ≤ nmF (bt mu s.1)
    · rw [if_pos c1]
      obtain ⟨n1, n2⟩ := nm_in c1
      have hlt := bt_lt n1
      refine ⟨⟨by show s.1 ≤ s.1 + 1; omega, by show s.1 + 1 ≤ _; omega⟩, ⟨Nat.le_refl _, q3⟩, fun j hj => ?_, [(2, nmF (bt mu s.1))], rfl, ?_, fun _ => ⟨rfl, by show s.1 < s.1 + 1; omega, fun m hm => ?_⟩⟩
      · have : s.2.1 = some j := hj
        rw [noF_n q1] at this; cases this
      · show 1 + s.1 ≤ s.1 + 1 + _
        omega
      · rw [List.length_singleton] at hm
        show (dp1 2 (nmF (bt mu s.1)) m).bind (dpL []) = _
        unfold dp1
        rw [if_neg (by decide), if_pos rfl, if_pos ⟨by omega, n2⟩]
        rfl
    rw [if_neg c1]
    by_cases c2 : bt mu s.1 = 33
    · rw [if_pos c2]
      by_cases c6 : s.2.2.1 = 6
      · rw [if_pos c6]; exact Rl_wr (k := k + 1) ⟨q1, q2, q3, q4, q5⟩
      · rw [if_neg c6]
        exact hun _ _ (.inl rfl) (ih _ (hin c6 (by rw [c2]; decide)))
    rw [if_neg c2]
    by_cases c3 : bt mu s.1 = 45
    · rw [if_pos c3]
      by_cases c6 : s.2.2.1 = 6
      · rw [if_pos c6]; exact Rl_wr (k := k + 1) ⟨q1, q2, q3, q4, q5⟩
      · rw [if_neg c6]
        exact hun _ _ (.inr rfl) (ih _ (hin c6 (by rw [c3]; decide)))
    rw [if_neg c3]
    by_cases c4 : bt mu s.1 = 40
    · rw [if_pos c4]
      by_cases c6 : s.2.2.1 = 6
      · rw [if_pos c6]; exact Rl_wr (k := k + 1) ⟨q1, q2, q3, q4, q5⟩
      · rw [if_neg c6]
        have hr := ihE _ (hin c6 (by rw [c4]; decide))
        generalize lv5 mu (opN mu k) (hS (oS s (s.2.2.1 + 1))) = r at hr
        obtain ⟨⟨r1, r2⟩, ⟨r3, r4⟩, r5, code, r6, r7, r8⟩ := hr
        have r1 : s.1 + 1 ≤ r.1 := r1
        have r3 : s.2.2.1 + 1 ≤ r.2.2.1 := r3
        have r6 : r.2.2.2 = s.2.2.2 ++ code := r6
        have r7 : code.length + (s.1 + 1) ≤ r.1 + (if noF r = true then 0 else 1) := r7
        unfold clS
        by_cases c7 : noF r = true
        · rw [if_pos c7] at r7 ⊢
          obtain ⟨t1, t2, t3⟩ := r8 c7
          have t1 : r.2.2.1 = s.2.2.1 + 1 := t1
          by_cases c8 : bt mu r.1 = 41
          · rw [if_pos c8]
            have hlt := bt_lt (mu := mu) (k := r.1) (by rw [c8]; decide)
            refine ⟨⟨by show s.1 ≤ r.1 + 1; omega, by show r.1 + 1 ≤ _; omega⟩, ⟨by show s.2.2.1 ≤ r.2.2.1 - 1; omega, by show r.2.2.1 - 1 ≤ 6; omega⟩, r5, code, r6, ?_, fun _ => ⟨by show r.2.2.1 - 1 = _; omega, by show s.1 < r.1 + 1; omega, t3⟩⟩
            show code.length + s.1 ≤ r.1 + 1 + _
            omega
          · rw [if_neg c8]
            have e : (wrS r).2.1 = some r.1 := by unfold wrS; rw [noF_n c7]
            refine ⟨⟨by show s.1 ≤ r.1; omega, r2⟩, ⟨by show s.2.2.1 ≤ r.2.2.1; omega, r4⟩, fun j hj => ?_, code, r6, ?_, fun hn => ?_⟩
            · rw [e] at hj; cases hj; exact r2
            · show code.length + s.1 ≤ r.1 + _
              omega
            · rw [noF_s e] at hn; cases hn
        · rw [if_neg c7] at r7 ⊢
          refine ⟨⟨by omega, r2⟩, ⟨by omega, r4⟩, r5, code, r6, ?_, fun hn => absurd hn c7⟩
          rw [if_neg c7]
          omega
    rw [if_neg c4]
    exact Rl_fg (k := k + 1) ⟨q1, q2, q3, q4, q5⟩ hT
theorem fge1 {r : PS} (h : noF r = true) : (0 ≤ fI' r.2.1) = False := by
  rw [noF_n h]
  exact eq_false (by decide)
theorem fge0 {r : PS} (h : ¬ noF r = true) (hb : ∀ j, r.2.1 = some j → j ≤ Tt mu) (hT : tOK mu) : (0 ≤ fI' r.2.1) = True := by
  have := Tt_le hT
  unfold noF at h
  cases e : r.2.1 with
  | none => rw [e] at h; exact absurd rfl h
  | some j => exact eq_true (nI_pos' (by have := hb j e; omega))
theorem flt1 {r : PS} (h : noF r = true) : (fI' r.2.1 < 0) = True := by
  rw [noF_n h]
  exact eq_true (by decide)
theorem flt0 {r : PS} (h : ¬ noF r = true) (hb : ∀ j, r.2.1 = some j → j ≤ Tt mu) (hT : tOK mu) : (fI' r.2.1 < 0) = False := by
  have := fge0 h hb hT
  exact eq_false (fun q => by rw [← Int32.not_le] at q; exact q (of_eq_true this))
theorem ex_product_loop {c : Nat} (hT : tOK mu) (hG : Gd mu k sub) (hsub : ∀ d s, Pre mu k s → Rr X (d + c) MRm_operand 0 [.ref 81, mkU] [] (Wd (pm mu s) la ro et) = some (none, Wd (pm mu (sub s)) la ro et)) (d : Nat) (h0 : Pre mu k s) : ∀ (n : Nat) (r : PS) (l1 : Value) , Rl mu s r → Tt mu - r.1 < n → Rr X (d + c + 1) MRm_product 4 [.ref 81, l1] [] (Wd (pm mu r) la ro et) = some (none, Wd (pm mu (loopJ mu isMu sub n r)) la ro et) := by
  have hT2 := Tt_le hT
  intro n
  induction n with
  | zero => intro r l1 _ h; exact absurd h (by omega)
  | succ n ih =>
    intro r l1 hr hn
    have hl : r.1 ≤ 120 := by have := hr.1.2; omega
    rw [r_MRm_product_4, loopJ]
    by_cases c1 : noF r = true
    · by_cases c2 : isMu (bt mu r.1) = true
      · rw [if_pos (by rw [c1, c2]; rfl)]
        obtain ⟨g1, g2, g3⟩ := Rl_step sg_Mu hG h0 hr c1 c2
        have b1 := (sg_Mu _ c2).2.1
        have nx := ih (adS (sub (hS r)) (bt mu r.1) 0) (.int (bt mu r.1)) g3 (by have : r.1 + 1 ≤ (sub (hS r)).1 := (hG _ g1).1.1; show Tt mu - (sub (hS r)).1 < n; have := g1.2.1; have : r.1 + 1 ≤ Tt mu := this; omega)
        have ea := fun d => e_addStep (X := X) (d := d) (mu := mu) (la := la) (ro := ro) (et := et) (s := sub (hS r)) (a := bt mu r.1) (w := 0) (by omega) b1
        have es := hsub d _ g1
        have b3 := of_decide_eq_true c2
        rcases b3 with b3 | b3 | b3
        · have t : (bt mu r.1 = 42) = True := eq_true b3
          simp only [r_MRm_product_5, r_MRm_product_8, r_MRm_product_11, r_MRm_product_12, r_MRm_product_15, r_MRm_product_17, r_MRm_product_20, r_MRm_product_21, r_MRm_product_24, r_MRm_product_26, r_MRm_product_29, r_MRm_product_30, r_MRm_product_33, r_MRm_product_35, r_MRm_product_38, r_MRm_product_39, r_MRm_product_42, r_MRm_product_43, r_MRm_product_44, r_MRm_product_44i, r_MRm_product_45, r_MRm_product_48, r_MRm_product_49, r_MRm_product_50, r_MRm_product_53, r_MRm_product_54, r_MRm_product_57, r_MRm_product_58, r_MRm_product_59, r_MRm_product_60, r_MRm_product_63, sL_0, sL_1, sL_2, mk_i, mk_r, mk_f, mk_n, mk_u, mk_l, List.set_cons_succ, List.set_cons_zero, Nat.reduceAdd, ckS_0, ckS_1, ckS_2, ckS_3, ckS_4, Option.bind_some, Option.isSome_some, psh, if_true, if_false, i10, not_true_eq_false, not_false_eq_true, Bool.false_eq_true, and_self, and_true, true_and, eq_self, qI_81_0, qI_81_2, qI_81_3, qI_81_9, qI_81_10, qI_81_11, qI_81_12, qI_81_13, qI_81_18, qI_81_19, qI_81_20, qI_81_21, qI_81_29, qI_81_30, qI_81_31, qI_81_32, qI_81_33, qI_81_34, qI_81_35, qI_81_39, qI_81_40, qI_81_41, qI_81_42, qI_81_43, qI_81_44, qI_81_45, qI_81_46, qI_81_47, qI_81_51, qI_81_53, qR_81_1, qRd_81_1, qR_81_4, qRd_81_4, qR_81_5, qRd_81_5, qR_81_6, qRd_81_6, qR_81_7, qRd_81_7, qR_81_8, qRd_81_8, qR_81_14, qRd_81_14, qR_81_15, qRd_81_15, qR_81_16, qRd_81_16, qR_81_17, qRd_81_17, qR_81_22, qRd_81_22, qR_81_23, qRd_81_23, qR_81_24, qRd_81_24, qR_81_25, qRd_81_25, qR_81_26, qRd_81_26, qR_81_27, qRd_81_27, qR_81_28, qRd_81_28, qR_81_36, qRd_81_36, qR_81_37, qRd_81_37, qR_81_38, qRd_81_38, qR_81_48, qRd_81_48, qR_81_49, qRd_81_49, qR_81_50, qRd_81_50, qR_81_52, qRd_81_52, qR_81_54, qRd_81_54, qR_81_55, qRd_81_55, qR_81_56, qRd_81_56, qR_81_57, qRd_81_57, qR_81_58, qRd_81_58, qO_81, pm_19, fge1 c1, e_look hl hT, pm_18, nI_1, up_h, es, ea, t]
          exact nx
        · have f42 : (bt mu r.1 = 42) = False := eq_false (by rw [b3]; decide)
          have t : (bt mu r.1 = 47) = True := eq_true b3
          simp only [r_MRm_product_5, r_MRm_product_8, r_MRm_product_11, r_MRm_product_12, r_MRm_product_15, r_MRm_product_17, r_MRm_product_20, r_MRm_product_21, r_MRm_product_24, r_MRm_product_26, r_MRm_product_29, r_MRm_product_30, r_MRm_product_33, r_MRm_product_35, r_MRm_product_38, r_MRm_product_39, r_MRm_product_42, r_MRm_product_43, r_MRm_product_44, r_MRm_product_44i, r_MRm_product_45, r_MRm_product_48, r_MRm_product_49, r_MRm_product_50, r_MRm_product_53, r_MRm_product_54, r_MRm_product_57, r_MRm_product_58, r_MRm_product_59, r_MRm_product_60, r_MRm_product_63, sL_0, sL_1, sL_2, mk_i, mk_r, mk_f, mk_n, mk_u, mk_l, List.set_cons_succ, List.set_cons_zero, Nat.reduceAdd, ckS_0, ckS_1, ckS_2, ckS_3, ckS_4, Option.bind_some, Option.isSome_some, psh, if_true, if_false, i10, not_true_eq_false, not_false_eq_true, Bool.false_eq_true, and_self, and_true, true_and, eq_self, qI_81_0, qI_81_2, qI_81_3, qI_81_9, qI_81_10, qI_81_11, qI_81_12, qI_81_13, qI_81_18, qI_81_19, qI_81_20, qI_81_21, qI_81_29, qI_81_30, qI_81_31, qI_81_32, qI_81_33, qI_81_34, qI_81_35, qI_81_39, qI_81_40, qI_81_41, qI_81_42, qI_81_43, qI_81_44, qI_81_45, qI_81_46, qI_81_47, qI_81_51, qI_81_53, qR_81_1, qRd_81_1, qR_81_4, qRd_81_4, qR_81_5, qRd_81_5, qR_81_6, qRd_81_6, qR_81_7, qRd_81_7, qR_81_8, qRd_81_8, qR_81_14, qRd_81_14, qR_81_15, qRd_81_15, qR_81_16, qRd_81_16, qR_81_17, qRd_81_17, qR_81_22, qRd_81_22, qR_81_23, qRd_81_23, qR_81_24, qRd_81_24, qR_81_25, qRd_81_25, qR_81_26, qRd_81_26, qR_81_27, qRd_81_27, qR_81_28, qRd_81_28, qR_81_36, qRd_81_36, qR_81_37, qRd_81_37, qR_81_38, qRd_81_38, qR_81_48, qRd_81_48, qR_81_49, qRd_81_49, qR_81_50, qRd_81_50, qR_81_52, qRd_81_52, qR_81_54, qRd_81_54, qR_81_55, qRd_81_55, qR_81_56, qRd_81_56, qR_81_57, qRd_81_57, qR_81_58, qRd_81_58, qO_81, pm_19, fge1 c1, e_look hl hT, pm_18, nI_1, up_h, es, ea, f42, t]
          exact nx
        · have f42 : (bt mu r.1 = 42) = False := eq_false (by rw [b3]; decide)
          have f47 : (bt mu r.1 = 47) = False := eq_false (by rw [b3]; decide)
          have t : (bt mu r.1 = 37) = True := eq_true b3
          simp only [r_MRm_product_5, r_MRm_product_8, r_MRm_product_11, r_MRm_product_12, r_MRm_product_15, r_MRm_product_17, r_MRm_product_20, r_MRm_product_21, r_MRm_product_24, r_MRm_product_26, r_MRm_product_29, r_MRm_product_30, r_MRm_product_33, r_MRm_product_35, r_MRm_product_38, r_MRm_product_39, r_MRm_product_42, r_MRm_product_43, r_MRm_product_44, r_MRm_product_44i, r_MRm_product_45, r_MRm_product_48, r_MRm_product_49, r_MRm_product_50, r_MRm_product_53, r_MRm_product_54, r_MRm_product_57, r_MRm_product_58, r_MRm_product_59, r_MRm_product_60, r_MRm_product_63, sL_0, sL_1, sL_2, mk_i, mk_r, mk_f, mk_n, mk_u, mk_l, List.set_cons_succ, List.set_cons_zero, Nat.reduceAdd, ckS_0, ckS_1, ckS_2, ckS_3, ckS_4, Option.bind_some, Option.isSome_some, psh, if_true, if_false, i10, not_true_eq_false, not_false_eq_true, Bool.false_eq_true, and_self, and_true, true_and, eq_self, qI_81_0, qI_81_2, qI_81_3, qI_81_9, qI_81_10, qI_81_11, qI_81_12, qI_81_13, qI_81_18, qI_81_19, qI_81_20, qI_81_21, qI_81_29, qI_81_30, qI_81_31, qI_81_32, qI_81_33, qI_81_34, qI_81_35, qI_81_39, qI_81_40, qI_81_41, qI_81_42, qI_81_43, qI_81_44, qI_81_45, qI_81_46, qI_81_47, qI_81_51, qI_81_53, qR_81_1, qRd_81_1, qR_81_4, qRd_81_4, qR_81_5, qRd_81_5, qR_81_6, qRd_81_6, qR_81_7, qRd_81_7, qR_81_8, qRd_81_8, qR_81_14, qRd_81_14, qR_81_15, qRd_81_15, qR_81_16, qRd_81_16, qR_81_17, qRd_81_17, qR_81_22, qRd_81_22, qR_81_23, qRd_81_23, qR_81_24, qRd_81_24, qR_81_25, qRd_81_25, qR_81_26, qRd_81_26, qR_81_27, qRd_81_27, qR_81_28, qRd_81_28, qR_81_36, qRd_81_36, qR_81_37, qRd_81_37, qR_81_38, qRd_81_38, qR_81_48, qRd_81_48, qR_81_49, qRd_81_49, qR_81_50, qRd_81_50, qR_81_52, qRd_81_52, qR_81_54, qRd_81_54, qR_81_55, qRd_81_55, qR_81_56, qRd_81_56, qR_81_57, qRd_81_57, qR_81_58, qRd_81_58, qO_81, pm_19, fge1 c1, e_look hl hT, pm_18, nI_1, up_h, es, ea, f42, f47, t]
          exact nx
      · rw [if_neg (by rw [c1, Bool.true_and]; exact c2)]
        have b3 := of_decide_eq_false (Bool.eq_false_iff.mpr c2)
        have f42 : (bt mu r.1 = 42) = False := eq_false (fun h => b3 (.inl h))
        have f47 : (bt mu r.1 = 47) = False := eq_false (fun h => b3 (.inr (.inl h)))
        have f37 : (bt mu r.1 = 37) = False := eq_false (fun h => b3 (.inr (.inr (h))))
        simp only [r_MRm_product_5, r_MRm_product_8, r_MRm_product_11, r_MRm_product_12, r_MRm_product_15, r_MRm_product_17, r_MRm_product_20, r_MRm_product_21, r_MRm_product_24, r_MRm_product_26, r_MRm_product_29, r_MRm_product_30, r_MRm_product_33, r_MRm_product_35, r_MRm_product_38, r_MRm_product_39, r_MRm_product_42, r_MRm_product_43, r_MRm_product_44, r_MRm_product_44i, r_MRm_product_45, r_MRm_product_48, r_MRm_product_49, r_MRm_product_50, r_MRm_product_53, r_MRm_product_54, r_MRm_product_57, r_MRm_product_58, r_MRm_product_59, r_MRm_product_60, r_MRm_product_63, r_MRm_product_66, sL_0, sL_1, sL_2, mk_i, mk_r, mk_f, mk_n, mk_u, mk_l, List.set_cons_succ, List.set_cons_zero, Nat.reduceAdd, ckS_0, ckS_1, ckS_2, ckS_3, ckS_4, Option.bind_some, Option.isSome_some, psh, if_true, if_false, i10, not_true_eq_false, not_false_eq_true, Bool.false_eq_true, and_self, and_true, true_and, eq_self, qI_81_0, qI_81_2, qI_81_3, qI_81_9, qI_81_10, qI_81_11, qI_81_12, qI_81_13, qI_81_18, qI_81_19, qI_81_20, qI_81_21, qI_81_29, qI_81_30, qI_81_31, qI_81_32, qI_81_33, qI_81_34, qI_81_35, qI_81_39, qI_81_40, qI_81_41, qI_81_42, qI_81_43, qI_81_44, qI_81_45, qI_81_46, qI_81_47, qI_81_51, qI_81_53, qR_81_1, qRd_81_1, qR_81_4, qRd_81_4, qR_81_5, qRd_81_5, qR_81_6, qRd_81_6, qR_81_7, qRd_81_7, qR_81_8, qRd_81_8, qR_81_14, qRd_81_14, qR_81_15, qRd_81_15, qR_81_16, qRd_81_16, qR_81_17, qRd_81_17, qR_81_22, qRd_81_22, qR_81_23, qRd_81_23, qR_81_24, qRd_81_24, qR_81_25, qRd_81_25, qR_81_26, qRd_81_26, qR_81_27, qRd_81_27, qR_81_28, qRd_81_28, qR_81_36, qRd_81_36, qR_81_37, qRd_81_37, qR_81_38, qRd_81_38, qR_81_48, qRd_81_48, qR_81_49, qRd_81_49, qR_81_50, qRd_81_50, qR_81_52, qRd_81_52, qR_81_54, qRd_81_54, qR_81_55, qRd_81_55, qR_81_56, qRd_81_56, qR_81_57, qRd_81_57, qR_81_58, qRd_81_58, qO_81, pm_19, fge1 c1, e_look hl hT, f42, f47, f37]
    · rw [if_neg (by rw [Bool.and_eq_true]; exact fun h => c1 h.1)]
      simp only [r_MRm_product_5, r_MRm_product_8, r_MRm_product_11, r_MRm_product_12, r_MRm_product_15, r_MRm_product_17, r_MRm_product_20, r_MRm_product_21, r_MRm_product_24, r_MRm_product_26, r_MRm_product_29, r_MRm_product_30, r_MRm_product_33, r_MRm_product_35, r_MRm_product_38, r_MRm_product_39, r_MRm_product_42, r_MRm_product_43, r_MRm_product_44, r_MRm_product_44i, r_MRm_product_45, r_MRm_product_48, r_MRm_product_49, r_MRm_product_50, r_MRm_product_53, r_MRm_product_54, r_MRm_product_57, r_MRm_product_58, r_MRm_product_59, r_MRm_product_60, r_MRm_product_63, r_MRm_product_66, sL_0, sL_1, sL_2, mk_i, mk_r, mk_f, mk_n, mk_u, mk_l, List.set_cons_succ, List.set_cons_zero, Nat.reduceAdd, ckS_0, ckS_1, ckS_2, ckS_3, ckS_4, Option.bind_some, Option.isSome_some, psh, if_true, if_false, i10, not_true_eq_false, not_false_eq_true, Bool.false_eq_true, and_self, and_true, true_and, eq_self, qI_81_0, qI_81_2, qI_81_3, qI_81_9, qI_81_10, qI_81_11, qI_81_12, qI_81_13, qI_81_18, qI_81_19, qI_81_20, qI_81_21, qI_81_29, qI_81_30, qI_81_31, qI_81_32, qI_81_33, qI_81_34, qI_81_35, qI_81_39, qI_81_40, qI_81_41, qI_81_42, qI_81_43, qI_81_44, qI_81_45, qI_81_46, qI_81_47, qI_81_51, qI_81_53, qR_81_1, qRd_81_1, qR_81_4, qRd_81_4, qR_81_5, qRd_81_5, qR_81_6, qRd_81_6, qR_81_7, qRd_81_7, qR_81_8, qRd_81_8, qR_81_14, qRd_81_14, qR_81_15, qRd_81_15, qR_81_16, qRd_81_16, qR_81_17, qRd_81_17, qR_81_22, qRd_81_22, qR_81_23, qRd_81_23, qR_81_24, qRd_81_24, qR_81_25, qRd_81_25, qR_81_26, qRd_81_26, qR_81_27, qRd_81_27, qR_81_28, qRd_81_28, qR_81_36, qRd_81_36, qR_81_37, qRd_81_37, qR_81_38, qRd_81_38, qR_81_48, qRd_81_48, qR_81_49, qRd_81_49, qR_81_50, qRd_81_50, qR_81_52, qRd_81_52, qR_81_54, qRd_81_54, qR_81_55, qRd_81_55, qR_81_56, qRd_81_56, qR_81_57, qRd_81_57, qR_81_58, qRd_81_58, qO_81, pm_19, fge0 c1 hr.2.2.1 hT]
theorem ex_product {c : Nat} (hT : tOK mu) (hG : Gd mu k sub) (hsub : ∀ d s, Pre mu k s → Rr X (d + c) MRm_operand 0 [.ref 81, mkU] [] (Wd (pm mu s) la ro et) = some (none, Wd (pm mu (sub s)) la ro et)) (d : Nat) (s : PS) (h0 : Pre mu k s) : Rr X (d + c + 1) MRm_product 0 [.ref 81, mkU] [] (Wd (pm mu s) la ro et) = some (none, Wd (pm mu (jn mu isMu 121 sub s)) la ro et) := by
  have hT2 := Tt_le hT
  have := ex_product_loop hT hG hsub d h0 121 (sub s) mkU (hG s h0) (by omega)
  simp only [r_MRm_product_0, r_MRm_product_1, sL_0, sL_1, sL_2, mk_i, mk_r, mk_f, mk_n, mk_u, mk_l, List.set_cons_succ, List.set_cons_zero, Nat.reduceAdd, ckS_0, ckS_1, ckS_2, ckS_3, ckS_4, Option.bind_some, Option.isSome_some, psh, if_true, if_false, i10, not_true_eq_false, not_false_eq_true, Bool.false_eq_true, and_self, and_true, true_and, eq_self, qI_81_0, qI_81_2, qI_81_3, qI_81_9, qI_81_10, qI_81_11, qI_81_12, qI_81_13, qI_81_18, qI_81_19, qI_81_20, qI_81_21, qI_81_29, qI_81_30, qI_81_31, qI_81_32, qI_81_33, qI_81_34, qI_81_35, qI_81_39, qI_81_40, qI_81_41, qI_81_42, qI_81_43, qI_81_44, qI_81_45, qI_81_46, qI_81_47, qI_81_51, qI_81_53, qR_81_1, qRd_81_1, qR_81_4, qRd_81_4, qR_81_5, qRd_81_5, qR_81_6, qRd_81_6, qR_81_7, qRd_81_7, qR_81_8, qRd_81_8, qR_81_14, qRd_81_14, qR_81_15, qRd_81_15, qR_81_16, qRd_81_16, qR_81_17, qRd_81_17, qR_81_22, qRd_81_22, qR_81_23, qRd_81_23, qR_81_24, qRd_81_24, qR_81_25, qRd_81_25, qR_81_26, qRd_81_26, qR_81_27, qRd_81_27, qR_81_28, qRd_81_28, qR_81_36, qRd_81_36, qR_81_37, qRd_81_37, qR_81_38, qRd_81_38, qR_81_48, qRd_81_48, qR_81_49, qRd_81_49, qR_81_50, qRd_81_50, qR_81_52, qRd_81_52, qR_81_54, qRd_81_54, qR_81_55, qRd_81_55, qR_81_56, qRd_81_56, qR_81_57, qRd_81_57, qR_81_58, qRd_81_58, qO_81, hsub d s h0]
  exact this
theorem ex_sum_loop {c : Nat} (hT : tOK mu) (hG : Gd mu k sub) (hsub : ∀ d s, Pre mu k s → Rr X (d + c) MRm_product 0 [.ref 81, mkU] [] (Wd (pm mu s) la ro et) = some (none, Wd (pm mu (sub s)) la ro et)) (d : Nat) (h0 : Pre mu k s) : ∀ (n : Nat) (r : PS) (l1 : Value) , Rl mu s r → Tt mu - r.1 < n → Rr X (d + c + 1) MRm_sum 4 [.ref 81, l1] [] (Wd (pm mu r) la ro et) = some (none, Wd (pm mu (loopJ mu isSu sub n r)) la ro et) := by
  have hT2 := Tt_le hT
  intro n
  induction n with
  | zero => intro r l1 _ h; exact absurd h (by omega)
  | succ n ih =>
    intro r l1 hr hn
    have hl : r.1 ≤ 120 := by have := hr.1.2; omega
    rw [r_MRm_sum_4, loopJ]
    by_cases c1 : noF r = true
    · by_cases c2 : isSu (bt mu r.1) = true
      · rw [if_pos (by rw [c1, c2]; rfl)]
        obtain ⟨g1, g2, g3⟩ := Rl_step sg_Su hG h0 hr c1 c2
        have b1 := (sg_Su _ c2).2.1
        have nx := ih (adS (sub (hS r)) (bt mu r.1) 0) (.int (bt mu r.1)) g3 (by have : r.1 + 1 ≤ (sub (hS r)).1 := (hG _ g1).1.1; show Tt mu - (sub (hS r)).1 < n; have := g1.2.1; have : r.1 + 1 ≤ Tt mu := this; omega)
        have ea := fun d => e_addStep (X := X) (d := d) (mu := mu) (la := la) (ro := ro) (et := et) (s := sub (hS r)) (a := bt mu r.1) (w := 0) (by omega) b1
        have es := hsub d _ g1
        have b3 := of_decide_eq_true c2
        rcases b3 with b3 | b3
        · have t : (bt mu r.1 = 43) = True := eq_true b3
          simp only [r_MRm_sum_5, r_MRm_sum_8, r_MRm_sum_11, r_MRm_sum_12, r_MRm_sum_15, r_MRm_sum_17, r_MRm_sum_20, r_MRm_sum_21, r_MRm_sum_24, r_MRm_sum_26, r_MRm_sum_29, r_MRm_sum_30, r_MRm_sum_33, r_MRm_sum_34, r_MRm_sum_35, r_MRm_sum_35i, r_MRm_sum_36, r_MRm_sum_39, r_MRm_sum_40, r_MRm_sum_41, r_MRm_sum_44, r_MRm_sum_45, r_MRm_sum_48, r_MRm_sum_49, r_MRm_sum_50, r_MRm_sum_51, r_MRm_sum_54, sL_0, sL_1, sL_2, mk_i, mk_r, mk_f, mk_n, mk_u, mk_l, List.set_cons_succ, List.set_cons_zero, Nat.reduceAdd, ckS_0, ckS_1, ckS_2, ckS_3, ckS_4, Option.bind_some, Option.isSome_some, psh, if_true, if_false, i10, not_true_eq_false, not_false_eq_true, Bool.false_eq_true, and_self, and_true, true_and, eq_self, qI_81_0, qI_81_2, qI_81_3, qI_81_9, qI_81_10, qI_81_11, qI_81_12, qI_81_13, qI_81_18, qI_81_19, qI_81_20, qI_81_21, qI_81_29, qI_81_30, qI_81_31, qI_81_32, qI_81_33, qI_81_34, qI_81_35, qI_81_39, qI_81_40, qI_81_41, qI_81_42, qI_81_43, qI_81_44, qI_81_45, qI_81_46, qI_81_47, qI_81_51, qI_81_53, qR_81_1, qRd_81_1, qR_81_4, qRd_81_4, qR_81_5, qRd_81_5, qR_81_6, qRd_81_6, qR_81_7, qRd_81_7, qR_81_8, qRd_81_8, qR_81_14, qRd_81_14, qR_81_15, qRd_81_15, qR_81_16, qRd_81_16, qR_81_17, qRd_81_17, qR_81_22, qRd_81_22, qR_81_23, qRd_81_23, qR_81_24, qRd_81_24, qR_81_25, qRd_81_25, qR_81_26, qRd_81_26, qR_81_27, qRd_81_27, qR_81_28, qRd_81_28, qR_81_36, qRd_81_36, qR_81_37, qRd_81_37, qR_81_38, qRd_81_38, qR_81_48, qRd_81_48, qR_81_49, qRd_81_49, qR_81_50, qRd_81_50, qR_81_52, qRd_81_52, qR_81_54, qRd_81_54, qR_81_55, qRd_81_55, qR_81_56, qRd_81_56, qR_81_57, qRd_81_57, qR_81_58, qRd_81_58, qO_81, pm_19, fge1 c1, e_look hl hT, pm_18, nI_1, up_h, es, ea, t]
          exact nx
        · have f43 : (bt mu r.1 = 43) = False := eq_false (by rw [b3]; decide)
          have t : (bt mu r.1 = 45) = True := eq_true b3
          simp only [r_MRm_sum_5, r_MRm_sum_8, r_MRm_sum_11, r_MRm_sum_12, r_MRm_sum_15, r_MRm_sum_17, r_MRm_sum_20, r_MRm_sum_21, r_MRm_sum_24, r_MRm_sum_26, r_MRm_sum_29, r_MRm_sum_30, r_MRm_sum_33, r_MRm_sum_34, r_MRm_sum_35, r_MRm_sum_35i, r_MRm_sum_36, r_MRm_sum_39, r_MRm_sum_40, r_MRm_sum_41, r_MRm_sum_44, r_MRm_sum_45, r_MRm_sum_48, r_MRm_sum_49, r_MRm_sum_50, r_MRm_sum_51, r_MRm_sum_54, sL_0, sL_1, sL_2, mk_i, mk_r, mk_f, mk_n, mk_u, mk_l, List.set_cons_succ, List.set_cons_zero, Nat.reduceAdd, ckS_0, ckS_1, ckS_2, ckS_3, ckS_4, Option.bind_some, Option.isSome_some, psh, if_true, if_false, i10, not_true_eq_false, not_false_eq_true, Bool.false_eq_true, and_self, and_true, true_and, eq_self, qI_81_0, qI_81_2, qI_81_3, qI_81_9, qI_81_10, qI_81_11, qI_81_12, qI_81_13, qI_81_18, qI_81_19, qI_81_20, qI_81_21, qI_81_29, qI_81_30, qI_81_31, qI_81_32, qI_81_33, qI_81_34, qI_81_35, qI_81_39, qI_81_40, qI_81_41, qI_81_42, qI_81_43, qI_81_44, qI_81_45, qI_81_46, qI_81_47, qI_81_51, qI_81_53, qR_81_1, qRd_81_1, qR_81_4, qRd_81_4, qR_81_5, qRd_81_5, qR_81_6, qRd_81_6, qR_81_7, qRd_81_7, qR_81_8, qRd_81_8, qR_81_14, qRd_81_14, qR_81_15, qRd_81_15, qR_81_16, qRd_81_16, qR_81_17, qRd_81_17, qR_81_22, qRd_81_22, qR_81_23, qRd_81_23, qR_81_24, qRd_81_24, qR_81_25, qRd_81_25, qR_81_26, qRd_81_26, qR_81_27, qRd_81_27, qR_81_28, qRd_81_28, qR_81_36, qRd_81_36, qR_81_37, qRd_81_37, qR_81_38, qRd_81_38, qR_81_48, qRd_81_48, qR_81_49, qRd_81_49, qR_81_50, qRd_81_50, qR_81_52, qRd_81_52, qR_81_54, qRd_81_54, qR_81_55, qRd_81_55, qR_81_56, qRd_81_56, qR_81_57, qRd_81_57, qR_81_58, qRd_81_58, qO_81, pm_19, fge1 c1, e_look hl hT, pm_18, nI_1, up_h, es, ea, f43, t]
          exact nx
      · rw [if_neg (by rw [c1, Bool.true_and]; exact c2)]
        have b3 := of_decide_eq_false (Bool.eq_false_iff.mpr c2)
        have f43 : (bt mu r.1 = 43) = False := eq_false (fun h => b3 (.inl h))
        have f45 : (bt mu r.1 = 45) = False := eq_false (fun h => b3 (.inr (h)))
        simp only [r_MRm_sum_5, r_MRm_sum_8, r_MRm_sum_11, r_MRm_sum_12, r_MRm_sum_15, r_MRm_sum_17, r_MRm_sum_20, r_MRm_sum_21, r_MRm_sum_24, r_MRm_sum_26, r_MRm_sum_29, r_MRm_sum_30, r_MRm_sum_33, r_MRm_sum_34, r_MRm_sum_35, r_MRm_sum_35i, r_MRm_sum_36, r_MRm_sum_39, r_MRm_sum_40, r_MRm_sum_41, r_MRm_sum_44, r_MRm_sum_45, r_MRm_sum_48, r_MRm_sum_49, r_MRm_sum_50, r_MRm_sum_51, r_MRm_sum_54, r_MRm_sum_57, sL_0, sL_1, sL_2, mk_i, mk_r, mk_f, mk_n, mk_u, mk_l, List.set_cons_succ, List.set_cons_zero, Nat.reduceAdd, ckS_0, ckS_1, ckS_2, ckS_3, ckS_4, Option.bind_some, Option.isSome_some, psh, if_true, if_false, i10, not_true_eq_false, not_false_eq_true, Bool.false_eq_true, and_self, and_true, true_and, eq_self, qI_81_0, qI_81_2, qI_81_3, qI_81_9, qI_81_10, qI_81_11, qI_81_12, qI_81_13, qI_81_18, qI_81_19, qI_81_20, qI_81_21, qI_81_29, qI_81_30, qI_81_31, qI_81_32, qI_81_33, qI_81_34, qI_81_35, qI_81_39, qI_81_40, qI_81_41, qI_81_42, qI_81_43, qI_81_44, qI_81_45, qI_81_46, qI_81_47, qI_81_51, qI_81_53, qR_81_1, qRd_81_1, qR_81_4, qRd_81_4, qR_81_5, qRd_81_5, qR_81_6, qRd_81_6, qR_81_7, qRd_81_7, qR_81_8, qRd_81_8, qR_81_14, qRd_81_14, qR_81_15, qRd_81_15, qR_81_16, qRd_81_16, qR_81_17, qRd_81_17, qR_81_22, qRd_81_22, qR_81_23, qRd_81_23, qR_81_24, qRd_81_24, qR_81_25, qRd_81_25, qR_81_26, qRd_81_26, qR_81_27, qRd_81_27, qR_81_28, qRd_81_28, qR_81_36, qRd_81_36, qR_81_37, qRd_81_37, qR_81_38, qRd_81_38, qR_81_48, qRd_81_48, qR_81_49, qRd_81_49, qR_81_50, qRd_81_50, qR_81_52, qRd_81_52, qR_81_54, qRd_81_54, qR_81_55, qRd_81_55, qR_81_56, qRd_81_56, qR_81_57, qRd_81_57, qR_81_58, qRd_81_58, qO_81, pm_19, fge1 c1, e_look hl hT, f43, f45]
    · rw [if_neg (by rw [Bool.and_eq_true]; exact fun h => c1 h.1)]
      simp only [r_MRm_sum_5, r_MRm_sum_8, r_MRm_sum_11, r_MRm_sum_12, r_MRm_sum_15, r_MRm_sum_17, r_MRm_sum_20, r_MRm_sum_21, r_MRm_sum_24, r_MRm_sum_26, r_MRm_sum_29, r_MRm_sum_30, r_MRm_sum_33, r_MRm_sum_34, r_MRm_sum_35, r_MRm_sum_35i, r_MRm_sum_36, r_MRm_sum_39, r_MRm_sum_40, r_MRm_sum_41, r_MRm_sum_44, r_MRm_sum_45, r_MRm_sum_48, r_MRm_sum_49, r_MRm_sum_50, r_MRm_sum_51, r_MRm_sum_54, r_MRm_sum_57, sL_0, sL_1, sL_2, mk_i, mk_r, mk_f, mk_n, mk_u, mk_l, List.set_cons_succ, List.set_cons_zero, Nat.reduceAdd, ckS_0, ckS_1, ckS_2, ckS_3, ckS_4, Option.bind_some, Option.isSome_some, psh, if_true, if_false, i10, not_true_eq_false, not_false_eq_true, Bool.false_eq_true, and_self, and_true, true_and, eq_self, qI_81_0, qI_81_2, qI_81_3, qI_81_9, qI_81_10, qI_81_11, qI_81_12, qI_81_13, qI_81_18, qI_81_19, qI_81_20, qI_81_21, qI_81_29, qI_81_30, qI_81_31, qI_81_32, qI_81_33, qI_81_34, qI_81_35, qI_81_39, qI_81_40, qI_81_41, qI_81_42, qI_81_43, qI_81_44, qI_81_45, qI_81_46, qI_81_47, qI_81_51, qI_81_53, qR_81_1, qRd_81_1, qR_81_4, qRd_81_4, qR_81_5, qRd_81_5, qR_81_6, qRd_81_6, qR_81_7, qRd_81_7, qR_81_8, qRd_81_8, qR_81_14, qRd_81_14, qR_81_15, qRd_81_15, qR_81_16, qRd_81_16, qR_81_17, qRd_81_17, qR_81_22, qRd_81_22, qR_81_23, qRd_81_23, qR_81_24, qRd_81_24, qR_81_25, qRd_81_25, qR_81_26, qRd_81_26, qR_81_27, qRd_81_27, qR_81_28, qRd_81_28, qR_81_36, qRd_81_36, qR_81_37, qRd_81_37, qR_81_38, qRd_81_38, qR_81_48, qRd_81_48, qR_81_49, qRd_81_49, qR_81_50, qRd_81_50, qR_81_52, qRd_81_52, qR_81_54, qRd_81_54, qR_81_55, qRd_81_55, qR_81_56, qRd_81_56, qR_81_57, qRd_81_57, qR_81_58, qRd_81_58, qO_81, pm_19, fge0 c1 hr.2.2.1 hT]
theorem ex_sum {c : Nat} (hT : tOK mu) (hG : Gd mu k sub) (hsub : ∀ d s, Pre mu k s → Rr X (d + c) MRm_product 0 [.ref 81, mkU] [] (Wd (pm mu s) la ro et) = some (none, Wd (pm mu (sub s)) la ro et)) (d : Nat) (s : PS) (h0 : Pre mu k s) : Rr X (d + c + 1) MRm_sum 0 [.ref 81, mkU] [] (Wd (pm mu s) la ro et) = some (none, Wd (pm mu (jn mu isSu 121 sub s)) la ro et) := by
  have hT2 := Tt_le hT
  have := ex_sum_loop hT hG hsub d h0 121 (sub s) mkU (hG s h0) (by omega)
  simp only [r_MRm_sum_0, r_MRm_sum_1, sL_0, sL_1, sL_2, mk_i, mk_r, mk_f, mk_n, mk_u, mk_l, List.set_cons_succ, List.set_cons_zero, Nat.reduceAdd, ckS_0, ckS_1, ckS_2, ckS_3, ckS_4, Option.bind_some, Option.isSome_some, psh, if_true, if_false, i10, not_true_eq_false, not_false_eq_true, Bool.false_eq_true, and_self, and_true, true_and, eq_self, qI_81_0, qI_81_2, qI_81_3, qI_81_9, qI_81_10, qI_81_11, qI_81_12, qI_81_13, qI_81_18, qI_81_19, qI_81_20, qI_81_21, qI_81_29, qI_81_30, qI_81_31, qI_81_32, qI_81_33, qI_81_34, qI_81_35, qI_81_39, qI_81_40, qI_81_41, qI_81_42, qI_81_43, qI_81_44, qI_81_45, qI_81_46, qI_81_47, qI_81_51, qI_81_53, qR_81_1, qRd_81_1, qR_81_4, qRd_81_4, qR_81_5, qRd_81_5, qR_81_6, qRd_81_6, qR_81_7, qRd_81_7, qR_81_8, qRd_81_8, qR_81_14, qRd_81_14, qR_81_15, qRd_81_15, qR_81_16, qRd_81_16, qR_81_17, qRd_81_17, qR_81_22, qRd_81_22, qR_81_23, qRd_81_23, qR_81_24, qRd_81_24, qR_81_25, qRd_81_25, qR_81_26, qRd_81_26, qR_81_27, qRd_81_27, qR_81_28, qRd_81_28, qR_81_36, qRd_81_36, qR_81_37, qRd_81_37, qR_81_38, qRd_81_38, qR_81_48, qRd_81_48, qR_81_49, qRd_81_49, qR_81_50, qRd_81_50, qR_81_52, qRd_81_52, qR_81_54, qRd_81_54, qR_81_55, qRd_81_55, qR_81_56, qRd_81_56, qR_81_57, qRd_81_57, qR_81_58, qRd_81_58, qO_81, hsub d s h0]
  exact this
theorem ex_both_loop {c : Nat} (hT : tOK mu) (hG : Gd mu k sub) (hsub : ∀ d s, Pre mu k s → Rr X (d + c) MRm_compared 0 [.ref 81, mkU] [] (Wd (pm mu s) la ro et) = some (none, Wd (pm mu (sub s)) la ro et)) (d : Nat) (h0 : Pre mu k s) : ∀ (n : Nat) (r : PS) , Rl mu s r → Tt mu - r.1 < n → Rr X (d + c + 1) MRm_both 4 [.ref 81] [] (Wd (pm mu r) la ro et) = some (none, Wd (pm mu (loopJ mu isBo sub n r)) la ro et) := by
  have hT2 := Tt_le hT
  intro n
  induction n with
  | zero => intro r _ h; exact absurd h (by omega)
  | succ n ih =>
    intro r hr hn
    have hl : r.1 ≤ 120 := by have := hr.1.2; omega
    rw [r_MRm_both_4, loopJ]
    by_cases c1 : noF r = true
    · by_cases c2 : isBo (bt mu r.1) = true
      · rw [if_pos (by rw [c1, c2]; rfl)]
        obtain ⟨g1, g2, g3⟩ := Rl_step sg_Bo hG h0 hr c1 c2
        have b1 := (sg_Bo _ c2).2.1
        have nx := ih (adS (sub (hS r)) (bt mu r.1) 0) g3 (by have : r.1 + 1 ≤ (sub (hS r)).1 := (hG _ g1).1.1; show Tt mu - (sub (hS r)).1 < n; have := g1.2.1; have : r.1 + 1 ≤ Tt mu := this; omega)
        have ea := fun d => e_addStep (X := X) (d := d) (mu := mu) (la := la) (ro := ro) (et := et) (s := sub (hS r)) (a := bt mu r.1) (w := 0) (by omega) b1
        have es := hsub d _ g1
        have b3 := of_decide_eq_true c2
        rw [b3] at ea nx ⊢
        simp only [r_MRm_both_5, r_MRm_both_8, r_MRm_both_11, r_MRm_both_12, r_MRm_both_15, r_MRm_both_17, r_MRm_both_20, r_MRm_both_21, r_MRm_both_21i, r_MRm_both_22, r_MRm_both_25, r_MRm_both_26, r_MRm_both_27, r_MRm_both_30, r_MRm_both_31, r_MRm_both_34, r_MRm_both_35, r_MRm_both_37, r_MRm_both_38, r_MRm_both_41, sL_0, sL_1, sL_2, mk_i, mk_r, mk_f, mk_n, mk_u, mk_l, List.set_cons_succ, List.set_cons_zero, Nat.reduceAdd, ckS_0, ckS_1, ckS_2, ckS_3, ckS_4, Option.bind_some, Option.isSome_some, psh, if_true, if_false, i10, not_true_eq_false, not_false_eq_true, Bool.false_eq_true, and_self, and_true, true_and, eq_self, qI_81_0, qI_81_2, qI_81_3, qI_81_9, qI_81_10, qI_81_11, qI_81_12, qI_81_13, qI_81_18, qI_81_19, qI_81_20, qI_81_21, qI_81_29, qI_81_30, qI_81_31, qI_81_32, qI_81_33, qI_81_34, qI_81_35, qI_81_39, qI_81_40, qI_81_41, qI_81_42, qI_81_43, qI_81_44, qI_81_45, qI_81_46, qI_81_47, qI_81_51, qI_81_53, qR_81_1, qRd_81_1, qR_81_4, qRd_81_4, qR_81_5, qRd_81_5, qR_81_6, qRd_81_6, qR_81_7, qRd_81_7, qR_81_8, qRd_81_8, qR_81_14, qRd_81_14, qR_81_15, qRd_81_15, qR_81_16, qRd_81_16, qR_81_17, qRd_81_17, qR_81_22, qRd_81_22, qR_81_23, qRd_81_23, qR_81_24, qRd_81_24, qR_81_25, qRd_81_25, qR_81_26, qRd_81_26, qR_81_27, qRd_81_27, qR_81_28, qRd_81_28, qR_81_36, qRd_81_36, qR_81_37, qRd_81_37, qR_81_38, qRd_81_38, qR_81_48, qRd_81_48, qR_81_49, qRd_81_49, qR_81_50, qRd_81_50, qR_81_52, qRd_81_52, qR_81_54, qRd_81_54, qR_81_55, qRd_81_55, qR_81_56, qRd_81_56, qR_81_57, qRd_81_57, qR_81_58, qRd_81_58, qO_81, pm_19, fge1 c1, e_look hl hT, b3, pm_18, nI_1, up_h, es, ea]
        exact nx
      · rw [if_neg (by rw [c1, Bool.true_and]; exact c2)]
        have b3 := of_decide_eq_false (Bool.eq_false_iff.mpr c2)
        have f38 : (bt mu r.1 = 38) = False := eq_false (b3)
        simp only [r_MRm_both_5, r_MRm_both_8, r_MRm_both_11, r_MRm_both_12, r_MRm_both_15, r_MRm_both_17, r_MRm_both_20, r_MRm_both_21, r_MRm_both_21i, r_MRm_both_22, r_MRm_both_25, r_MRm_both_26, r_MRm_both_27, r_MRm_both_30, r_MRm_both_31, r_MRm_both_34, r_MRm_both_35, r_MRm_both_37, r_MRm_both_38, r_MRm_both_41, r_MRm_both_44, sL_0, sL_1, sL_2, mk_i, mk_r, mk_f, mk_n, mk_u, mk_l, List.set_cons_succ, List.set_cons_zero, Nat.reduceAdd, ckS_0, ckS_1, ckS_2, ckS_3, ckS_4, Option.bind_some, Option.isSome_some, psh, if_true, if_false, i10, not_true_eq_false, not_false_eq_true, Bool.false_eq_true, and_self, and_true, true_and, eq_self, qI_81_0, qI_81_2, qI_81_3, qI_81_9, qI_81_10, qI_81_11, qI_81_12, qI_81_13, qI_81_18, qI_81_19, qI_81_20, qI_81_21, qI_81_29, qI_81_30, qI_81_31, qI_81_32, qI_81_33, qI_81_34, qI_81_35, qI_81_39, qI_81_40, qI_81_41, qI_81_42, qI_81_43, qI_81_44, qI_81_45, qI_81_46, qI_81_47, qI_81_51, qI_81_53, qR_81_1, qRd_81_1, qR_81_4, qRd_81_4, qR_81_5, qRd_81_5, qR_81_6, qRd_81_6, qR_81_7, qRd_81_7, qR_81_8, qRd_81_8, qR_81_14, qRd_81_14, qR_81_15, qRd_81_15, qR_81_16, qRd_81_16, qR_81_17, qRd_81_17, qR_81_22, qRd_81_22, qR_81_23, qRd_81_23, qR_81_24, qRd_81_24, qR_81_25, qRd_81_25, qR_81_26, qRd_81_26, qR_81_27, qRd_81_27, qR_81_28, qRd_81_28, qR_81_36, qRd_81_36, qR_81_37, qRd_81_37, qR_81_38, qRd_81_38, qR_81_48, qRd_81_48, qR_81_49, qRd_81_49, qR_81_50, qRd_81_50, qR_81_52, qRd_81_52, qR_81_54, qRd_81_54, qR_81_55, qRd_81_55, qR_81_56, qRd_81_56, qR_81_57, qRd_81_57, qR_81_58, qRd_81_58, qO_81, pm_19, fge1 c1, e_look hl hT, f38]
    · rw [if_neg (by rw [Bool.and_eq_true]; exact fun h => c1 h.1)]
      simp only [r_MRm_both_5, r_MRm_both_8, r_MRm_both_11, r_MRm_both_12, r_MRm_both_15, r_MRm_both_17, r_MRm_both_20, r_MRm_both_21, r_MRm_both_21i, r_MRm_both_22, r_MRm_both_25, r_MRm_both_26, r_MRm_both_27, r_MRm_both_30, r_MRm_both_31, r_MRm_both_34, r_MRm_both_35, r_MRm_both_37, r_MRm_both_38, r_MRm_both_41, r_MRm_both_44, sL_0, sL_1, sL_2, mk_i, mk_r, mk_f, mk_n, mk_u, mk_l, List.set_cons_succ, List.set_cons_zero, Nat.reduceAdd, ckS_0, ckS_1, ckS_2, ckS_3, ckS_4, Option.bind_some, Option.isSome_some, psh, if_true, if_false, i10, not_true_eq_false, not_false_eq_true, Bool.false_eq_true, and_self, and_true, true_and, eq_self, qI_81_0, qI_81_2, qI_81_3, qI_81_9, qI_81_10, qI_81_11, qI_81_12, qI_81_13, qI_81_18, qI_81_19, qI_81_20, qI_81_21, qI_81_29, qI_81_30, qI_81_31, qI_81_32, qI_81_33, qI_81_34, qI_81_35, qI_81_39, qI_81_40, qI_81_41, qI_81_42, qI_81_43, qI_81_44, qI_81_45, qI_81_46, qI_81_47, qI_81_51, qI_81_53, qR_81_1, qRd_81_1, qR_81_4, qRd_81_4, qR_81_5, qRd_81_5, qR_81_6, qRd_81_6, qR_81_7, qRd_81_7, qR_81_8, qRd_81_8, qR_81_14, qRd_81_14, qR_81_15, qRd_81_15, qR_81_16, qRd_81_16, qR_81_17, qRd_81_17, qR_81_22, qRd_81_22, qR_81_23, qRd_81_23, qR_81_24, qRd_81_24, qR_81_25, qRd_81_25, qR_81_26, qRd_81_26, qR_81_27, qRd_81_27, qR_81_28, qRd_81_28, qR_81_36, qRd_81_36, qR_81_37, qRd_81_37, qR_81_38, qRd_81_38, qR_81_48, qRd_81_48, qR_81_49, qRd_81_49, qR_81_50, qRd_81_50, qR_81_52, qRd_81_52, qR_81_54, qRd_81_54, qR_81_55, qRd_81_55, qR_81_56, qRd_81_56, qR_81_57, qRd_81_57, qR_81_58, qRd_81_58, qO_81, pm_19, fge0 c1 hr.2.2.1 hT]
theorem ex_both {c : Nat} (hT : tOK mu) (hG : Gd mu k sub) (hsub : ∀ d s, Pre mu k s → Rr X (d + c) MRm_compared 0 [.ref 81, mkU] [] (Wd (pm mu s) la ro et) = some (none, Wd (pm mu (sub s)) la ro et)) (d : Nat) (s : PS) (h0 : Pre mu k s) : Rr X (d + c + 1) MRm_both 0 [.ref 81] [] (Wd (pm mu s) la ro et) = some (none, Wd (pm mu (jn mu isBo 121 sub s)) la ro et) := by
  have hT2 := Tt_le hT
  have := ex_both_loop hT hG hsub d h0 121 (sub s) (hG s h0) (by omega)
  simp only [r_MRm_both_0, r_MRm_both_1, sL_0, sL_1, sL_2, mk_i, mk_r, mk_f, mk_n, mk_u, mk_l, List.set_cons_succ, List.set_cons_zero, Nat.reduceAdd, ckS_0, ckS_1, ckS_2, ckS_3, ckS_4, Option.bind_some, Option.isSome_some, psh, if_true, if_false, i10, not_true_eq_false, not_false_eq_true, Bool.false_eq_true, and_self, and_true, true_and, eq_self, qI_81_0, qI_81_2, qI_81_3, qI_81_9, qI_81_10, qI_81_11, qI_81_12, qI_81_13, qI_81_18, qI_81_19, qI_81_20, qI_81_21, qI_81_29, qI_81_30, qI_81_31, qI_81_32, qI_81_33, qI_81_34, qI_81_35, qI_81_39, qI_81_40, qI_81_41, qI_81_42, qI_81_43, qI_81_44, qI_81_45, qI_81_46, qI_81_47, qI_81_51, qI_81_53, qR_81_1, qRd_81_1, qR_81_4, qRd_81_4, qR_81_5, qRd_81_5, qR_81_6, qRd_81_6, qR_81_7, qRd_81_7, qR_81_8, qRd_81_8, qR_81_14, qRd_81_14, qR_81_15, qRd_81_15, qR_81_16, qRd_81_16, qR_81_17, qRd_81_17, qR_81_22, qRd_81_22, qR_81_23, qRd_81_23, qR_81_24, qRd_81_24, qR_81_25, qRd_81_25, qR_81_26, qRd_81_26, qR_81_27, qRd_81_27, qR_81_28, qRd_81_28, qR_81_36, qRd_81_36, qR_81_37, qRd_81_37, qR_81_38, qRd_81_38, qR_81_48, qRd_81_48, qR_81_49, qRd_81_49, qR_81_50, qRd_81_50, qR_81_52, qRd_81_52, qR_81_54, qRd_81_54, qR_81_55, qRd_81_55, qR_81_56, qRd_81_56, qR_81_57, qRd_81_57, qR_81_58, qRd_81_58, qO_81, hsub d s h0]
  exact this
theorem ex_either_loop {c : Nat} (hT : tOK mu) (hG : Gd mu k sub) (hsub : ∀ d s, Pre mu k s → Rr X (d + c) MRm_both 0 [.ref 81] [] (Wd (pm mu s) la ro et) = some (none, Wd (pm mu (sub s)) la ro et)) (d : Nat) (h0 : Pre mu k s) : ∀ (n : Nat) (r : PS) , Rl mu s r → Tt mu - r.1 < n → Rr X (d + c + 1) MRm_either 4 [.ref 81] [] (Wd (pm mu r) la ro et) = some (none, Wd (pm mu (loopJ mu isEi sub n r)) la ro et) := by
  have hT2 := Tt_le hT
  intro n
  induction n with
  | zero => intro r _ h; exact absurd h (by omega)
  | succ n ih =>
    intro r hr hn
    have hl : r.1 ≤ 120 := by have := hr.1.2; omega
    rw [r_MRm_either_4, loopJ]
    by_cases c1 : noF r = true
    · by_cases c2 : isEi (bt mu r.1) = true
      · rw [if_pos (by rw [c1, c2]; rfl)]
        obtain ⟨g1, g2, g3⟩ := Rl_step sg_Ei hG h0 hr c1 c2
        have b1 := (sg_Ei _ c2).2.1
        have nx := ih (adS (sub (hS r)) (bt mu r.1) 0) g3 (by have : r.1 + 1 ≤ (sub (hS r)).1 := (hG _ g1).1.1; show Tt mu - (sub (hS r)).1 < n; have := g1.2.1; have : r.1 + 1 ≤ Tt mu := this; omega)
        have ea := fun d => e_addStep (X := X) (d := d) (mu := mu) (la := la) (ro := ro) (et := et) (s := sub (hS r)) (a := bt mu r.1) (w := 0) (by omega) b1
        have es := hsub d _ g1
        have b3 := of_decide_eq_true c2
        rw [b3] at ea nx ⊢
        simp only [r_MRm_either_5, r_MRm_either_8, r_MRm_either_11, r_MRm_either_12, r_MRm_either_15, r_MRm_either_17, r_MRm_either_20, r_MRm_either_21, r_MRm_either_21i, r_MRm_either_22, r_MRm_either_25, r_MRm_either_26, r_MRm_either_27, r_MRm_either_30, r_MRm_either_31, r_MRm_either_34, r_MRm_either_35, r_MRm_either_37, r_MRm_either_38, r_MRm_either_41, sL_0, sL_1, sL_2, mk_i, mk_r, mk_f, mk_n, mk_u, mk_l, List.set_cons_succ, List.set_cons_zero, Nat.reduceAdd, ckS_0, ckS_1, ckS_2, ckS_3, ckS_4, Option.bind_some, Option.isSome_some, psh, if_true, if_false, i10, not_true_eq_false, not_false_eq_true, Bool.false_eq_true, and_self, and_true, true_and, eq_self, qI_81_0, qI_81_2, qI_81_3, qI_81_9, qI_81_10, qI_81_11, qI_81_12, qI_81_13, qI_81_18, qI_81_19, qI_81_20, qI_81_21, qI_81_29, qI_81_30, qI_81_31, qI_81_32, qI_81_33, qI_81_34, qI_81_35, qI_81_39, qI_81_40, qI_81_41, qI_81_42, qI_81_43, qI_81_44, qI_81_45, qI_81_46, qI_81_47, qI_81_51, qI_81_53, qR_81_1, qRd_81_1, qR_81_4, qRd_81_4, qR_81_5, qRd_81_5, qR_81_6, qRd_81_6, qR_81_7, qRd_81_7, qR_81_8, qRd_81_8, qR_81_14, qRd_81_14, qR_81_15, qRd_81_15, qR_81_16, qRd_81_16, qR_81_17, qRd_81_17, qR_81_22, qRd_81_22, qR_81_23, qRd_81_23, qR_81_24, qRd_81_24, qR_81_25, qRd_81_25, qR_81_26, qRd_81_26, qR_81_27, qRd_81_27, qR_81_28, qRd_81_28, qR_81_36, qRd_81_36, qR_81_37, qRd_81_37, qR_81_38, qRd_81_38, qR_81_48, qRd_81_48, qR_81_49, qRd_81_49, qR_81_50, qRd_81_50, qR_81_52, qRd_81_52, qR_81_54, qRd_81_54, qR_81_55, qRd_81_55, qR_81_56, qRd_81_56, qR_81_57, qRd_81_57, qR_81_58, qRd_81_58, qO_81, pm_19, fge1 c1, e_look hl hT, b3, pm_18, nI_1, up_h, es, ea]
        exact nx
      · rw [if_neg (by rw [c1, Bool.true_and]; exact c2)]
        have b3 := of_decide_eq_false (Bool.eq_false_iff.mpr c2)
        have f124 : (bt mu r.1 = 124) = False := eq_false (b3)
        simp only [r_MRm_either_5, r_MRm_either_8, r_MRm_either_11, r_MRm_either_12, r_MRm_either_15, r_MRm_either_17, r_MRm_either_20, r_MRm_either_21, r_MRm_either_21i, r_MRm_either_22, r_MRm_either_25, r_MRm_either_26, r_MRm_either_27, r_MRm_either_30, r_MRm_either_31, r_MRm_either_34, r_MRm_either_35, r_MRm_either_37, r_MRm_either_38, r_MRm_either_41, r_MRm_either_44, sL_0, sL_1, sL_2, mk_i, mk_r, mk_f, mk_n, mk_u, mk_l, List.set_cons_succ, List.set_cons_zero, Nat.reduceAdd, ckS_0, ckS_1, ckS_2, ckS_3, ckS_4, Option.bind_some, Option.isSome_some, psh, if_true, if_false, i10, not_true_eq_false, not_false_eq_true, Bool.false_eq_true, and_self, and_true, true_and, eq_self, qI_81_0, qI_81_2, qI_81_3, qI_81_9, qI_81_10, qI_81_11, qI_81_12, qI_81_13, qI_81_18, qI_81_19, qI_81_20, qI_81_21, qI_81_29, qI_81_30, qI_81_31, qI_81_32, qI_81_33, qI_81_34, qI_81_35, qI_81_39, qI_81_40, qI_81_41, qI_81_42, qI_81_43, qI_81_44, qI_81_45, qI_81_46, qI_81_47, qI_81_51, qI_81_53, qR_81_1, qRd_81_1, qR_81_4, qRd_81_4, qR_81_5, qRd_81_5, qR_81_6, qRd_81_6, qR_81_7, qRd_81_7, qR_81_8, qRd_81_8, qR_81_14, qRd_81_14, qR_81_15, qRd_81_15, qR_81_16, qRd_81_16, qR_81_17, qRd_81_17, qR_81_22, qRd_81_22, qR_81_23, qRd_81_23, qR_81_24, qRd_81_24, qR_81_25, qRd_81_25, qR_81_26, qRd_81_26, qR_81_27, qRd_81_27, qR_81_28, qRd_81_28, qR_81_36, qRd_81_36, qR_81_37, qRd_81_37, qR_81_38, qRd_81_38, qR_81_48, qRd_81_48, qR_81_49, qRd_81_49, qR_81_50, qRd_81_50, qR_81_52, qRd_81_52, qR_81_54, qRd_81_54, qR_81_55, qRd_81_55, qR_81_56, qRd_81_56, qR_81_57, qRd_81_57, qR_81_58, qRd_81_58, qO_81, pm_19, fge1 c1, e_look hl hT, f124]
    · rw [if_neg (by rw [Bool.and_eq_true]; exact fun h => c1 h.1)]
      simp only [r_MRm_either_5, r_MRm_either_8, r_MRm_either_11, r_MRm_either_12, r_MRm_either_15, r_MRm_either_17, r_MRm_either_20, r_MRm_either_21, r_MRm_either_21i, r_MRm_either_22, r_MRm_either_25, r_MRm_either_26, r_MRm_either_27, r_MRm_either_30, r_MRm_either_31, r_MRm_either_34, r_MRm_either_35, r_MRm_either_37, r_MRm_either_38, r_MRm_either_41, r_MRm_either_44, sL_0, sL_1, sL_2, mk_i, mk_r, mk_f, mk_n, mk_u, mk_l, List.set_cons_succ, List.set_cons_zero, Nat.reduceAdd, ckS_0, ckS_1, ckS_2, ckS_3, ckS_4, Option.bind_some, Option.isSome_some, psh, if_true, if_false, i10, not_true_eq_false, not_false_eq_true, Bool.false_eq_true, and_self, and_true, true_and, eq_self, qI_81_0, qI_81_2, qI_81_3, qI_81_9, qI_81_10, qI_81_11, qI_81_12, qI_81_13, qI_81_18, qI_81_19, qI_81_20, qI_81_21, qI_81_29, qI_81_30, qI_81_31, qI_81_32, qI_81_33, qI_81_34, qI_81_35, qI_81_39, qI_81_40, qI_81_41, qI_81_42, qI_81_43, qI_81_44, qI_81_45, qI_81_46, qI_81_47, qI_81_51, qI_81_53, qR_81_1, qRd_81_1, qR_81_4, qRd_81_4, qR_81_5, qRd_81_5, qR_81_6, qRd_81_6, qR_81_7, qRd_81_7, qR_81_8, qRd_81_8, qR_81_14, qRd_81_14, qR_81_15, qRd_81_15, qR_81_16, qRd_81_16, qR_81_17, qRd_81_17, qR_81_22, qRd_81_22, qR_81_23, qRd_81_23, qR_81_24, qRd_81_24, qR_81_25, qRd_81_25, qR_81_26, qRd_81_26, qR_81_27, qRd_81_27, qR_81_28, qRd_81_28, qR_81_36, qRd_81_36, qR_81_37, qRd_81_37, qR_81_38, qRd_81_38, qR_81_48, qRd_81_48, qR_81_49, qRd_81_49, qR_81_50, qRd_81_50, qR_81_52, qRd_81_52, qR_81_54, qRd_81_54, qR_81_55, qRd_81_55, qR_81_56, qRd_81_56, qR_81_57, qRd_81_57, qR_81_58, qRd_81_58, qO_81, pm_19, fge0 c1 hr.2.2.1 hT]
theorem ex_either {c : Nat} (hT : tOK mu) (hG : Gd mu k sub) (hsub : ∀ d s, Pre mu k s → Rr X (d + c) MRm_both 0 [.ref 81] [] (Wd (pm mu s) la ro et) = some (none, Wd (pm mu (sub s)) la ro et)) (d : Nat) (s : PS) (h0 : Pre mu k s) : Rr X (d + c + 1) MRm_either 0 [.ref 81] [] (Wd (pm mu s) la ro et) = some (none, Wd (pm mu (jn mu isEi 121 sub s)) la ro et) := by
  have hT2 := Tt_le hT
  have := ex_either_loop hT hG hsub d h0 121 (sub s) (hG s h0) (by omega)
  simp only [r_MRm_either_0, r_MRm_either_1, sL_0, sL_1, sL_2, mk_i, mk_r, mk_f, mk_n, mk_u, mk_l, List.set_cons_succ, List.set_cons_zero, Nat.reduceAdd, ckS_0, ckS_1, ckS_2, ckS_3, ckS_4, Option.bind_some, Option.isSome_some, psh, if_true, if_false, i10, not_true_eq_false, not_false_eq_true, Bool.false_eq_true, and_self, and_true, true_and, eq_self, qI_81_0, qI_81_2, qI_81_3, qI_81_9, qI_81_10, qI_81_11, qI_81_12, qI_81_13, qI_81_18, qI_81_19, qI_81_20, qI_81_21, qI_81_29, qI_81_30, qI_81_31, qI_81_32, qI_81_33, qI_81_34, qI_81_35, qI_81_39, qI_81_40, qI_81_41, qI_81_42, qI_81_43, qI_81_44, qI_81_45, qI_81_46, qI_81_47, qI_81_51, qI_81_53, qR_81_1, qRd_81_1, qR_81_4, qRd_81_4, qR_81_5, qRd_81_5, qR_81_6, qRd_81_6, qR_81_7, qRd_81_7, qR_81_8, qRd_81_8, qR_81_14, qRd_81_14, qR_81_15, qRd_81_15, qR_81_16, qRd_81_16, qR_81_17, qRd_81_17, qR_81_22, qRd_81_22, qR_81_23, qRd_81_23, qR_81_24, qRd_81_24, qR_81_25, qRd_81_25, qR_81_26, qRd_81_26, qR_81_27, qRd_81_27, qR_81_28, qRd_81_28, qR_81_36, qRd_81_36, qR_81_37, qRd_81_37, qR_81_38, qRd_81_38, qR_81_48, qRd_81_48, qR_81_49, qRd_81_49, qR_81_50, qRd_81_50, qR_81_52, qRd_81_52, qR_81_54, qRd_81_54, qR_81_55, qRd_81_55, qR_81_56, qRd_81_56, qR_81_57, qRd_81_57, qR_81_58, qRd_81_58, qO_81, hsub d s h0]
  exact this
theorem ex_compared {c : Nat} (hT : tOK mu) (hG : Gd mu k sub) (hsub : ∀ d s, Pre mu k s → Rr X (d + c) MRm_sum 0 [.ref 81, mkU] [] (Wd (pm mu s) la ro et) = some (none, Wd (pm mu (sub s)) la ro et)) (d : Nat) (s : PS) (h0 : Pre mu k s) : Rr X (d + c + 1) MRm_compared 0 [.ref 81, mkU] [] (Wd (pm mu s) la ro et) = some (none, Wd (pm mu (jn mu isCp 1 sub s)) la ro et) := by
  have hT2 := Tt_le hT
  have hr := hG s h0
  have e0 := hsub d s h0
  unfold jn
  generalize sub s = r at hr e0
  have hl : r.1 ≤ 120 := by have := hr.1.2; omega
  rw [loopJ]
  by_cases c1 : noF r = true
  · by_cases c2 : isCp (bt mu r.1) = true
    · rw [if_pos (by rw [c1, c2]; rfl), loopJ]
      obtain ⟨g1, g2, g3⟩ := Rl_step sg_Cp hG h0 hr c1 c2
      have b1 := (sg_Cp _ c2).2.1
      have ea := fun d => e_addStep (X := X) (d := d) (mu := mu) (la := la) (ro := ro) (et := et) (s := sub (hS r)) (a := bt mu r.1) (w := 0) (by omega) b1
      have es := hsub d _ g1
      have b3 := of_decide_eq_true c2
      rcases b3 with b3 | b3 | b3
      · have t : (bt mu r.1 = 60) = True := eq_true b3
        simp only [r_MRm_compared_0, r_MRm_compared_1, r_MRm_compared_4, r_MRm_compared_5, r_MRm_compared_8, r_MRm_compared_9, r_MRm_compared_10, r_MRm_compared_13, r_MRm_compared_16, r_MRm_compared_17, r_MRm_compared_19, r_MRm_compared_22, r_MRm_compared_23, r_MRm_compared_25, r_MRm_compared_28, r_MRm_compared_29, r_MRm_compared_31, r_MRm_compared_34, r_MRm_compared_35, r_MRm_compared_36, r_MRm_compared_36i, r_MRm_compared_37, r_MRm_compared_40, r_MRm_compared_41, r_MRm_compared_42, r_MRm_compared_45, r_MRm_compared_46, r_MRm_compared_49, r_MRm_compared_50, r_MRm_compared_51, r_MRm_compared_52, r_MRm_compared_55, sL_0, sL_1, sL_2, mk_i, mk_r, mk_f, mk_n, mk_u, mk_l, List.set_cons_succ, List.set_cons_zero, Nat.reduceAdd, ckS_0, ckS_1, ckS_2, ckS_3, ckS_4, Option.bind_some, Option.isSome_some, psh, if_true, if_false, i10, not_true_eq_false, not_false_eq_true, Bool.false_eq_true, and_self, and_true, true_and, eq_self, qI_81_0, qI_81_2, qI_81_3, qI_81_9, qI_81_10, qI_81_11, qI_81_12, qI_81_13, qI_81_18, qI_81_19, qI_81_20, qI_81_21, qI_81_29, qI_81_30, qI_81_31, qI_81_32, qI_81_33, qI_81_34, qI_81_35, qI_81_39, qI_81_40, qI_81_41, qI_81_42, qI_81_43, qI_81_44, qI_81_45, qI_81_46, qI_81_47, qI_81_51, qI_81_53, qR_81_1, qRd_81_1, qR_81_4, qRd_81_4, qR_81_5, qRd_81_5, qR_81_6, qRd_81_6, qR_81_7, qRd_81_7, qR_81_8, qRd_81_8, qR_81_14, qRd_81_14, qR_81_15, qRd_81_15, qR_81_16, qRd_81_16, qR_81_17, qRd_81_17, qR_81_22, qRd_81_22, qR_81_23, qRd_81_23, qR_81_24, qRd_81_24, qR_81_25, qRd_81_25, qR_81_26, qRd_81_26, qR_81_27, qRd_81_27, qR_81_28, qRd_81_28, qR_81_36, qRd_81_36, qR_81_37, qRd_81_37, qR_81_38, qRd_81_38, qR_81_48, qRd_81_48, qR_81_49, qRd_81_49, qR_81_50, qRd_81_50, qR_81_52, qRd_81_52, qR_81_54, qRd_81_54, qR_81_55, qRd_81_55, qR_81_56, qRd_81_56, qR_81_57, qRd_81_57, qR_81_58, qRd_81_58, qO_81, e0, pm_19, fge1 c1, e_look hl hT, pm_18, nI_1, up_h, es, ea, t]
      · have f60 : (bt mu r.1 = 60) = False := eq_false (by rw [b3]; decide)
        have t : (bt mu r.1 = 61) = True := eq_true b3
        simp only [r_MRm_compared_0, r_MRm_compared_1, r_MRm_compared_4, r_MRm_compared_5, r_MRm_compared_8, r_MRm_compared_9, r_MRm_compared_10, r_MRm_compared_13, r_MRm_compared_16, r_MRm_compared_17, r_MRm_compared_19, r_MRm_compared_22, r_MRm_compared_23, r_MRm_compared_25, r_MRm_compared_28, r_MRm_compared_29, r_MRm_compared_31, r_MRm_compared_34, r_MRm_compared_35, r_MRm_compared_36, r_MRm_compared_36i, r_MRm_compared_37, r_MRm_compared_40, r_MRm_compared_41, r_MRm_compared_42, r_MRm_compared_45, r_MRm_compared_46, r_MRm_compared_49, r_MRm_compared_50, r_MRm_compared_51, r_MRm_compared_52, r_MRm_compared_55, sL_0, sL_1, sL_2, mk_i, mk_r, mk_f, mk_n, mk_u, mk_l, List.set_cons_succ, List.set_cons_zero, Nat.reduceAdd, ckS_0, ckS_1, ckS_2, ckS_3, ckS_4, Option.bind_some, Option.isSome_some, psh, if_true, if_false, i10, not_true_eq_false, not_false_eq_true, Bool.false_eq_true, and_self, and_true, true_and, eq_self, qI_81_0, qI_81_2, qI_81_3, qI_81_9, qI_81_10, qI_81_11, qI_81_12, qI_81_13, qI_81_18, qI_81_19, qI_81_20, qI_81_21, qI_81_29, qI_81_30, qI_81_31, qI_81_32, qI_81_33, qI_81_34, qI_81_35, qI_81_39, qI_81_40, qI_81_41, qI_81_42, qI_81_43, qI_81_44, qI_81_45, qI_81_46, qI_81_47, qI_81_51, qI_81_53, qR_81_1, qRd_81_1, qR_81_4, qRd_81_4, qR_81_5, qRd_81_5, qR_81_6, qRd_81_6, qR_81_7, qRd_81_7, qR_81_8, qRd_81_8, qR_81_14, qRd_81_14, qR_81_15, qRd_81_15, qR_81_16, qRd_81_16, qR_81_17, qRd_81_17, qR_81_22, qRd_81_22, qR_81_23, qRd_81_23, qR_81_24, qRd_81_24, qR_81_25, qRd_81_25, qR_81_26, qRd_81_26, qR_81_27, qRd_81_27, qR_81_28, qRd_81_28, qR_81_36, qRd_81_36, qR_81_37, qRd_81_37, qR_81_38, qRd_81_38, qR_81_48, qRd_81_48, qR_81_49, qRd_81_49, qR_81_50, qRd_81_50, qR_81_52, qRd_81_52, qR_81_54, qRd_81_54, qR_81_55, qRd_81_55, qR_81_56, qRd_81_56, qR_81_57, qRd_81_57, qR_81_58, qRd_81_58, qO_81, e0, pm_19, fge1 c1, e_look hl hT, pm_18, nI_1, up_h, es, ea, f60, t]
      · have f60 : (bt mu r.1 = 60) = False := eq_false (by rw [b3]; decide)
        have f61 : (bt mu r.1 = 61) = False := eq_false (by rw [b3]; decide)
        have t : (bt mu r.1 = 62) = True := eq_true b3
        simp only [r_MRm_compared_0, r_MRm_compared_1, r_MRm_compared_4, r_MRm_compared_5, r_MRm_compared_8, r_MRm_compared_9, r_MRm_compared_10, r_MRm_compared_13, r_MRm_compared_16, r_MRm_compared_17, r_MRm_compared_19, r_MRm_compared_22, r_MRm_compared_23, r_MRm_compared_25, r_MRm_compared_28, r_MRm_compared_29, r_MRm_compared_31, r_MRm_compared_34, r_MRm_compared_35, r_MRm_compared_36, r_MRm_compared_36i, r_MRm_compared_37, r_MRm_compared_40, r_MRm_compared_41, r_MRm_compared_42, r_MRm_compared_45, r_MRm_compared_46, r_MRm_compared_49, r_MRm_compared_50, r_MRm_compared_51, r_MRm_compared_52, r_MRm_compared_55, sL_0, sL_1, sL_2, mk_i, mk_r, mk_f, mk_n, mk_u, mk_l, List.set_cons_succ, List.set_cons_zero, Nat.reduceAdd, ckS_0, ckS_1, ckS_2, ckS_3, ckS_4, Option.bind_some, Option.isSome_some, psh, if_true, if_false, i10, not_true_eq_false, not_false_eq_true, Bool.false_eq_true, and_self, and_true, true_and, eq_self, qI_81_0, qI_81_2, qI_81_3, qI_81_9, qI_81_10, qI_81_11, qI_81_12, qI_81_13, qI_81_18, qI_81_19, qI_81_20, qI_81_21, qI_81_29, qI_81_30, qI_81_31, qI_81_32, qI_81_33, qI_81_34, qI_81_35, qI_81_39, qI_81_40, qI_81_41, qI_81_42, qI_81_43, qI_81_44, qI_81_45, qI_81_46, qI_81_47, qI_81_51, qI_81_53, qR_81_1, qRd_81_1, qR_81_4, qRd_81_4, qR_81_5, qRd_81_5, qR_81_6, qRd_81_6, qR_81_7, qRd_81_7, qR_81_8, qRd_81_8, qR_81_14, qRd_81_14, qR_81_15, qRd_81_15, qR_81_16, qRd_81_16, qR_81_17, qRd_81_17, qR_81_22, qRd_81_22, qR_81_23, qRd_81_23, qR_81_24, qRd_81_24, qR_81_25, qRd_81_25, qR_81_26, qRd_81_26, qR_81_27, qRd_81_27, qR_81_28, qRd_81_28, qR_81_36, qRd_81_36, qR_81_37, qRd_81_37, qR_81_38, qRd_81_38, qR_81_48, qRd_81_48, qR_81_49, qRd_81_49, qR_81_50, qRd_81_50, qR_81_52, qRd_81_52, qR_81_54, qRd_81_54, qR_81_55, qRd_81_55, qR_81_56, qRd_81_56, qR_81_57, qRd_81_57, qR_81_58, qRd_81_58, qO_81, e0, pm_19, fge1 c1, e_look hl hT, pm_18, nI_1, up_h, es, ea, f60, f61, t]
    · rw [if_neg (by rw [c1, Bool.true_and]; exact c2)]
      have b3 := of_decide_eq_false (Bool.eq_false_iff.mpr c2)
      have f60 : (bt mu r.1 = 60) = False := eq_false (fun h => b3 (.inl h))
      have f61 : (bt mu r.1 = 61) = False := eq_false (fun h => b3 (.inr (.inl h)))
      have f62 : (bt mu r.1 = 62) = False := eq_false (fun h => b3 (.inr (.inr h)))
      simp only [r_MRm_compared_0, r_MRm_compared_1, r_MRm_compared_4, r_MRm_compared_5, r_MRm_compared_8, r_MRm_compared_9, r_MRm_compared_10, r_MRm_compared_13, r_MRm_compared_16, r_MRm_compared_17, r_MRm_compared_19, r_MRm_compared_22, r_MRm_compared_23, r_MRm_compared_25, r_MRm_compared_28, r_MRm_compared_29, r_MRm_compared_31, r_MRm_compared_34, sL_0, sL_1, sL_2, mk_i, mk_r, mk_f, mk_n, mk_u, mk_l, List.set_cons_succ, List.set_cons_zero, Nat.reduceAdd, ckS_0, ckS_1, ckS_2, ckS_3, ckS_4, Option.bind_some, Option.isSome_some, psh, if_true, if_false, i10, not_true_eq_false, not_false_eq_true, Bool.false_eq_true, and_self, and_true, true_and, eq_self, qI_81_0, qI_81_2, qI_81_3, qI_81_9, qI_81_10, qI_81_11, qI_81_12, qI_81_13, qI_81_18, qI_81_19, qI_81_20, qI_81_21, qI_81_29, qI_81_30, qI_81_31, qI_81_32, qI_81_33, qI_81_34, qI_81_35, qI_81_39, qI_81_40, qI_81_41, qI_81_42, qI_81_43, qI_81_44, qI_81_45, qI_81_46, qI_81_47, qI_81_51, qI_81_53, qR_81_1, qRd_81_1, qR_81_4, qRd_81_4, qR_81_5, qRd_81_5, qR_81_6, qRd_81_6, qR_81_7, qRd_81_7, qR_81_8, qRd_81_8, qR_81_14, qRd_81_14, qR_81_15, qRd_81_15, qR_81_16, qRd_81_16, qR_81_17, qRd_81_17, qR_81_22, qRd_81_22, qR_81_23, qRd_81_23, qR_81_24, qRd_81_24, qR_81_25, qRd_81_25, qR_81_26, qRd_81_26, qR_81_27, qRd_81_27, qR_81_28, qRd_81_28, qR_81_36, qRd_81_36, qR_81_37, qRd_81_37, qR_81_38, qRd_81_38, qR_81_48, qRd_81_48, qR_81_49, qRd_81_49, qR_81_50, qRd_81_50, qR_81_52, qRd_81_52, qR_81_54, qRd_81_54, qR_81_55, qRd_81_55, qR_81_56, qRd_81_56, qR_81_57, qRd_81_57, qR_81_58, qRd_81_58, qO_81, e0, pm_19, fge1 c1, e_look hl hT, f60, f61, f62]
  · rw [if_neg (by rw [Bool.and_eq_true]; exact fun h => c1 h.1)]
    simp only [r_MRm_compared_0, r_MRm_compared_1, r_MRm_compared_4, r_MRm_compared_5, r_MRm_compared_8, r_MRm_compared_9, r_MRm_compared_10, r_MRm_compared_13, r_MRm_compared_16, r_MRm_compared_17, r_MRm_compared_19, r_MRm_compared_22, r_MRm_compared_23, r_MRm_compared_25, r_MRm_compared_28, r_MRm_compared_29, r_MRm_compared_31, r_MRm_compared_34, sL_0, sL_1, sL_2, mk_i, mk_r, mk_f, mk_n, mk_u, mk_l, List.set_cons_succ, List.set_cons_zero, Nat.reduceAdd, ckS_0, ckS_1, ckS_2, ckS_3, ckS_4, Option.bind_some, Option.isSome_some, psh, if_true, if_false, i10, not_true_eq_false, not_false_eq_true, Bool.false_eq_true, and_self, and_true, true_and, eq_self, qI_81_0, qI_81_2, qI_81_3, qI_81_9, qI_81_10, qI_81_11, qI_81_12, qI_81_13, qI_81_18, qI_81_19, qI_81_20, qI_81_21, qI_81_29, qI_81_30, qI_81_31, qI_81_32, qI_81_33, qI_81_34, qI_81_35, qI_81_39, qI_81_40, qI_81_41, qI_81_42, qI_81_43, qI_81_44, qI_81_45, qI_81_46, qI_81_47, qI_81_51, qI_81_53, qR_81_1, qRd_81_1, qR_81_4, qRd_81_4, qR_81_5, qRd_81_5, qR_81_6, qRd_81_6, qR_81_7, qRd_81_7, qR_81_8, qRd_81_8, qR_81_14, qRd_81_14, qR_81_15, qRd_81_15, qR_81_16, qRd_81_16, qR_81_17, qRd_81_17, qR_81_22, qRd_81_22, qR_81_23, qRd_81_23, qR_81_24, qRd_81_24, qR_81_25, qRd_81_25, qR_81_26, qRd_81_26, qR_81_27, qRd_81_27, qR_81_28, qRd_81_28, qR_81_36, qRd_81_36, qR_81_37, qRd_81_37, qR_81_38, qRd_81_38, qR_81_48, qRd_81_48, qR_81_49, qRd_81_49, qR_81_50, qRd_81_50, qR_81_52, qRd_81_52, qR_81_54, qRd_81_54, qR_81_55, qRd_81_55, qR_81_56, qRd_81_56, qR_81_57, qRd_81_57, qR_81_58, qRd_81_58, qO_81, e0, pm_19, fge0 c1 hr.2.2.1 hT, e_look hl hT]
theorem ex_lv5 {c : Nat} (hT : tOK mu) (hG : Gd mu k sub) (hsub : ∀ d s, Pre mu k s → Rr X (d + c) MRm_operand 0 [.ref 81, mkU] [] (Wd (pm mu s) la ro et) = some (none, Wd (pm mu (sub s)) la ro et)) (d : Nat) (s : PS) (h0 : Pre mu k s) : Rr X (d + c + 5) MRm_either 0 [.ref 81] [] (Wd (pm mu s) la ro et) = some (none, Wd (pm mu (lv5 mu sub s)) la ro et) := by
  obtain ⟨g1, g2, g3, g4, g5⟩ := Gd_lv5 hG
  exact ex_either (c := c + 4) hT g4 (fun d s h => ex_both (c := c + 3) hT g3 (fun d s h => ex_compared (c := c + 2) hT g2 (fun d s h => ex_sum (c := c + 1) hT g1 (fun d s h => ex_product (c := c) hT hG hsub d s h) d s h) d s h) d s h) d s h0
end
