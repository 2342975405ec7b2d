-- ===== feed, on both sides
noncomputable def byC (v : Int32) (k : Nat) : Int32 := ((v.toUInt32 >>> ((8 * nI k : Int32).toUInt32 &&& Int32.toUInt32 31)).toInt32).toInt8.toInt32
noncomputable def byM (v : Int32) (k : Nat) : Int32 := (v >>> ((8 * nI k : Int32) &&& 31)).toInt8.toInt32
theorem i88 (x : Int32) : x.toInt8.toInt32.toInt8.toInt32 = x.toInt8.toInt32 := by rw [Int8.toInt8_toInt32]
theorem sh_k : ∀ k, k < 4 → ((8 * nI k : Int32).toUInt32 &&& Int32.toUInt32 31) = UInt32.ofNat (8 * k) ∧ ((8 * nI k : Int32) &&& 31) = Int32.ofNat (8 * k) := by decide +kernel
theorem lo8 {v b : Int32} {s : Nat} {a : UInt32} (hs : s ≤ 24) (ha : (v.toUInt32 >>> a).toBitVec = v.toBitVec >>> s) (hb : (v >>> b).toBitVec = v.toBitVec.sshiftRight s) : ((v.toUInt32 >>> a).toInt32).toInt8 = (v >>> b).toInt8 := by
  refine Int8.toBitVec_inj.mp ?_
  show BitVec.signExtend 8 (v.toUInt32 >>> a).toBitVec = BitVec.signExtend 8 (v >>> b).toBitVec
  rw [ha, hb]
  refine BitVec.eq_of_getLsbD_eq fun i hi => ?_
  have h1 : i < 32 := by omega
  have h2 : s + i < 32 := by omega
  have h3 : ¬ 32 ≤ i := by omega
  rw [BitVec.getLsbD_signExtend, BitVec.getLsbD_signExtend, if_pos h1, if_pos h1, BitVec.getLsbD_ushiftRight, BitVec.getLsbD_sshiftRight, if_pos h2, decide_eq_false h3]
  simp
theorem by_eq {v : Int32} {k : Nat} (h : k < 4) : byC v k = byM v k := by
  unfold byC byM
  rw [(sh_k k h).1, (sh_k k h).2]
  congr 1
  refine lo8 (s := 8 * k) (by omega) ?_ ?_
  · have hk : k = 0 ∨ k = 1 ∨ k = 2 ∨ k = 3 := by omega
    rcases hk with rfl | rfl | rfl | rfl <;> first | rfl | simp
  · have hk : k = 0 ∨ k = 1 ∨ k = 2 ∨ k = 3 := by omega
    rcases hk with rfl | rfl | rfl | rfl <;> first | rfl | simp
/-- so many bytes more, on the class's side and on the model's -/
noncomputable def fdC (mu : Mu) (T : Nat) (v : Int32) (k : Nat) : Mu := fun c j => if c = 1 ∧ j = 1 then nI (T + k) else if c = 2 ∧ T ≤ j ∧ j < T + k then byC v (j - T) else mu c j
noncomputable def fdM (mu : Mu) (T : Nat) (v : Int32) (k : Nat) : Mu := fun c j => if c = 81 ∧ j = 2 then nI (T + k) else if c = 82 ∧ T ≤ j ∧ j < T + k then byM v (j - T) else mu c j
section
variable {X : Tok} {d : Nat} {mu mu' : Mu} {la la' : La} {ro ro' : Ro} {et : Nat → Option va_E} {T k : Nat} {v n : Int32}
theorem fdC_0 (h : mu 1 1 = nI T) : fdC mu T v 0 = mu := by
  refine funext fun c => funext fun j => ?_
  unfold fdC
  by_cases q : c = 1 ∧ j = 1
  · rw [if_pos q, q.1, q.2, h]; rfl
  · rw [if_neg q, if_neg (by omega)]
theorem fdM_0 (h : mu 81 2 = nI T) : fdM mu T v 0 = mu := by
  refine funext fun c => funext fun j => ?_
  unfold fdM
  by_cases q : c = 81 ∧ j = 2
  · rw [if_pos q, q.1, q.2, h]; rfl
  · rw [if_neg q, if_neg (by omega)]
theorem fdC_s : up2 (up2 (fdC mu T v k) 2 (T + k) (byC v k)) 1 1 (nI (T + k + 1)) = fdC mu T v (k + 1) := by
  refine funext fun c => funext fun j => ?_
  simp only [up2_e, fdC]
  by_cases q : c = 1 ∧ j = 1
  · rw [if_pos q, if_pos q, Nat.add_assoc]
  · rw [if_neg q, if_neg q, if_neg q]
    by_cases q2 : c = 2
    · by_cases q3 : j = T + k
      · rw [if_pos ⟨q2, q3⟩, if_pos ⟨q2, by omega, by omega⟩, show j - T = k by omega]
      · rw [if_neg (fun q => q3 q.2)]
        by_cases q4 : T ≤ j ∧ j < T + k
        · rw [if_pos ⟨q2, q4⟩, if_pos ⟨q2, by omega, by omega⟩]
        · rw [if_neg (fun q => q4 q.2), if_neg (by omega)]
    · rw [if_neg (fun q => q2 q.1), if_neg (fun q => q2 q.1), if_neg (fun q => q2 q.1)]
theorem fdM_s : up2 (up2 (fdM mu T v k) 82 (T + k) (byM v k)) 81 2 (nI (T + k + 1)) = fdM mu T v (k + 1) := by
  refine funext fun c => funext fun j => ?_
  simp only [up2_e, fdM]
  by_cases q : c = 81 ∧ j = 2
  · rw [if_pos q, if_pos q, Nat.add_assoc]
  · rw [if_neg q, if_neg q, if_neg q]
    by_cases q2 : c = 82
    · by_cases q3 : j = T + k
      · rw [if_pos ⟨q2, q3⟩, if_pos ⟨q2, by omega, by omega⟩, show j - T = k by omega]
      · rw [if_neg (fun q => q3 q.2)]
        by_cases q4 : T ≤ j ∧ j < T + k
        · rw [if_pos ⟨q2, q4⟩, if_pos ⟨q2, by omega, by omega⟩]
        · rw [if_neg (fun q => q4 q.2), if_neg (by omega)]
    · rw [if_neg (fun q => q2 q.1), if_neg (fun q => q2 q.1), if_neg (fun q => q2 q.1)]
theorem e_tapp {x : Int32} (hT : T < 120) (h : mu 1 1 = nI T) : Rr X d MTa_append 0 [.ref 1, .int x] [] (Wd mu la ro et) = some (none, Wd (up2 (up2 mu 2 T x.toInt8.toInt32) 1 1 (nI (T + 1))) la ro et) := by
  have h1 : ¬ nI T < 0 := nI_pos (by omega)
  have h2 : ¬ Int32.ofNat 120 ≤ nI T := nI_ge (a := T) (b := 120) hT (by omega)
  have cT : (nI T).toNatClampNeg = T := nI_clamp (by omega)
  have iT : ¬ 120 ≤ T := by omega
  have e : ∀ y, up2 mu 2 T y 1 1 = nI T := fun y => (up2_a (by decide)).trans h
  simp only [r_MTa_append_0, r_MTa_append_1, r_MTa_append_4, r_MTa_append_7, r_MTa_append_8, r_MTa_append_11, r_MTa_append_12, r_MTa_append_15, r_MTa_append_16, r_MTa_append_19, r_MTa_append_20, r_MTa_append_23, r_MTa_append_24, r_MTa_append_27, r_MTa_append_28, r_MTa_append_29, r_MTa_append_30, r_MTa_append_31, r_MTa_append_31i, r_MTa_append_32, r_MTa_append_35, r_MTa_append_36, r_MTa_append_37, r_MTa_append_40, sL_0, sL_1, sL_2, mk_i, mk_r, mk_f, mk_n, mk_u, mk_l, List.set_cons_succ, List.set_cons_zero, Nat.reduceAdd, ckS_0, ckS_1, ckS_2, ckS_3, ckS_4, Option.bind_some, Option.isSome_some, psh, if_true, if_false, i10, not_true_eq_false, not_false_eq_true, Bool.false_eq_true, and_self, and_true, true_and, eq_self, qI_1_1, qI_1_2, qR_1_0, qRd_1_0, qA_2, qAd_2, qO_1, qL_2, qLd_2, h, h1, h2, cT, iT, i88, e, nI_1, or_self]
theorem fd_loopC {N : Nat} (hN : N ≤ 4) (hT : T + N ≤ 120) : ∀ (r k : Nat), k + r = N → Rr X (d + 1) MTo_feed 30 [.ref 0, .int (nI N), .int v, .int (nI k)] [] (Wd (fdC mu T v k) la ro et) = some (some (.int (nI (T + N))), Wd (fdC mu T v N) la ro et)
  | 0, k, hk => by
    have : k = N := by omega
    subst this
    have h1 : nI k ≤ nI k := nI_le (Nat.le_refl _) (by omega)
    have e : fdC mu T v k 1 1 = nI (T + k) := if_pos ⟨rfl, rfl⟩
    rw [r_MTo_feed_30]
    simp only [r_MTo_feed_31, r_MTo_feed_32, r_MTo_feed_54, r_MTo_feed_55, r_MTo_feed_58, r_MTo_feed_61, sL_0, sL_1, sL_2, mk_i, mk_r, mk_f, mk_n, mk_u, mk_l, List.set_cons_succ, List.set_cons_zero, Nat.reduceAdd, ckS_0, ckS_1, ckS_2, ckS_3, ckS_4, Option.bind_some, Option.isSome_some, psh, if_true, if_false, i10, not_true_eq_false, not_false_eq_true, Bool.false_eq_true, and_self, and_true, true_and, eq_self, qI_0_9, qI_0_10, qI_1_1, qI_1_2, qR_0_0, qRd_0_0, qR_0_1, qRd_0_1, qR_0_2, qRd_0_2, qR_0_3, qRd_0_3, qR_0_4, qRd_0_4, qR_0_5, qRd_0_5, qR_0_6, qRd_0_6, qR_0_7, qRd_0_7, qR_0_8, qRd_0_8, qR_1_0, qRd_1_0, qO_0, qO_1, h1, e]
  | r + 1, k, hk => by
    have h1 : ¬ nI N ≤ nI k := nI_ge (by omega) (by omega)
    have e : fdC mu T v k 1 1 = nI (T + k) := if_pos ⟨rfl, rfl⟩
    have ea := e_tapp (X := X) (d := d) (la := la) (ro := ro) (et := et) (x := (v.toUInt32 >>> ((8 * nI k : Int32).toUInt32 &&& Int32.toUInt32 31)).toInt32) (show T + k < 120 by omega) e
    have nx := fd_loopC hN hT r (k + 1) (by omega)
    rw [← fdC_s] at nx
    rw [r_MTo_feed_30]
    simp only [r_MTo_feed_31, r_MTo_feed_32, r_MTo_feed_35, r_MTo_feed_36, r_MTo_feed_39, r_MTo_feed_40, r_MTo_feed_42, r_MTo_feed_43, r_MTo_feed_44, r_MTo_feed_45, r_MTo_feed_48, r_MTo_feed_51, sL_0, sL_1, sL_2, mk_i, mk_r, mk_f, mk_n, mk_u, mk_l, List.set_cons_succ, List.set_cons_zero, Nat.reduceAdd, ckS_0, ckS_1, ckS_2, ckS_3, ckS_4, Option.bind_some, Option.isSome_some, psh, if_true, if_false, i10, not_true_eq_false, not_false_eq_true, Bool.false_eq_true, and_self, and_true, true_and, eq_self, qI_0_9, qI_0_10, qI_1_1, qI_1_2, qR_0_0, qRd_0_0, qR_0_1, qRd_0_1, qR_0_2, qRd_0_2, qR_0_3, qRd_0_3, qR_0_4, qRd_0_4, qR_0_5, qRd_0_5, qR_0_6, qRd_0_6, qR_0_7, qRd_0_7, qR_0_8, qRd_0_8, qR_1_0, qRd_1_0, qO_0, qO_1, h1, ea, nI_1]
    exact nx
theorem fd_loopM {N : Nat} (hN : N ≤ 4) (hT : T + N ≤ 120) : ∀ (r k : Nat), k + r = N → Rr X d MRm_feed 27 [.ref 81, .int (nI N), .int v, .int (nI k)] [] (Wd (fdM mu T v k) la ro et) = some (some (.int (nI (T + N))), Wd (fdM mu T v N) la ro et)
  | 0, k, hk => by
    have : k = N := by omega
    subst this
    have h1 : nI k ≤ nI k := nI_le (Nat.le_refl _) (by omega)
    have e : fdM mu T v k 81 2 = nI (T + k) := if_pos ⟨rfl, rfl⟩
    rw [r_MRm_feed_27]
    simp only [r_MRm_feed_28, r_MRm_feed_29, r_MRm_feed_64, r_MRm_feed_65, r_MRm_feed_68, sL_0, sL_1, sL_2, mk_i, mk_r, mk_f, mk_n, mk_u, mk_l, List.set_cons_succ, List.set_cons_zero, Nat.reduceAdd, ckS_0, ckS_1, ckS_2, ckS_3, ckS_4, Option.bind_some, Option.isSome_some, psh, if_true, if_false, i10, not_true_eq_false, not_false_eq_true, Bool.false_eq_true, and_self, and_true, true_and, eq_self, qI_81_0, qI_81_2, qI_81_3, qI_81_9, qI_81_10, qI_81_11, qI_81_12, qI_81_13, qI_81_18, qI_81_19, qI_81_20, qI_81_21, qI_81_29, qI_81_30, qI_81_31, qI_81_32, qI_81_33, qI_81_34, qI_81_35, qI_81_39, qI_81_40, qI_81_41, qI_81_42, qI_81_43, qI_81_44, qI_81_45, qI_81_46, qI_81_47, qI_81_51, qI_81_53, qR_81_1, qRd_81_1, qR_81_4, qRd_81_4, qR_81_5, qRd_81_5, qR_81_6, qRd_81_6, qR_81_7, qRd_81_7, qR_81_8, qRd_81_8, qR_81_14, qRd_81_14, qR_81_15, qRd_81_15, qR_81_16, qRd_81_16, qR_81_17, qRd_81_17, qR_81_22, qRd_81_22, qR_81_23, qRd_81_23, qR_81_24, qRd_81_24, qR_81_25, qRd_81_25, qR_81_26, qRd_81_26, qR_81_27, qRd_81_27, qR_81_28, qRd_81_28, qR_81_36, qRd_81_36, qR_81_37, qRd_81_37, qR_81_38, qRd_81_38, qR_81_48, qRd_81_48, qR_81_49, qRd_81_49, qR_81_50, qRd_81_50, qR_81_52, qRd_81_52, qR_81_54, qRd_81_54, qR_81_55, qRd_81_55, qR_81_56, qRd_81_56, qR_81_57, qRd_81_57, qR_81_58, qRd_81_58, qO_81, h1, e]
  | r + 1, k, hk => by
    have h1 : ¬ nI N ≤ nI k := nI_ge (by omega) (by omega)
    have e : fdM mu T v k 81 2 = nI (T + k) := if_pos ⟨rfl, rfl⟩
    have e2 : ∀ y, up2 (fdM mu T v k) 82 (T + k) y 81 2 = nI (T + k) := fun y => (up2_a (by decide)).trans e
    have cT : (nI (T + k)).toNatClampNeg = T + k := nI_clamp (by omega)
    have iT := ix (j := T + k) (N := 120) (by omega) (by decide)
    have nx := fd_loopM hN hT r (k + 1) (by omega)
    rw [← fdM_s] at nx
    rw [r_MRm_feed_27]
    simp only [r_MRm_feed_28, r_MRm_feed_29, r_MRm_feed_32, r_MRm_feed_33, r_MRm_feed_36, r_MRm_feed_37, r_MRm_feed_40, r_MRm_feed_41, r_MRm_feed_43, r_MRm_feed_44, r_MRm_feed_45, r_MRm_feed_46, r_MRm_feed_47, r_MRm_feed_48, r_MRm_feed_49, r_MRm_feed_49i, r_MRm_feed_50, r_MRm_feed_53, r_MRm_feed_54, r_MRm_feed_55, r_MRm_feed_58, r_MRm_feed_61, sL_0, sL_1, sL_2, mk_i, mk_r, mk_f, mk_n, mk_u, mk_l, List.set_cons_succ, List.set_cons_zero, Nat.reduceAdd, ckS_0, ckS_1, ckS_2, ckS_3, ckS_4, Option.bind_some, Option.isSome_some, psh, if_true, if_false, i10, not_true_eq_false, not_false_eq_true, Bool.false_eq_true, and_self, and_true, true_and, eq_self, qI_81_0, qI_81_2, qI_81_3, qI_81_9, qI_81_10, qI_81_11, qI_81_12, qI_81_13, qI_81_18, qI_81_19, qI_81_20, qI_81_21, qI_81_29, qI_81_30, qI_81_31, qI_81_32, qI_81_33, qI_81_34, qI_81_35, qI_81_39, qI_81_40, qI_81_41, qI_81_42, qI_81_43, qI_81_44, qI_81_45, qI_81_46, qI_81_47, qI_81_51, qI_81_53, qR_81_1, qRd_81_1, qR_81_4, qRd_81_4, qR_81_5, qRd_81_5, qR_81_6, qRd_81_6, qR_81_7, qRd_81_7, qR_81_8, qRd_81_8, qR_81_14, qRd_81_14, qR_81_15, qRd_81_15, qR_81_16, qRd_81_16, qR_81_17, qRd_81_17, qR_81_22, qRd_81_22, qR_81_23, qRd_81_23, qR_81_24, qRd_81_24, qR_81_25, qRd_81_25, qR_81_26, qRd_81_26, qR_81_27, qRd_81_27, qR_81_28, qRd_81_28, qR_81_36, qRd_81_36, qR_81_37, qRd_81_37, qR_81_38, qRd_81_38, qR_81_48, qRd_81_48, qR_81_49, qRd_81_49, qR_81_50, qRd_81_50, qR_81_52, qRd_81_52, qR_81_54, qRd_81_54, qR_81_55, qRd_81_55, qR_81_56, qRd_81_56, qR_81_57, qRd_81_57, qR_81_58, qRd_81_58, qA_82, qAd_82, qO_81, qL_82, qLd_82, h1, e, e2, cT, iT, i88, nI_1]
    exact nx
abbrev wFdC : WS := [(1, 2), (2, 0)]
abbrev wFdM : WS := [(81, 3), (82, 0)]
theorem fdC_fr : frm wFdC mu la ro (fdC mu T v k) la ro := by
  refine ⟨fun a j h1 h2 => ?_, fun _ _ => rfl, fun _ _ _ => rfl, fun _ => rfl⟩
  unfold fdC
  rw [if_neg (fun q => by rw [q.1, q.2] at h2; cases h2), if_neg (fun q => by rw [q.1] at h1; cases h1)]
theorem fdM_fr : frm wFdM mu la ro (fdM mu T v k) la ro := by
  refine ⟨fun a j h1 h2 => ?_, fun _ _ => rfl, fun _ _ _ => rfl, fun _ => rfl⟩
  unfold fdM
  rw [if_neg (fun q => by rw [q.1, q.2] at h2; cases h2), if_neg (fun q => by rw [q.1] at h1; cases h1)]
theorem fdC_g (hg : gOk ivG mu) : gOk ivG (fdC mu T v k) := by
  intro a j
  by_cases c1 : a = 1
  · subst c1
    exact ⟨by rw [ivF_ok (by decide)]; exact top_ok _, by rw [ivR_ok (by decide)]; exact top_ok _⟩
  by_cases c2 : a = 2
  · subst c2
    exact ⟨by rw [ivF_ok (by decide)]; exact top_ok _, by rw [ivR_ok (by decide)]; exact top_ok _⟩
  have e : fdC mu T v k a j = mu a j := by
    unfold fdC
    rw [if_neg (fun q => c1 q.1), if_neg (fun q => c2 q.1)]
  rw [e]
  exact hg a j
theorem fdM_g (hg : gOk ivG mu) (hT : T + k ≤ 120) : gOk ivG (fdM mu T v k) := by
  intro a j
  by_cases c2 : a = 82
  · subst c2
    exact ⟨by rw [ivF_ok (by decide)]; exact top_ok _, by rw [ivR_ok (by decide)]; exact top_ok _⟩
  by_cases c1 : a = 81 ∧ j = 2
  · obtain ⟨rfl, rfl⟩ := c1
    have e : fdM mu T v k 81 2 = nI (T + k) := if_pos ⟨rfl, rfl⟩
    rw [e]
    refine ⟨by rw [ivF_ok (by decide)]; exact top_ok _, ?_⟩
    show (0 : Int) ≤ (nI (T + k)).toInt ∧ (nI (T + k)).toInt ≤ 120
    rw [nI_toInt (by omega)]
    omega
  · have e : fdM mu T v k a j = mu a j := by
      unfold fdM
      rw [if_neg c1, if_neg (fun q => c2 q.1)]
    rw [e]
    exact hg a j
theorem feed_all (hg : gOk ivG mu) (hj : JB mu la ro) (q : RT mu) : ∃ (mu1 mu2 : Mu) (x : Int32), Rr X (d + 1) MTo_feed 0 [.ref 0, .int n, .int v, mkU] [] (Wd mu la ro et) = some (some (.int x), Wd mu1 la ro et) ∧ Rr X (d + 1) MRm_feed 0 [.ref 81, .int n, .int v, mkU] [] (Wd mu1 la ro et) = some (some (.int x), Wd mu2 la ro et) ∧ gOk ivG mu2 ∧ JB mu2 la ro ∧ RT mu2 ∧ frm (wFdC ++ wFdM) mu la ro mu2 la ro := by
  obtain ⟨T, t1, t2, t3, t4⟩ := id q
  by_cases c1 : 1 ≤ n ∧ n ≤ 4
  · obtain ⟨N, hN, rfl⟩ : ∃ N : Nat, N ≤ 4 ∧ n = nI N := nI_of2 (M := 4) (n := 4) rfl (fun h => by
      have g := c1.1
      simp only [Int32.le_iff_toInt_le, Int32.lt_iff_toInt_lt, show (0 : Int32).toInt = 0 from rfl, show (1 : Int32).toInt = 1 from rfl] at g h
      omega) c1.2
    by_cases c2 : T + N ≤ 120
    · have z : nI (T + N) ≤ 120 := nI_le (a := T + N) (b := 120) c2 (by omega)
      have lc := fd_loopC (X := X) (d := d) (mu := mu) (la := la) (ro := ro) (et := et) (v := v) hN c2 N 0 (by omega)
      rw [fdC_0 t2, nI_0] at lc
      have t3' : fdC mu T v N 81 2 = nI T := t3
      have lm := fd_loopM (X := X) (d := d + 1) (mu := fdC mu T v N) (la := la) (ro := ro) (et := et) (v := v) hN c2 N 0 (by omega)
      rw [fdM_0 t3', nI_0] at lm
      have f1 := fdC_fr (mu := mu) (la := la) (ro := ro) (T := T) (v := v) (k := N)
      have f2 := fdM_fr (mu := fdC mu T v N) (la := la) (ro := ro) (T := T) (v := v) (k := N)
      refine ⟨fdC mu T v N, fdM (fdC mu T v N) T v N, nI (T + N), ?_, ?_, fdM_g (fdC_g hg) c2, JS_B wFdM (by decide) _ _ _ _ _ _ f2 (JS_B wFdC (by decide) _ _ _ _ _ _ f1 hj), ⟨T + N, c2, rfl, rfl, fun i hi => ?_⟩, frm_t (frm_s (by decide) f1) (frm_s (by decide) f2)⟩
      · simp only [r_MTo_feed_0, r_MTo_feed_1, r_MTo_feed_2, r_MTo_feed_3, r_MTo_feed_6, r_MTo_feed_9, r_MTo_feed_10, r_MTo_feed_11, r_MTo_feed_12, r_MTo_feed_15, r_MTo_feed_18, r_MTo_feed_19, r_MTo_feed_20, r_MTo_feed_22, r_MTo_feed_25, r_MTo_feed_27, r_MTo_feed_28, r_MTo_feed_29, sL_0, sL_1, sL_2, mk_i, mk_r, mk_f, mk_n, mk_u, mk_l, List.set_cons_succ, List.set_cons_zero, Nat.reduceAdd, ckS_0, ckS_1, ckS_2, ckS_3, ckS_4, Option.bind_some, Option.isSome_some, psh, if_true, if_false, i10, not_true_eq_false, not_false_eq_true, Bool.false_eq_true, and_self, and_true, true_and, eq_self, qI_0_9, qI_0_10, qI_1_1, qI_1_2, qR_0_0, qRd_0_0, qR_0_1, qRd_0_1, qR_0_2, qRd_0_2, qR_0_3, qRd_0_3, qR_0_4, qRd_0_4, qR_0_5, qRd_0_5, qR_0_6, qRd_0_6, qR_0_7, qRd_0_7, qR_0_8, qRd_0_8, qR_1_0, qRd_1_0, qO_0, qO_1, e_isWithin, c1, t2, nI_add, z]
        exact lc
      · simp only [r_MRm_feed_0, r_MRm_feed_1, r_MRm_feed_2, r_MRm_feed_3, r_MRm_feed_6, r_MRm_feed_9, r_MRm_feed_10, r_MRm_feed_11, r_MRm_feed_12, r_MRm_feed_15, r_MRm_feed_16, r_MRm_feed_17, r_MRm_feed_19, r_MRm_feed_22, r_MRm_feed_24, r_MRm_feed_25, r_MRm_feed_26, sL_0, sL_1, sL_2, mk_i, mk_r, mk_f, mk_n, mk_u, mk_l, List.set_cons_succ, List.set_cons_zero, Nat.reduceAdd, ckS_0, ckS_1, ckS_2, ckS_3, ckS_4, Option.bind_some, Option.isSome_some, psh, if_true, if_false, i10, not_true_eq_false, not_false_eq_true, Bool.false_eq_true, and_self, and_true, true_and, eq_self, qI_81_0, qI_81_2, qI_81_3, qI_81_9, qI_81_10, qI_81_11, qI_81_12, qI_81_13, qI_81_18, qI_81_19, qI_81_20, qI_81_21, qI_81_29, qI_81_30, qI_81_31, qI_81_32, qI_81_33, qI_81_34, qI_81_35, qI_81_39, qI_81_40, qI_81_41, qI_81_42, qI_81_43, qI_81_44, qI_81_45, qI_81_46, qI_81_47, qI_81_51, qI_81_53, qR_81_1, qRd_81_1, qR_81_4, qRd_81_4, qR_81_5, qRd_81_5, qR_81_6, qRd_81_6, qR_81_7, qRd_81_7, qR_81_8, qRd_81_8, qR_81_14, qRd_81_14, qR_81_15, qRd_81_15, qR_81_16, qRd_81_16, qR_81_17, qRd_81_17, qR_81_22, qRd_81_22, qR_81_23, qRd_81_23, qR_81_24, qRd_81_24, qR_81_25, qRd_81_25, qR_81_26, qRd_81_26, qR_81_27, qRd_81_27, qR_81_28, qRd_81_28, qR_81_36, qRd_81_36, qR_81_37, qRd_81_37, qR_81_38, qRd_81_38, qR_81_48, qRd_81_48, qR_81_49, qRd_81_49, qR_81_50, qRd_81_50, qR_81_52, qRd_81_52, qR_81_54, qRd_81_54, qR_81_55, qRd_81_55, qR_81_56, qRd_81_56, qR_81_57, qRd_81_57, qR_81_58, qRd_81_58, qO_81, e_in, c1, t3', nI_add, z]
        exact lm
      · have e1 : fdM (fdC mu T v N) T v N 2 i = fdC mu T v N 2 i := rfl
        rw [e1]
        unfold fdM
        rw [if_neg (by omega)]
        by_cases h : T ≤ i
        · rw [if_pos ⟨rfl, h, hi⟩]
          have e2 : fdC mu T v N 2 i = byC v (i - T) := by
            unfold fdC
            rw [if_neg (by omega), if_pos ⟨rfl, h, hi⟩]
          rw [e2, by_eq (by omega)]
          exact ⟨rfl, i88 _⟩
        · rw [if_neg (by omega)]
          have e2 : fdC mu T v N 2 i = mu 2 i := by
            unfold fdC
            rw [if_neg (by omega), if_neg (by omega)]
          rw [e2]
          exact t4 i (by omega)
    · have z : ¬ nI (T + N) ≤ 120 := nI_ge (a := 120) (b := T + N) (by omega) (by omega)
      refine ⟨mu, mu, -3, ?_, ?_, hg, hj, q, frm_r _ _ _ _⟩
      · simp only [r_MTo_feed_0, r_MTo_feed_1, r_MTo_feed_2, r_MTo_feed_3, r_MTo_feed_6, r_MTo_feed_9, r_MTo_feed_10, r_MTo_feed_11, r_MTo_feed_12, r_MTo_feed_15, r_MTo_feed_18, r_MTo_feed_19, r_MTo_feed_20, r_MTo_feed_22, r_MTo_feed_25, r_MTo_feed_27, sL_0, sL_1, sL_2, mk_i, mk_r, mk_f, mk_n, mk_u, mk_l, List.set_cons_succ, List.set_cons_zero, Nat.reduceAdd, ckS_0, ckS_1, ckS_2, ckS_3, ckS_4, Option.bind_some, Option.isSome_some, psh, if_true, if_false, i10, not_true_eq_false, not_false_eq_true, Bool.false_eq_true, and_self, and_true, true_and, eq_self, qI_0_9, qI_0_10, qI_1_1, qI_1_2, qR_0_0, qRd_0_0, qR_0_1, qRd_0_1, qR_0_2, qRd_0_2, qR_0_3, qRd_0_3, qR_0_4, qRd_0_4, qR_0_5, qRd_0_5, qR_0_6, qRd_0_6, qR_0_7, qRd_0_7, qR_0_8, qRd_0_8, qR_1_0, qRd_1_0, qO_0, qO_1, e_isWithin, c1, t2, nI_add, z]
      · simp only [r_MRm_feed_0, r_MRm_feed_1, r_MRm_feed_2, r_MRm_feed_3, r_MRm_feed_6, r_MRm_feed_9, r_MRm_feed_10, r_MRm_feed_11, r_MRm_feed_12, r_MRm_feed_15, r_MRm_feed_16, r_MRm_feed_17, r_MRm_feed_19, r_MRm_feed_22, r_MRm_feed_24, sL_0, sL_1, sL_2, mk_i, mk_r, mk_f, mk_n, mk_u, mk_l, List.set_cons_succ, List.set_cons_zero, Nat.reduceAdd, ckS_0, ckS_1, ckS_2, ckS_3, ckS_4, Option.bind_some, Option.isSome_some, psh, if_true, if_false, i10, not_true_eq_false, not_false_eq_true, Bool.false_eq_true, and_self, and_true, true_and, eq_self, qI_81_0, qI_81_2, qI_81_3, qI_81_9, qI_81_10, qI_81_11, qI_81_12, qI_81_13, qI_81_18, qI_81_19, qI_81_20, qI_81_21, qI_81_29, qI_81_30, qI_81_31, qI_81_32, qI_81_33, qI_81_34, qI_81_35, qI_81_39, qI_81_40, qI_81_41, qI_81_42, qI_81_43, qI_81_44, qI_81_45, qI_81_46, qI_81_47, qI_81_51, qI_81_53, qR_81_1, qRd_81_1, qR_81_4, qRd_81_4, qR_81_5, qRd_81_5, qR_81_6, qRd_81_6, qR_81_7, qRd_81_7, qR_81_8, qRd_81_8, qR_81_14, qRd_81_14, qR_81_15, qRd_81_15, qR_81_16, qRd_81_16, qR_81_17, qRd_81_17, qR_81_22, qRd_81_22, qR_81_23, qRd_81_23, qR_81_24, qRd_81_24, qR_81_25, qRd_81_25, qR_81_26, qRd_81_26, qR_81_27, qRd_81_27, qR_81_28, qRd_81_28, qR_81_36, qRd_81_36, qR_81_37, qRd_81_37, qR_81_38, qRd_81_38, qR_81_48, qRd_81_48, qR_81_49, qRd_81_49, qR_81_50, qRd_81_50, qR_81_52, qRd_81_52, qR_81_54, qRd_81_54, qR_81_55, qRd_81_55, qR_81_56, qRd_81_56, qR_81_57, qRd_81_57, qR_81_58, qRd_81_58, qO_81, e_in, c1, t3, nI_add, z]
  · refine ⟨mu, mu, -1, ?_, ?_, hg, hj, q, frm_r _ _ _ _⟩
    · simp only [r_MTo_feed_0, r_MTo_feed_1, r_MTo_feed_2, r_MTo_feed_3, r_MTo_feed_6, r_MTo_feed_9, r_MTo_feed_10, sL_0, sL_1, sL_2, mk_i, mk_r, mk_f, mk_n, mk_u, mk_l, List.set_cons_succ, List.set_cons_zero, Nat.reduceAdd, ckS_0, ckS_1, ckS_2, ckS_3, ckS_4, Option.bind_some, Option.isSome_some, psh, if_true, if_false, i10, not_true_eq_false, not_false_eq_true, Bool.false_eq_true, and_self, and_true, true_and, eq_self, qI_0_9, qI_0_10, qR_0_0, qRd_0_0, qR_0_1, qRd_0_1, qR_0_2, qRd_0_2, qR_0_3, qRd_0_3, qR_0_4, qRd_0_4, qR_0_5, qRd_0_5, qR_0_6, qRd_0_6, qR_0_7, qRd_0_7, qR_0_8, qRd_0_8, qO_0, e_isWithin, c1]
    · simp only [r_MRm_feed_0, r_MRm_feed_1, r_MRm_feed_2, r_MRm_feed_3, r_MRm_feed_6, r_MRm_feed_9, r_MRm_feed_10, sL_0, sL_1, sL_2, mk_i, mk_r, mk_f, mk_n, mk_u, mk_l, List.set_cons_succ, List.set_cons_zero, Nat.reduceAdd, ckS_0, ckS_1, ckS_2, ckS_3, ckS_4, Option.bind_some, Option.isSome_some, psh, if_true, if_false, i10, not_true_eq_false, not_false_eq_true, Bool.false_eq_true, and_self, and_true, true_and, eq_self, qI_81_0, qI_81_2, qI_81_3, qI_81_9, qI_81_10, qI_81_11, qI_81_12, qI_81_13, qI_81_18, qI_81_19, qI_81_20, qI_81_21, qI_81_29, qI_81_30, qI_81_31, qI_81_32, qI_81_33, qI_81_34, qI_81_35, qI_81_39, qI_81_40, qI_81_41, qI_81_42, qI_81_43, qI_81_44, qI_81_45, qI_81_46, qI_81_47, qI_81_51, qI_81_53, qR_81_1, qRd_81_1, qR_81_4, qRd_81_4, qR_81_5, qRd_81_5, qR_81_6, qRd_81_6, qR_81_7, qRd_81_7, qR_81_8, qRd_81_8, qR_81_14, qRd_81_14, qR_81_15, qRd_81_15, qR_81_16, qRd_81_16, qR_81_17, qRd_81_17, qR_81_22, qRd_81_22, qR_81_23, qRd_81_23, qR_81_24, qRd_81_24, qR_81_25, qRd_81_25, qR_81_26, qRd_81_26, qR_81_27, qRd_81_27, qR_81_28, qRd_81_28, qR_81_36, qRd_81_36, qR_81_37, qRd_81_37, qR_81_38, qRd_81_38, qR_81_48, qRd_81_48, qR_81_49, qRd_81_49, qR_81_50, qRd_81_50, qR_81_52, qRd_81_52, qR_81_54, qRd_81_54, qR_81_55, qRd_81_55, qR_81_56, qRd_81_56, qR_81_57, qRd_81_57, qR_81_58, qRd_81_58, qO_81, e_in, c1]
end
