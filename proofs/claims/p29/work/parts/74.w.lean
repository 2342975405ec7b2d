-- ===== contracts: words
noncomputable def aI (lo hi : Int) : AP := some (.inl (lo, hi))
noncomputable def aT : AP := aI iLo iHi
noncomputable def aR (a : Nat) : AP := some (.inr (.inl a))
noncomputable def aN : AP := some (.inr (.inr true))
noncomputable def aL : AP := some (.inr (.inr false))
noncomputable def ivG : IVs := [(0, 10, 0, 6), (0, 11, 0, 4), (17, 0, 0, 7), (69, 4, 0, 60), (71, 4, 0, 60), (73, 4, 0, 60), (75, 4, 0, 60), (77, 4, 0, 60), (79, 4, 0, 60), (81, 3, 0, 120), (81, 4, 0, 6), (81, 19, 0, 120), (81, 30, 0, 4), (81, 40, (-1), 400), (81, 48, 0, 40), (81, 52, 0, 50), (83, 0, 0, 12), (105, 0, 0, 7), (107, 0, (-6), 49), (108, 0, 0, 60)]
noncomputable def DJ : WS := [(81, 13), (81, 14), (81, 48), (88, 0), (89, 0), (90, 0), (91, 0), (92, 0), (93, 0), (94, 0), (95, 0), (96, 0), (102, 0), (103, 0)]
/-- by hand: MTo_chance -/
noncomputable def h0 : Ctr := (116, [aR 0, aT, aT], some [aT], [], 3)
/-- by hand: MTo_shift -/
noncomputable def h1 : Ctr := (126, [aR 0, aT, aT, aT, aT, aT], some [aT], [(70, 0), (72, 0), (74, 0), (76, 0), (78, 0), (80, 0)], 5)
/-- by hand: MRm_changes -/
noncomputable def h2 : Ctr := (166, [aR 81, aT, aT, aT], some [aT], [(88, 0), (89, 0), (90, 0), (91, 0), (87, 0), (84, 0), (81, 13), (81, 14)], 4)
/-- by hand: MRm_undo -/
noncomputable def h3 : Ctr := (167, [aR 81], some [aT], [(88, 0), (89, 0), (90, 0), (91, 0), (87, 0), (84, 0), (81, 13), (81, 14)], 4)
/-- by hand: MRm_redo -/
noncomputable def h4 : Ctr := (168, [aR 81], some [aT], [(88, 0), (89, 0), (90, 0), (91, 0), (87, 0), (84, 0), (81, 13), (81, 14)], 4)
/-- by hand: MRm_gives -/
noncomputable def h5 : Ctr := (186, [aR 81, aI 0 3], some [aT], [(98, 0)], 4)
/-- by hand: MRm_floor -/
noncomputable def h6 : Ctr := (188, [aR 81], some [aT], [(81, 19), (81, 20), (81, 21), (81, 22), (81, 3), (81, 30), (92, 0), (93, 0), (94, 0), (95, 0), (96, 0)], 120)
/-- by hand: MRm_chance -/
noncomputable def h7 : Ctr := (221, [aR 81, aT, aT], some [aT], [(104, 0)], 4)
/-- by hand: MRm_shift -/
noncomputable def h8 : Ctr := (245, [aR 81, aT, aT, aT, aT, aT], some [aT], [(109, 0), (110, 0)], 5)
/-- by hand: MRm_offBy -/
noncomputable def h9 : Ctr := (216, [aR 81, aI 0 5, aT, aI 0 3, aT], some [aT], [(81, 31), (81, 32), (81, 33), (81, 34), (81, 35), (81, 36), (81, 44), (81, 45), (81, 46), (97, 0), (98, 0)], 20)
/-- by hand: MRm_offBy -/
noncomputable def h10 : Ctr := (216, [aR 81, aI 0 5, aT, aI 9 9, aT], some [aT], [(81, 31), (81, 32), (81, 33), (81, 34), (81, 35), (81, 36), (81, 44), (81, 45), (81, 46), (97, 0), (98, 0)], 20)
/-- by hand: MRm_frame -/
noncomputable def h11 : Ctr := (213, [aR 81, aT, aT], some [aT], [(81, 48), (102, 0), (103, 0)], 6)
/-- by hand: MRm_frames -/
noncomputable def h12 : Ctr := (214, [aR 81, aT, aT, aT], some [aT], [(81, 48), (102, 0), (103, 0)], 6)
/-- by hand: MRm_cut -/
noncomputable def h13 : Ctr := (215, [aR 81], some [aT], [(81, 48), (102, 0), (103, 0)], 2)
/-- by hand: MRm_set -/
noncomputable def h14 : Ctr := (169, [aR 81, aT, aT, aT], some [aT], [(88, 0), (89, 0), (90, 0), (91, 0), (87, 0), (84, 0), (81, 13), (81, 14)], 6)
/-- by hand: MTo_act -/
noncomputable def h15 : Ctr := (120, [aR 0, aT, aT, aT], some [aT], [(16, 4), (16, 5), (16, 6), (18, 0)], 30)
/-- by hand: MRm_act -/
noncomputable def h16 : Ctr := (237, [aR 81, aT, aT, aT], some [aT], [(81, 54), (106, 0)], 10)
noncomputable def handL : List Ctr := [h0, h1, h3, h4, h5, h6, h7, h8, h11, h12, h13, h14, h15, h16]
/-- those that need contracts of the checker themselves -/
noncomputable def handO : List Ctr := [h9, h10]
/-- the contracts that are shown by hand -/
noncomputable def HandT (J : Jt) (X : Tok) (et : Nat → Option va_E) : Prop := ∀ c, c ∈ handL → ctrT ivG J X et c
noncomputable def HandO (J : Jt) (X : Tok) (et : Nat → Option va_E) : Prop := ∀ c, c ∈ handO → ctrT ivG J X et c
