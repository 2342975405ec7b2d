-- ===== by hand: all
section
variable {X : Tok} {et : Nat → Option va_E}
/-- all contracts by hand, but offBy's -/
theorem hand_all (hE : tEx X) : HandT JB X et := by
  intro c hc
  simp only [handL, List.mem_cons, List.not_mem_nil, or_false] at hc
  rcases hc with rfl | rfl | rfl | rfl | rfl | rfl | rfl | rfl | rfl | rfl | rfl | rfl | rfl | rfl
  · exact hand_chC
  · exact hand_shC JS_B
  · exact hand_undo
  · exact hand_redo
  · exact hand_gives
  · exact hand_floor
  · exact hand_chM JS_B
  · exact hand_shM JS_B
  · exact hand_frame
  · exact hand_frames
  · exact hand_cut
  · exact hand_set
  · exact hand_acC hE JS_B
  · exact hand_acM JS_B
end
