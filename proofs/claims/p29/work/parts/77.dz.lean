-- ===== a number is not -1
theorem nI_nm {b : Nat} (h : b < 2 ^ 31) : ¬ nI b = -1 := fun q => by
  have e := congrArg Int32.toInt q
  rw [nI_toInt h, show (-1 : Int32).toInt = -1 from rfl] at e
  omega
