theorem kbne {a b : Nat} (h : a = b) : (a != b) = false := by simp [h]
