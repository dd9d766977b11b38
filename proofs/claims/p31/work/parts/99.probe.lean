theorem pr1 (x m : Int32) : x - m - x = -m := by grind
theorem pr2 (t x y z A B : Int32) : t + (x - A - x) + (y - B - y) + (z + (A + B) - z) = t := by grind
theorem pr3 (a b c d : Int32) (h : a + b = c + d) : a + b + 3 - d = c + 3 := by grind
theorem pr4 (x m : Int32) : x + m - x = m := by simp [Int32.sub_eq_add_neg, Int32.add_comm, Int32.add_left_comm]
theorem pr5 (j : Nat) (h : j < 13) : (if j < 5 then j else 40 + j) < 53 := by omega
theorem pr6 (f : Nat → Int32) (p : Nat) (A : Int32) : (upd f (113 + p) A) (93 + p) = f (93 + p) := by simp (disch := omega) only [upd_n]
theorem pr7 (x : Int32) (h : x = 0 ∨ x = 1) : x ^^^ 1 = 1 - x := by rcases h with rfl | rfl <;> rfl
theorem pr8 (a b : Int32) (h : a ≤ b) (h2 : b < a) : False := by
  rw [Int32.le_iff_toInt_le] at h; rw [Int32.lt_iff_toInt_lt] at h2; omega
theorem pr9 (a b c d e : Int32) : a + b + c + d + e = e + (b + a) + (d + c) := by ac_rfl
