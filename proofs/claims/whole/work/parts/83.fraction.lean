/-! ===== fractions in least terms compare as they did before ===== -/
theorem fr_cmp {a b c d : Nat} (hb : 0 < b) (hd : 0 < d) : (a / Nat.gcd a b) * (d / Nat.gcd c d) < (c / Nat.gcd c d) * (b / Nat.gcd a b) ↔ a * d < c * b := by
  have hg : 0 < Nat.gcd a b := Nat.gcd_pos_of_pos_right _ hb
  have hh : 0 < Nat.gcd c d := Nat.gcd_pos_of_pos_right _ hd
  have ea := Nat.div_mul_cancel (Nat.gcd_dvd_left a b)
  have eb := Nat.div_mul_cancel (Nat.gcd_dvd_right a b)
  have ec := Nat.div_mul_cancel (Nat.gcd_dvd_left c d)
  have ed := Nat.div_mul_cancel (Nat.gcd_dvd_right c d)
  generalize Nat.gcd a b = g at *
  generalize Nat.gcd c d = h at *
  generalize a / g = a' at *
  generalize b / g = b' at *
  generalize c / h = c' at *
  generalize d / h = d' at *
  subst ea; subst eb; subst ec; subst ed
  have e1 : a' * g * (d' * h) = g * h * (a' * d') := by grind
  have e2 : c' * h * (b' * g) = g * h * (c' * b') := by grind
  rw [e1, e2]
  exact (Nat.mul_lt_mul_left (Nat.mul_pos hg hh)).symm
