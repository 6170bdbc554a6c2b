/-! ===== Cauchy and Schwarz; the diagonal ===== -/
/-- (sum of products) squared is at most the product of the sums of squares -/
theorem cs_le (f h : Nat → Int) (n : Nat) : dsum (fun q => f q * h q) n * dsum (fun q => f q * h q) n ≤ dsum (fun q => f q * f q) n * dsum (fun q => h q * h q) n := by
  have hA := (dsum_sq (f := h) n).1
  generalize hB : dsum (fun q => f q * h q) n = B at *
  generalize hC : dsum (fun q => h q * h q) n = C at *
  by_cases c0 : C = 0
  · have hz := (dsum_sq (f := h) n).2 (by rw [hC]; exact c0)
    have : B = 0 := by rw [← hB]; exact dsum_zero n (fun q hq => by show f q * h q = 0; rw [hz q hq, Int.mul_zero])
    rw [this, c0]; simp
  · have h1 := (dsum_sq (f := fun q => C * f q - B * h q) n).1
    have h2 := dsum_4 (f := fun q => (C * f q - B * h q) * (C * f q - B * h q)) (f1 := fun q => f q * f q) (f2 := fun q => f q * h q) (f3 := fun q => h q * h q) (f4 := fun _ => 0) (a := C * C) (b := -(2 * C * B)) (c := B * B) (e := 0) n (fun q _ => by show (C * f q - B * h q) * (C * f q - B * h q) = _; grind)
    rw [h2, hB, hC] at h1
    generalize dsum (fun q => f q * f q) n = A at *
    have h3 : C * C * A + -(2 * C * B) * B + B * B * C + 0 * dsum (fun _ => 0) n = C * (A * C - B * B) := by grind
    rw [h3] at h1
    have h4 : 0 ≤ A * C - B * B := by
      refine Int.not_lt.mp (fun h => ?_)
      have := Int.mul_neg_of_pos_of_neg (show 0 < C by omega) h
      omega
    omega
section PS
variable (E : Nat → Nat → Int) (g : Nat → Nat) (Pd : Nat → Prop) (Q : Nat → Nat) (r : Nat)
/-- the diagonal is never below 0; where it is 0, the row is -/
theorem mn_psd (hs : ∀ i j, Pd i → Pd j → E i j = E j i) (hG : ∀ i j, Pd i → Pd j → dsum (fun q => E i (Q q) * E j (Q q)) r = E i j) {k : Nat} (hg : ∀ a, a < k → Pd (g a)) (hd : ∀ l, 0 < l → l ≤ k → 0 < dt E g l) {i : Nat} (hi : Pd i) : 0 ≤ mn E g k i i ∧ (mn E g k i i = 0 → ∀ j, Pd j → mn E g k i j = 0) ∧ ∀ j, Pd j → mn E g k i j * mn E g k i j ≤ mn E g k i i * mn E g k j j := by
  have hd0 : ∀ l, 0 < l → l ≤ k → ¬ dt E g l = 0 := fun l h1 h2 z => by have := hd l h1 h2; omega
  have hp : 0 < dt E g k := by
    by_cases h0 : k = 0
    · subst h0; rw [dt_0]; decide
    · exact hd k (by omega) (by omega)
  have hgr := mn_gram E g Pd Q r hs hG k hg hd0
  have h1 := hgr i i hi hi
  have h2 := dsum_sq (f := fun q => mn E g k i (Q q)) r
  refine ⟨?_, fun hz j hj => ?_, fun j hj => ?_⟩
  · refine Int.not_lt.mp (fun h => ?_)
    have := Int.mul_neg_of_pos_of_neg hp h
    have h3 : 0 ≤ dt E g k * mn E g k i i := by rw [← h1]; exact h2.1
    omega
  · have h3 := hgr i j hi hj
    have h4 : dsum (fun q => mn E g k i (Q q) * mn E g k j (Q q)) r = 0 := dsum_zero r (fun q hq => by
      have h5 : dsum (fun q => mn E g k i (Q q) * mn E g k i (Q q)) r = 0 := by rw [h1, hz, Int.mul_zero]
      show mn E g k i (Q q) * mn E g k j (Q q) = 0
      rw [h2.2 h5 q hq, Int.zero_mul])
    rw [h4] at h3
    rcases Int.mul_eq_zero.mp h3.symm with z | z
    · omega
    · exact z
  · have h3 := hgr i j hi hj
    have h4 := hgr j j hj hj
    have h5 := cs_le (fun q => mn E g k i (Q q)) (fun q => mn E g k j (Q q)) r
    rw [h3, h4, h1] at h5
    generalize mn E g k i j = x at *
    generalize mn E g k i i = a at *
    generalize mn E g k j j = b at *
    generalize dt E g k = d at *
    refine Int.not_lt.mp (fun h => ?_)
    have h6 : d * x * (d * x) = d * d * (x * x) := by grind
    have h7 : d * a * (d * b) = d * d * (a * b) := by grind
    rw [h6, h7] at h5
    have h8 : 0 < d * d := Int.mul_pos hp hp
    have h9 := Int.mul_lt_mul_of_pos_left h h8
    omega
end PS
