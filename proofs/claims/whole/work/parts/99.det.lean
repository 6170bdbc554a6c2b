/-! ===== Hadamard ===== -/
section HA
variable (E : Nat → Nat → Int) (g : Nat → Nat) (Pd : Nat → Prop)
theorem mn_had (hs : ∀ i j, Pd i → Pd j → E i j = E j i) : ∀ k, (∀ a, a < k → Pd (g a)) → (∀ l, 0 < l → l ≤ k → 0 < dt E g l) → ∀ i, Pd i → mn E g k i i ≤ dt E g k * E i i
  | 0, _, _, i, _ => by rw [mn_0, dt_0, Int.one_mul]; exact Int.le_refl _
  | k + 1, hg, hd, i, hi => by
    have ih := mn_had hs k (fun a ha => hg a (by omega)) (fun l h1 h2 => hd l h1 (by omega)) i hi
    have hk := hg k (by omega)
    have hp : 0 < dt E g k := by
      by_cases h0 : k = 0
      · subst h0; rw [dt_0]; decide
      · exact hd k (by omega) (by omega)
    have hp1 := hd (k + 1) (by omega) (by omega)
    have st := mn_step E g k i i (fun l h1 h2 z => by have := hd l h1 (by omega); omega)
    have sy := mn_sym E g Pd hs k (fun a ha => hg a (by omega)) (fun l h1 h2 z => by have := hd l h1 (by omega); omega) (g k) i hk hi
    rw [sy, mn_dt] at st
    have sq := (dsum_sq (f := fun _ => mn E g k i (g k)) 1).1
    have sq' : 0 ≤ mn E g k i (g k) * mn E g k i (g k) := by
      have e : dsum (fun q => (fun _ => mn E g k i (g k)) q * (fun _ => mn E g k i (g k)) q) 1 = 0 + mn E g k i (g k) * mn E g k i (g k) := rfl
      rw [e] at sq; omega
    generalize mn E g (k + 1) i i = y at *
    generalize mn E g k i (g k) = x at *
    generalize mn E g k i i = z at *
    generalize dt E g (k + 1) = p at *
    generalize dt E g k = s at *
    generalize E i i = u at *
    refine Int.not_lt.mp (fun h => ?_)
    have h1 := Int.mul_lt_mul_of_pos_left h hp
    have h2 := Int.mul_le_mul_of_nonneg_left ih (show 0 ≤ p by omega)
    have h3 : s * (p * u) = p * (s * u) := by grind
    omega
end HA
