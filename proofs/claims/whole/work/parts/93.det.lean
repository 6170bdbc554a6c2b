/-! ===== symmetry, and sums of squares ===== -/
section SY
variable (E : Nat → Nat → Int) (g : Nat → Nat) (Pd : Nat → Prop)
theorem mn_sym (hs : ∀ i j, Pd i → Pd j → E i j = E j i) : ∀ k, (∀ a, a < k → Pd (g a)) → (∀ l, 0 < l → l < k → ¬ dt E g l = 0) → ∀ i j, Pd i → Pd j → mn E g k i j = mn E g k j i
  | 0, _, _, i, j, hi, hj => by rw [mn_0, mn_0]; exact hs i j hi hj
  | k + 1, hg, hd, i, j, hi, hj => by
    have ih := mn_sym hs k (fun a ha => hg a (by omega)) (fun l h1 h2 => hd l h1 (by omega))
    have hk := hg k (by omega)
    have s1 := mn_step E g k i j (fun l h1 h2 => hd l h1 (by omega))
    have s2 := mn_step E g k j i (fun l h1 h2 => hd l h1 (by omega))
    have hne : ¬ dt E g k = 0 := by
      by_cases h0 : k = 0
      · subst h0; rw [dt_0]; decide
      · exact hd k (by omega) (by omega)
    rw [ih i j hi hj, ih i (g k) hi hk, ih (g k) j hk hj, Int.mul_comm (mn E g k (g k) i)] at s1
    refine can hne ?_
    rw [← s1, ← s2]
theorem dsum_4 {f f1 f2 f3 f4 : Nat → Int} {a b c e : Int} : ∀ n, (∀ i, i < n → f i = a * f1 i + b * f2 i + c * f3 i + e * f4 i) → dsum f n = a * dsum f1 n + b * dsum f2 n + c * dsum f3 n + e * dsum f4 n
  | 0, _ => by show (0 : Int) = a * 0 + b * 0 + c * 0 + e * 0; omega
  | n + 1, h => by
    show dsum f n + f n = a * (dsum f1 n + f1 n) + b * (dsum f2 n + f2 n) + c * (dsum f3 n + f3 n) + e * (dsum f4 n + f4 n)
    rw [dsum_4 n (fun i hi => h i (by omega)), h n (by omega)]; grind
/-- the rest vectors: their products are what stands in the table, times the number below -/
theorem mn_gram (Q : Nat → Nat) (r : Nat) (hs : ∀ i j, Pd i → Pd j → E i j = E j i) (hG : ∀ i j, Pd i → Pd j → dsum (fun q => E i (Q q) * E j (Q q)) r = E i j) : ∀ k, (∀ a, a < k → Pd (g a)) → (∀ l, 0 < l → l ≤ k → ¬ dt E g l = 0) → ∀ i j, Pd i → Pd j → dsum (fun q => mn E g k i (Q q) * mn E g k j (Q q)) r = dt E g k * mn E g k i j
  | 0, _, _, i, j, hi, hj => by
    rw [dt_0, Int.one_mul, mn_0, ← hG i j hi hj]
    exact dsum_congr r (fun q _ => by rw [mn_0, mn_0])
  | k + 1, hg, hd, i, j, hi, hj => by
    have ih := mn_gram Q r hs hG k (fun a ha => hg a (by omega)) (fun l h1 h2 => hd l h1 (by omega))
    have hk := hg k (by omega)
    have hne : ¬ dt E g k = 0 := by
      by_cases h0 : k = 0
      · subst h0; rw [dt_0]; decide
      · exact hd k (by omega) (by omega)
    have st := fun x y => mn_step E g k x y (fun l h1 h2 => hd l h1 (by omega))
    have sy := mn_sym E g Pd hs k (fun a ha => hg a (by omega)) (fun l h1 h2 => hd l h1 (by omega)) (g k) j hk hj
    have i1 := ih i j hi hj
    have i2 := ih i (g k) hi hk
    have i3 := ih (g k) j hk hj
    have i4 := ih (g k) (g k) hk hk
    have sij := st i j
    have hp := mn_dt E g k
    have h4 := dsum_4 (f := fun q => (dt E g k * mn E g (k + 1) i (Q q)) * (dt E g k * mn E g (k + 1) j (Q q))) (f1 := fun q => mn E g k i (Q q) * mn E g k j (Q q)) (f2 := fun q => mn E g k i (Q q) * mn E g k (g k) (Q q)) (f3 := fun q => mn E g k (g k) (Q q) * mn E g k j (Q q)) (f4 := fun q => mn E g k (g k) (Q q) * mn E g k (g k) (Q q)) (a := mn E g k (g k) (g k) * mn E g k (g k) (g k)) (b := -(mn E g k (g k) (g k) * mn E g k j (g k))) (c := -(mn E g k (g k) (g k) * mn E g k i (g k))) (e := mn E g k i (g k) * mn E g k j (g k)) r (fun q _ => by
      show (dt E g k * mn E g (k + 1) i (Q q)) * (dt E g k * mn E g (k + 1) j (Q q)) = _
      rw [← st i (Q q), ← st j (Q q)]; grind)
    have h5 : dsum (fun q => (dt E g k * mn E g (k + 1) i (Q q)) * (dt E g k * mn E g (k + 1) j (Q q))) r = dt E g k * (dt E g k * dsum (fun q => mn E g (k + 1) i (Q q) * mn E g (k + 1) j (Q q)) r) := by
      have h6 := dsum_4 (f := fun q => (dt E g k * mn E g (k + 1) i (Q q)) * (dt E g k * mn E g (k + 1) j (Q q))) (f1 := fun q => mn E g (k + 1) i (Q q) * mn E g (k + 1) j (Q q)) (f2 := fun _ => 0) (f3 := fun _ => 0) (f4 := fun _ => 0) (a := dt E g k * dt E g k) (b := 0) (c := 0) (e := 0) r (fun q _ => by
        show (dt E g k * mn E g (k + 1) i (Q q)) * (dt E g k * mn E g (k + 1) j (Q q)) = _
        grind)
      rw [h6]; grind
    rw [i1, i2, i3, i4, h5] at h4
    rw [← hp]
    rw [sy] at sij
    generalize dsum (fun q => mn E g (k + 1) i (Q q) * mn E g (k + 1) j (Q q)) r = S at *
    generalize mn E g (k + 1) i j = y at *
    generalize mn E g k (g k) (g k) = p at *
    generalize mn E g k i (g k) = a1 at *
    generalize mn E g k j (g k) = a2 at *
    generalize mn E g k i j = x at *
    generalize mn E g k (g k) j = a3 at *
    generalize dt E g k = d at *
    refine can hne (can hne ?_)
    rw [h4]
    have : d * (d * (p * y)) = d * p * (d * y) := by grind
    rw [this, ← sij]
    rw [sy]
    grind
theorem dsum_sq {f : Nat → Int} : ∀ n, 0 ≤ dsum (fun q => f q * f q) n ∧ (dsum (fun q => f q * f q) n = 0 → ∀ q, q < n → f q = 0)
  | 0 => ⟨Int.le_refl _, fun _ q hq => absurd hq (by omega)⟩
  | n + 1 => by
    have ih := dsum_sq (f := f) n
    have h1 : 0 ≤ f n * f n := by
      by_cases c : 0 ≤ f n
      · exact Int.mul_nonneg c c
      · have := Int.mul_nonneg (show 0 ≤ -f n by omega) (show 0 ≤ -f n by omega); rw [Int.neg_mul_neg] at this; exact this
    refine ⟨by show 0 ≤ dsum (fun q => f q * f q) n + f n * f n; omega, fun h q hq => ?_⟩
    have h2 : dsum (fun q => f q * f q) n + f n * f n = 0 := h
    by_cases c : q = n
    · subst c
      have h3 : f q * f q = 0 := by omega
      rcases Int.mul_eq_zero.mp h3 with z | z <;> exact z
    · exact ih.2 (by omega) q (by omega)
end SY
