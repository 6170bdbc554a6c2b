/-! ===== the division of a fraction-free step is exact ===== -/
/-- the minor of the first k rows and columns with row i and column j -/
def mi (k : Nat) (M : Nat → Nat → Int) (i j : Nat) : Int := det (k + 1) (fun a b => M (if a = k then i else a) (if b = k then j else b))
def shr (M : Nat → Nat → Int) : Nat → Nat → Int := fun i j => M 0 0 * M (i + 1) (j + 1) - M (i + 1) 0 * M 0 (j + 1)
theorem det_one {M : Nat → Nat → Int} : det 1 M = M 0 0 := by
  show (0 : Int) + sgn 0 * M 0 0 * 1 = M 0 0
  rw [show sgn 0 = 1 from rfl]; omega
theorem shr_det {M : Nat → Nat → Int} {n : Nat} : M 0 0 ^ n * det (n + 1) M = M 0 0 * det n (shr M) := det_step
theorem shr_mi {M : Nat → Nat → Int} {k i j : Nat} : M 0 0 ^ (k + 1) * mi (k + 1) M (i + 1) (j + 1) = M 0 0 * mi k (shr M) i j := by
  unfold mi
  have h := det_step (n := k + 1) (M := fun a b => M (if a = k + 1 then i + 1 else a) (if b = k + 1 then j + 1 else b))
  have e0 : M (if 0 = k + 1 then i + 1 else 0) (if 0 = k + 1 then j + 1 else 0) = M 0 0 := by rw [if_neg (by omega), if_neg (by omega)]
  simp only [e0] at h
  rw [h]
  congr 1
  refine det_congr (k + 1) (fun a b ha hb => ?_)
  have e1 : (if a + 1 = k + 1 then i + 1 else a + 1) = (if a = k then i else a) + 1 := by
    by_cases c : a = k
    · rw [if_pos (by omega), if_pos c]
    · rw [if_neg (by omega), if_neg c]
  have e2 : (if b + 1 = k + 1 then j + 1 else b + 1) = (if b = k then j else b) + 1 := by
    by_cases c : b = k
    · rw [if_pos (by omega), if_pos c]
    · rw [if_neg (by omega), if_neg c]
  unfold shr
  rw [e1, e2, if_neg (show ¬ 0 = k + 1 by omega), if_neg (show ¬ 0 = k + 1 by omega)]
theorem pw_ne {a : Int} (h : ¬ a = 0) : ∀ n, ¬ a ^ n = 0
  | 0 => by rw [Int.pow_zero]; decide
  | n + 1 => by
    rw [Int.pow_succ]; intro z
    rcases Int.mul_eq_zero.mp z with z | z
    · exact pw_ne h n z
    · exact h z
theorem can {a x y : Int} (h : ¬ a = 0) (e : a * x = a * y) : x = y := Int.eq_of_mul_eq_mul_left h e
theorem shr_mi2 {M : Nat → Nat → Int} {k i j : Nat} (h : ¬ M 0 0 = 0) : mi k (shr M) i j = M 0 0 ^ k * mi (k + 1) M (i + 1) (j + 1) := by
  refine can h ?_
  rw [← shr_mi, Int.pow_succ, Int.mul_comm (M 0 0 ^ k) (M 0 0), Int.mul_assoc]
/-- what stands below is a minor times the next minor -/
theorem mi_step : ∀ k {M : Nat → Nat → Int} {i j : Nat}, (∀ l, 0 < l → l ≤ k → ¬ det l M = 0) → k ≤ i → k ≤ j → mi k M k k * mi k M i j - mi k M i k * mi k M k j = det k M * mi (k + 1) M i j
  | 0, M, i, j, _, _, _ => by
    have e : ∀ x y, mi 0 M x y = M x y := fun x y => by unfold mi; rw [det_one, if_pos rfl, if_pos rfl]
    rw [e, e, e, e, show det 0 M = 1 from rfl, Int.one_mul]
    show _ = det (1 + 1) (fun a b => M (if a = 1 then i else a) (if b = 1 then j else b))
    rw [det_succ]
    show _ = ((0 : Int) + sgn 0 * M (if 0 = 1 then i else 0) (if 0 = 1 then j else 0) * det 1 _) + sgn 1 * M (if 1 = 1 then i else 1) (if 0 = 1 then j else 0) * det 1 _
    rw [det_one, det_one]
    show M 0 0 * M i j - M i 0 * M 0 j = ((0 : Int) + 1 * M 0 0 * M i j) + (-1) * M i 0 * M 0 j
    rw [Int.one_mul, Int.neg_mul, Int.one_mul, Int.neg_mul]
    omega
  | k + 1, M, i, j, hd, hi, hj => by
    have ha : ¬ M 0 0 = 0 := by have := hd 1 (by decide) (by omega); rw [det_one] at this; exact this
    obtain ⟨i', rfl⟩ : ∃ i', i = i' + 1 := ⟨i - 1, by omega⟩
    obtain ⟨j', rfl⟩ : ∃ j', j = j' + 1 := ⟨j - 1, by omega⟩
    have ih := mi_step k (M := shr M) (i := i') (j := j') (fun l h1 h2 z => by
      have h3 := shr_det (M := M) (n := l)
      rw [z, Int.mul_zero] at h3
      rcases Int.mul_eq_zero.mp h3 with y | y
      · exact pw_ne ha l y
      · exact hd (l + 1) (by omega) (by omega) y) (by omega) (by omega)
    rw [shr_mi2 ha, shr_mi2 ha, shr_mi2 ha, shr_mi2 ha, shr_mi2 ha] at ih
    have h4 := shr_det (M := M) (n := k)
    generalize det k (shr M) = d at *
    generalize det (k + 1) M = d1 at *
    generalize mi (k + 1) M (k + 1) (k + 1) = x1 at *
    generalize mi (k + 1) M (i' + 1) (j' + 1) = x2 at *
    generalize mi (k + 1) M (i' + 1) (k + 1) = x3 at *
    generalize mi (k + 1) M (k + 1) (j' + 1) = x4 at *
    generalize mi (k + 1 + 1) M (i' + 1) (j' + 1) = y at *
    have hp := pw_ne ha k
    rw [Int.pow_succ] at ih
    generalize M 0 0 ^ k = p at *
    generalize M 0 0 = a at *
    -- p * x1 * (p * x2) - p * x3 * (p * x4) = d * (p * a * y), p * d1 = a * d
    have h5 : p * (p * (x1 * x2 - x3 * x4)) = p * (p * (d1 * y)) := by
      have e1 : p * (p * (x1 * x2 - x3 * x4)) = p * x1 * (p * x2) - p * x3 * (p * x4) := by grind
      rw [e1, ih]
      have e2 : d * (p * a * y) = p * (a * d) * y := by grind
      rw [e2, ← h4]; grind
    exact can hp (can hp h5)
