/-! ===== a last row or column that holds one number ===== -/
theorem det_lrow : ∀ n {M : Nat → Nat → Int} {v : Int}, (∀ j, j < n → M n j = 0) → M n n = v → det (n + 1) M = v * det n M
  | 0, M, v, _, h => by rw [det_one, h]; show v = v * 1; omega
  | n + 1, M, v, hz, h => by
    rw [det_succ]
    show dsum (fun r => sgn r * M r 0 * det (n + 1) (mnr M r)) (n + 1) + sgn (n + 1) * M (n + 1) 0 * det (n + 1) (mnr M (n + 1)) = _
    rw [hz 0 (by omega), Int.mul_zero, Int.zero_mul, Int.add_zero, det_succ]
    have h1 := dsum_lin (f := fun r => sgn r * M r 0 * det (n + 1) (mnr M r)) (g := fun r => sgn r * M r 0 * det n (mnr M r)) (h := fun _ => 0) (x := v) (n + 1) (fun r hr => by
      show sgn r * M r 0 * det (n + 1) (mnr M r) = v * (sgn r * M r 0 * det n (mnr M r)) + 0
      rw [det_lrow n (M := mnr M r) (v := v) (fun j hj => by unfold mnr sk; rw [if_neg (by omega)]; exact hz (j + 1) (by omega)) (by unfold mnr sk; rw [if_neg (by omega)]; exact h)]
      grind)
    rw [h1, dsum_zero (f := fun _ => 0) (n + 1) (fun _ _ => rfl), Int.add_zero]
theorem det_lc0 : ∀ n {M : Nat → Nat → Int}, (∀ i, i ≤ n → M i n = 0) → det (n + 1) M = 0
  | 0, M, h => by rw [det_one]; exact h 0 (by omega)
  | n + 1, M, h => by
    rw [det_succ]
    refine dsum_zero (n + 1 + 1) (fun r hr => ?_)
    show sgn r * M r 0 * det (n + 1) (mnr M r) = 0
    rw [det_lc0 n (M := mnr M r) (fun i hi => h (sk r i) (by unfold sk; split <;> omega)), Int.mul_zero]
theorem det_lcol : ∀ n {M : Nat → Nat → Int} {v : Int}, (∀ i, i < n → M i n = 0) → M n n = v → det (n + 1) M = v * det n M
  | 0, M, v, _, h => by rw [det_one, h]; show v = v * 1; omega
  | n + 1, M, v, hz, h => by
    rw [det_succ]
    show dsum (fun r => sgn r * M r 0 * det (n + 1) (mnr M r)) (n + 1) + sgn (n + 1) * M (n + 1) 0 * det (n + 1) (mnr M (n + 1)) = _
    rw [det_lc0 n (M := mnr M (n + 1)) (fun i hi => by unfold mnr sk; rw [if_pos (by omega)]; exact hz i (by omega)), Int.mul_zero, Int.add_zero, det_succ]
    have h1 := dsum_lin (f := fun r => sgn r * M r 0 * det (n + 1) (mnr M r)) (g := fun r => sgn r * M r 0 * det n (mnr M r)) (h := fun _ => 0) (x := v) (n + 1) (fun r hr => by
      show sgn r * M r 0 * det (n + 1) (mnr M r) = v * (sgn r * M r 0 * det n (mnr M r)) + 0
      rw [det_lcol n (M := mnr M r) (v := v) (fun i hi => by unfold mnr; exact hz (sk r i) (by unfold sk; split <;> omega)) (by unfold mnr sk; rw [if_neg (by omega)]; exact h)]
      grind)
    rw [h1, dsum_zero (f := fun _ => 0) (n + 1) (fun _ _ => rfl), Int.add_zero]
section VR
variable (E : Nat → Nat → Int) (g : Nat → Nat)
theorem mn_vrow {k x y : Nat} (hz : ∀ a, a < k → E x (g a) = 0) : mn E g k x y = E x y * dt E g k := by
  unfold mn dt
  rw [det_lrow k (v := E x y) (fun j hj => by rw [if_pos rfl, if_neg (by omega)]; exact hz j hj) (by rw [if_pos rfl, if_pos rfl])]
  congr 1
  exact det_congr k (fun a b ha hb => by rw [if_neg (by omega), if_neg (by omega)])
theorem mn_vcol {k x y : Nat} (hz : ∀ a, a < k → E (g a) y = 0) : mn E g k x y = E x y * dt E g k := by
  unfold mn dt
  rw [det_lcol k (v := E x y) (fun i hi => by rw [if_neg (by omega), if_pos rfl]; exact hz i hi) (by rw [if_pos rfl, if_pos rfl])]
  congr 1
  exact det_congr k (fun a b ha hb => by rw [if_neg (by omega), if_neg (by omega)])
end VR
/-- the class's columns, their virtual ones, and columns of any vectors -/
def exE (G F : Nat → Nat → Int) : Nat → Nat → Int := fun i j => if i < 8 then (if j < 8 then G i j else if j < 16 then (if j = i + 8 then -1 else 0) else F (j - 16) i) else (if j < 8 then (if i = j + 8 then -1 else 0) else 0)
