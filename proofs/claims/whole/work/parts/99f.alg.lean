/-! ===== what must fit a long ===== -/
section AF
variable (A : Nat → Nat → Int) (N : Nat) (f : Nat → Int) {B S M : Int}
theorem af_mul {d x y t p q L : Int} (hd : 0 ≤ d) (hx : 0 ≤ x) (hy : 0 ≤ y) (h : t * t ≤ x * y) (h1 : d * x ≤ p) (h2 : d * y ≤ q) (h3 : p * q < L * L) (hL : 0 < L) : -L < d * t ∧ d * t < L := by
  refine sq_lt hL ?_
  have e1 : d * t * (d * t) = d * d * (t * t) := by grind
  have h4 : d * d * (t * t) ≤ d * d * (x * y) := Int.mul_le_mul_of_nonneg_left h (Int.mul_nonneg hd hd)
  have e2 : d * d * (x * y) = (d * x) * (d * y) := by grind
  have h5 := ml_le (Int.mul_nonneg hd hx) (Int.mul_nonneg hd hy) h1 h2
  omega
/-- a row of the table: real, or virtual of a pivot below c -/
def af_ok (c x : Nat) : Prop := x < 8 ∨ (8 ≤ x ∧ x < 8 + c ∧ pw (av_E A N f) (x - 8) = true)
theorem af_cs {c x y : Nat} (hc : c < 7) (hx : af_ok A N f c x) (hy : af_ok A N f c y) : tx (av_E A N f) (c + 1) x y * tx (av_E A N f) (c + 1) x y ≤ au_z A N f (c + 1) x * au_z A N f (c + 1) y := by
  unfold af_ok at hx hy
  exact au_cs A N f (by omega) (by omega) (by omega) (fun h => by rcases hx with a | ⟨_, a, b⟩ <;> first | exact absurd a h | exact ⟨by omega, b⟩) (fun h => by rcases hy with a | ⟨_, a, b⟩ <;> first | exact absurd a h | exact ⟨by omega, b⟩)
theorem af_fit (hB : av_B A N B S M) (h1 : B ^ 10 * S < 2 ^ 63) (h2 : B ^ 10 * S * M < 2 ^ 63) {c x y : Nat} (hc : c < 7) (w : pw (av_E A N f) c = true) (hx : af_ok A N f c x) (hy : af_ok A N f c y) : -(2 ^ 63 : Int) < td (av_E A N f) c * tx (av_E A N f) (c + 1) x y ∧ td (av_E A N f) c * tx (av_E A N f) (c + 1) x y < 2 ^ 63 := by
  have hd := td_pos (av_E A N f) c
  have cs := af_cs A N f hc hx hy
  have b1 := hB.2.2.2.1
  have b2 := hB.2.2.2.2.1
  have b3 := hB.2.2.2.2.2.1
  have bM := hB.2.2.2.2.2.2.1
  have p4 := ipow_pos b1 4
  have p5 := ipow_pos b1 5
  have p10 := ipow_pos b1 10
  have p9 := ipow_pos b1 9
  have zx : 0 ≤ au_z A N f (c + 1) x := au_zn A N f (by omega) (by rcases hx with a | a <;> omega)
  have zy : 0 ≤ au_z A N f (c + 1) y := au_zn A N f (by omega) (by rcases hy with a | a <;> omega)
  have e45 : B ^ 4 * (B ^ 5 * B) = B ^ 10 := by rw [← Int.pow_succ, ← Int.pow_add]
  have e44 : B ^ 4 * B ^ 4 = B ^ 8 := by rw [← Int.pow_add]
  have e45' : B ^ 4 * B ^ 5 = B ^ 9 := by rw [← Int.pow_add]
  have e55 : B ^ 5 * B ^ 5 = B ^ 10 := by rw [← Int.pow_add]
  have m8 : B ^ 8 ≤ B ^ 10 := ipow_mono b1 (by omega)
  have m9 : B ^ 9 ≤ B ^ 10 := ipow_mono b1 (by omega)
  have s10 : B ^ 10 ≤ B ^ 10 * S := by
    have := ml_le (show (0 : Int) ≤ B ^ 10 by omega) (show (0 : Int) ≤ 1 by omega) (Int.le_refl (B ^ 10)) b2
    omega
  have hLL : ∀ p q : Int, 0 ≤ p → p < 2 ^ 63 → 0 ≤ q → q < 2 ^ 63 → p * q < 2 ^ 63 * 2 ^ 63 := fun p q a b c d => by
    have := ml_le a c (show p ≤ 2 ^ 63 - 1 by omega) (show q ≤ 2 ^ 63 - 1 by omega)
    omega
  by_cases c6 : c < 6
  · have t4 := ab_td4 A N f hB c6 w
    have t5 := ab_td5 A N f hB (c := c + 1) (by omega)
    have hd1 := td_pos (av_E A N f) (c + 1)
    have key : ∀ z, af_ok A N f c z → 0 ≤ td (av_E A N f) c * au_z A N f (c + 1) z ∧ td (av_E A N f) c * au_z A N f (c + 1) z < 2 ^ 63 := by
      intro z hz
      have zz : 0 ≤ au_z A N f (c + 1) z := au_zn A N f (by omega) (by rcases hz with a | a <;> omega)
      refine ⟨Int.mul_nonneg (by omega) zz, ?_⟩
      rcases hz with a | ⟨a, a2, a3⟩
      · have ez : au_z A N f (c + 1) z = td (av_E A N f) (c + 1) * av_G A N z z := if_pos a
        have gn := av_nn A N z
        by_cases z7 : z = 7
        · subst z7
          have g7 := hB.2.2.1
          have q1 := ml_le (show 0 ≤ td (av_E A N f) (c + 1) by omega) gn t5 g7
          have q2 := ml_le (show 0 ≤ td (av_E A N f) c by omega) (by rw [ez] at zz; exact zz) t4 q1
          rw [ez]
          have e1 : B ^ 4 * (B ^ 5 * M) = B ^ 9 * M := by rw [← e45', Int.mul_assoc]
          have q3 := ml_le (show 0 ≤ B ^ 9 by omega) bM (Int.le_trans m9 s10) (Int.le_refl M)
          omega
        · have gz : av_G A N z z ≤ B := by
            by_cases z6 : z = 6
            · subst z6; exact Int.le_trans hB.2.1 b3
            · exact hB.1 z (by omega)
          have q1 := ml_le (show 0 ≤ td (av_E A N f) (c + 1) by omega) gn t5 gz
          have q2 := ml_le (show 0 ≤ td (av_E A N f) c by omega) (by rw [ez] at zz; exact zz) t4 q1
          rw [ez]; omega
      · have v4 := ab_v4 A N f hB (c := c + 1) (i := z - 8) (by omega) (by omega) a3
        rw [show z - 8 + 8 = z by omega] at v4
        have q2 := ml_le (show 0 ≤ td (av_E A N f) c by omega) zz t4 v4
        omega
    have kx := key x hx
    have ky := key y hy
    exact af_mul (by omega) zx zy cs (Int.le_refl _) (Int.le_refl _) (hLL _ _ kx.1 kx.2 ky.1 ky.2) (by decide)
  · have e6 : c = 6 := by omega
    subst e6
    have zx : 0 ≤ au_z A N f 7 x := zx
    have zy : 0 ≤ au_z A N f 7 y := zy
    have cs : tx (av_E A N f) 7 x y * tx (av_E A N f) 7 x y ≤ au_z A N f 7 x * au_z A N f 7 y := cs
    show -(2 ^ 63 : Int) < td (av_E A N f) 6 * tx (av_E A N f) 7 x y ∧ td (av_E A N f) 6 * tx (av_E A N f) 7 x y < 2 ^ 63
    have t5 := ab_td5 A N f hB (c := 6) (by omega)
    have t7 := ab_td7 A N f hB
    have hd7 := td_pos (av_E A N f) 7
    have s9 : B ^ 9 * S ≤ B ^ 10 * S := ml_le (by omega) (by omega) m9 (Int.le_refl S)
    -- virtual rows
    have kv : ∀ z, 8 ≤ z → z < 8 + 6 → pw (av_E A N f) (z - 8) = true → td (av_E A N f) 6 * au_z A N f 7 z ≤ B ^ 9 * S := by
      intro z a a2 a3
      have v7 := ab_v7 A N f hB (i := z - 8) (by omega) a3
      rw [show z - 8 + 8 = z by omega] at v7
      have zz : 0 ≤ au_z A N f 7 z := au_zn A N f (by omega) (by omega)
      have q2 := ml_le (show 0 ≤ td (av_E A N f) 6 by omega) zz t5 v7
      have e1 : B ^ 5 * (B ^ 4 * S) = B ^ 9 * S := by rw [← e45', Int.mul_comm (B ^ 4) (B ^ 5), Int.mul_assoc]
      omega
    have k7 : td (av_E A N f) 6 * au_z A N f 7 7 < 2 ^ 63 := by
      have ez : au_z A N f 7 7 = td (av_E A N f) 7 * av_G A N 7 7 := if_pos (by omega)
      have q1 := ml_le (show 0 ≤ td (av_E A N f) 7 by omega) (av_nn A N 7) t7 hB.2.2.1
      have zz : 0 ≤ au_z A N f 7 7 := au_zn A N f (by omega) (by omega)
      rw [ez] at zz ⊢
      have q2 := ml_le (show 0 ≤ td (av_E A N f) 6 by omega) zz t5 q1
      have e1 : B ^ 5 * (B ^ 5 * S * M) = B ^ 10 * S * M := by rw [← e55]; grind
      omega
    have kr : ∀ z, z < 7 → td (av_E A N f) 6 * au_z A N f 7 z ≤ B ^ 10 * S * B := by
      intro z hz
      have ez : au_z A N f 7 z = td (av_E A N f) 7 * av_G A N z z := if_pos (by omega)
      have gz : av_G A N z z ≤ B := by
        by_cases z6 : z = 6
        · subst z6; exact Int.le_trans hB.2.1 b3
        · exact hB.1 z (by omega)
      have q1 := ml_le (show 0 ≤ td (av_E A N f) 7 by omega) (av_nn A N z) t7 gz
      have zz : 0 ≤ au_z A N f 7 z := au_zn A N f (by omega) (by omega)
      rw [ez] at zz ⊢
      have q2 := ml_le (show 0 ≤ td (av_E A N f) 6 by omega) zz t5 q1
      have e1 : B ^ 5 * (B ^ 5 * S * B) = B ^ 10 * S * B := by rw [← e55]; grind
      omega
    have kz : ∀ z y, z < 7 → y < 8 → tx (av_E A N f) 7 z y = 0 := by
      intro z y hz hy
      cases e : pw (av_E A N f) z with
      | true => exact (tx_z _ 7 z hz e y).1
      | false => exact ax_n A N f 7 z (by omega) hz e y hy
    have n9 : 0 ≤ B ^ 9 * S := Int.mul_nonneg (by omega) (by omega)
    have zero : ∀ t : Int, t = 0 → -(2 ^ 63 : Int) < td (av_E A N f) 6 * t ∧ td (av_E A N f) 6 * t < 2 ^ 63 := fun t ht => by rw [ht, Int.mul_zero]; exact ⟨by decide, by decide⟩
    have dn : 0 ≤ td (av_E A N f) 6 := by omega
    have hvr : ∀ p q : Int, p ≤ B ^ 9 * S → 0 ≤ p → 0 ≤ q → q ≤ B ^ 10 * S * B → p * q < 2 ^ 63 * 2 ^ 63 := fun p q a a0 b0 b => by
      have q1 := ml_le a0 b0 a b
      have e1 : B ^ 9 * S * (B ^ 10 * S * B) = (B ^ 10 * S) * (B ^ 10 * S) := by
        have e2 : B ^ 10 = B ^ 9 * B := Int.pow_succ B 9
        rw [e2]; grind
      have q2 := hLL (B ^ 10 * S) (B ^ 10 * S) (by omega) h1 (by omega) h1
      omega
    by_cases x8 : x < 8
    · by_cases x7 : x = 7
      · by_cases y8 : y < 8
        · by_cases y7 : y = 7
          · rw [x7, y7] at cs ⊢
            exact af_mul dn (au_zn A N f (by omega) (by omega)) (au_zn A N f (by omega) (by omega)) cs (Int.le_refl _) (Int.le_refl _) (hLL _ _ (Int.mul_nonneg dn (au_zn A N f (by omega) (by omega))) k7 (Int.mul_nonneg dn (au_zn A N f (by omega) (by omega))) k7) (by decide)
          · rw [ax_sym A N f (by omega) (by omega) (by omega)]
            exact zero _ (kz y x (by omega) (by omega))
        · have gy := hy.resolve_left y8
          rw [x7] at cs zx ⊢
          have := kv y gy.1 gy.2.1 gy.2.2
          exact af_mul dn zx zy cs (Int.le_refl _) (Int.le_refl _) (hLL _ _ (Int.mul_nonneg dn zx) k7 (Int.mul_nonneg dn zy) (by omega)) (by decide)
      · by_cases y8 : y < 8
        · exact zero _ (kz x y (by omega) y8)
        · have gy := hy.resolve_left y8
          have q1 := kv y gy.1 gy.2.1 gy.2.2
          have q2 := kr x (by omega)
          refine af_mul dn zx zy cs (Int.le_refl _) (Int.le_refl _) ?_ (by decide)
          rw [Int.mul_comm]
          exact hvr _ _ q1 (Int.mul_nonneg dn zy) (Int.mul_nonneg dn zx) q2
    · have gx := hx.resolve_left x8
      have q0 := kv x gx.1 gx.2.1 gx.2.2
      by_cases y8 : y < 8
      · by_cases y7 : y = 7
        · rw [y7] at cs zy ⊢
          exact af_mul dn zx zy cs (Int.le_refl _) (Int.le_refl _) (hLL _ _ (Int.mul_nonneg dn zx) (by omega) (Int.mul_nonneg dn zy) k7) (by decide)
        · exact af_mul dn zx zy cs (Int.le_refl _) (Int.le_refl _) (hvr _ _ q0 (Int.mul_nonneg dn zx) (Int.mul_nonneg dn zy) (kr y (by omega))) (by decide)
      · have gy := hy.resolve_left y8
        have q1 := kv y gy.1 gy.2.1 gy.2.2
        exact af_mul dn zx zy cs (Int.le_refl _) (Int.le_refl _) (hLL _ _ (Int.mul_nonneg dn zx) (by omega) (Int.mul_nonneg dn zy) (by omega)) (by decide)
end AF
