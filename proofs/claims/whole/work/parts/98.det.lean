/-! ===== longs: nothing leaves them ===== -/
theorem i64_step {a b c d s : Int64} {x : Int} (hs : 0 < s.toInt) (hx : a.toInt * b.toInt - c.toInt * d.toInt = s.toInt * x) (h1 : -(2 ^ 63 : Int) < a.toInt * b.toInt - c.toInt * d.toInt) (h2 : a.toInt * b.toInt - c.toInt * d.toInt < 2 ^ 63) : ((a * b - c * d) / s).toInt = x := by
  have e : (a * b - c * d).toInt = a.toInt * b.toInt - c.toInt * d.toInt := by
    have e1 : a * b - c * d = Int64.ofInt (a.toInt * b.toInt - c.toInt * d.toInt) := by
      rw [Int64.ofInt_sub, Int64.ofInt_mul, Int64.ofInt_mul, Int64.ofInt_toInt, Int64.ofInt_toInt, Int64.ofInt_toInt, Int64.ofInt_toInt]
    rw [e1, Int64.toInt_ofInt]
    have es : ((Int64.size : Nat) : Int) = 2 ^ 64 := by decide
    exact Int.bmod_eq_of_le (by omega) (by omega)
  have hxb : -(2 ^ 63 : Int) < x ∧ x < 2 ^ 63 := by
    rw [hx] at h1 h2
    generalize s.toInt = t at *
    constructor
    · refine Int.not_le.mp (fun h => ?_)
      have h3 : t * x ≤ 1 * x := by
        have := Int.mul_le_mul_of_nonpos_right (show (1 : Int) ≤ t by omega) (show x ≤ 0 by omega)
        exact this
      omega
    · refine Int.not_le.mp (fun h => ?_)
      have h3 : 1 * x ≤ t * x := Int.mul_le_mul_of_nonneg_right (by omega) (by omega)
      omega
  rw [Int64.toInt_div, e, hx, Int.mul_tdiv_cancel_left x (by omega)]
  exact Int.bmod_eq_of_le (by omega) (by omega)
/-- what must fit -/
def cz_fit (G : Nat → Nat → Int) : Prop := ∀ c, c < 7 → 0 < (cz_go G c).1 c c → ∀ i j, i < 8 → j < 8 → ¬ i = c → ¬ j = c → (∃ x, (cz_go G c).1 c c * (cz_go G c).1 i j - (cz_go G c).1 i c * (cz_go G c).1 c j = (cz_go G c).2.1 * x) ∧ -(2 ^ 63 : Int) < (cz_go G c).1 c c * (cz_go G c).1 i j - (cz_go G c).1 i c * (cz_go G c).1 c j ∧ (cz_go G c).1 c c * (cz_go G c).1 i j - (cz_go G c).1 i c * (cz_go G c).1 c j < 2 ^ 63
theorem cl_go_int {Y : cl_T} (hf : cz_fit (fun i j => (Y i j).toInt)) : ∀ c, c ≤ 7 → (∀ i j, i < 8 → j < 8 → ((cl_go Y c).1 i j).toInt = (cz_go (fun i j => (Y i j).toInt) c).1 i j) ∧ (cl_go Y c).2.1.toInt = (cz_go (fun i j => (Y i j).toInt) c).2.1 ∧ (cl_go Y c).2.2 = (cz_go (fun i j => (Y i j).toInt) c).2.2
  | 0, _ => ⟨fun _ _ _ _ => rfl, rfl, rfl⟩
  | c + 1, hc => by
    obtain ⟨h1, h2, h3⟩ := cl_go_int hf c (by omega)
    have hp := (cl_go_pos (Y := Y) c).1
    rw [Int64.lt_iff_toInt_lt] at hp
    have e0 : (0 : Int64).toInt = 0 := rfl
    rw [e0] at hp
    have hcc := h1 c c (by omega) (by omega)
    by_cases e : 0 < (cl_go Y c).1 c c
    · have e' : 0 < (cz_go (fun i j => (Y i j).toInt) c).1 c c := by rw [← hcc]; rw [Int64.lt_iff_toInt_lt, e0] at e; exact e
      have g1 : cl_go Y (c + 1) = _ := if_pos e
      have g2 : cz_go (fun i j => (Y i j).toInt) (c + 1) = _ := if_pos e'
      rw [g1, g2]
      refine ⟨fun i j hi hj => ?_, hcc, by show _ + 1 = _ + 1; rw [h3]⟩
      show (cl_sw c (cl_go Y c).2.1 (cl_go Y c).1 i j).toInt = cz_sw c (cz_go (fun i j => (Y i j).toInt) c).2.1 (cz_go (fun i j => (Y i j).toInt) c).1 i j
      unfold cl_sw cz_sw
      by_cases ei : i = c
      · rw [if_pos ei, if_pos ei]
        by_cases ej : j = c
        · rw [if_pos ej, if_pos ej, Int64.toInt_neg, h2]
          have := Int64.toInt_lt (cl_go Y c).2.1
          exact Int.bmod_eq_of_le (by omega) (by omega)
        · rw [if_neg ej, if_neg ej]; exact h1 i j hi hj
      · rw [if_neg ei, if_neg ei]
        by_cases ej : j = c
        · rw [if_pos ej, if_pos ej]; exact h1 i j hi hj
        · rw [if_neg ej, if_neg ej]
          obtain ⟨⟨x, hx⟩, b1, b2⟩ := hf c (by omega) e' i j hi hj ei ej
          rw [← hcc, ← h1 i j hi hj, ← h1 i c hi (by omega), ← h1 c j (by omega) hj] at hx b1 b2 ⊢
          rw [← h2] at hx ⊢
          rw [i64_step hp hx b1 b2, hx, Int.mul_ediv_cancel_left x (by omega)]
    · have e' : ¬ 0 < (cz_go (fun i j => (Y i j).toInt) c).1 c c := by rw [← hcc]; rw [Int64.lt_iff_toInt_lt, e0] at e; exact e
      have g1 : cl_go Y (c + 1) = cl_go Y c := if_neg e
      have g2 : cz_go (fun i j => (Y i j).toInt) (c + 1) = cz_go (fun i j => (Y i j).toInt) c := if_neg e'
      rw [g1, g2]
      exact ⟨h1, h2, h3⟩
