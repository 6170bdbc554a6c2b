/-! ===== the class's sweep over the integers ===== -/
theorem mn_cong {E : Nat → Nat → Int} {g g' : Nat → Nat} {k : Nat} (h : ∀ a, a < k → g a = g' a) (i j : Nat) : mn E g k i j = mn E g' k i j := by
  unfold mn
  refine det_congr (k + 1) (fun a b ha hb => ?_)
  have e : ∀ x z, z < k + 1 → (if z = k then x else g z) = (if z = k then x else g' z) := fun x z hz => by
    by_cases c : z = k
    · rw [if_pos c, if_pos c]
    · rw [if_neg c, if_neg c, h z (by omega)]
  rw [e i a ha, e j b hb]
theorem dt_cong {E : Nat → Nat → Int} {g g' : Nat → Nat} {k : Nat} (h : ∀ a, a < k → g a = g' a) : dt E g k = dt E g' k := by
  unfold dt
  exact det_congr k (fun a b ha hb => by rw [h a ha, h b hb])
def cz_sw (p : Nat) (s : Int) (T : Nat → Nat → Int) : Nat → Nat → Int := fun i j => if i = p then (if j = p then -s else T i j) else if j = p then T i j else (T p p * T i j - T i p * T p j) / s
section CZ
variable {G F : Nat → Nat → Int} {g φ : Nat → Nat} {k c : Nat}
theorem exE_vr {x y : Nat} (hx : x < 8) (hy : y < 8) : exE G F (x + 8) y = if x = y then -1 else 0 := by
  unfold exE
  rw [if_neg (by omega), if_pos hy]
  by_cases e : x = y
  · rw [if_pos (by omega), if_pos e]
  · rw [if_neg (by omega), if_neg e]
theorem exE_vc {x y : Nat} (hx : x < 8) (hy : y < 8) : exE G F y (x + 8) = if x = y then -1 else 0 := by
  unfold exE
  rw [if_pos hy, if_neg (by omega), if_pos (by omega)]
  by_cases e : x = y
  · rw [if_pos (by omega), if_pos e]
  · rw [if_neg (by omega), if_neg e]
theorem exE_vv {x y : Nat} : exE G F (x + 8) (y + 8) = 0 := by
  unfold exE; rw [if_neg (by omega), if_neg (by omega)]
/-- one sweep -/
theorem cz_step (hk : g k = c) (hc : c < 8) (hg : ∀ a, a < k → g a < 8 ∧ ¬ g a = c) (hd : ∀ l, 0 < l → l ≤ k → ¬ dt (exE G F) g l = 0) (hφc : φ c = c) (hφ : ∀ i, i < 8 → ¬ i = c → φ i = i ∨ φ i = i + 8) {T : Nat → Nat → Int} (hT : ∀ i j, i < 8 → j < 8 → T i j = mn (exE G F) g k (φ i) (φ j)) {i j : Nat} (hi : i < 8) (hj : j < 8) : cz_sw c (dt (exE G F) g k) T i j = mn (exE G F) g (k + 1) (if i = c then c + 8 else φ i) (if j = c then c + 8 else φ j) := by
  have hne : ¬ dt (exE G F) g k = 0 := by
    by_cases h0 : k = 0
    · subst h0; rw [dt_0]; decide
    · exact hd k (by omega) (by omega)
  have st := fun x y => mn_step (exE G F) g k x y hd
  rw [hk] at st
  -- the virtual row and column of c before its sweep
  have vr : ∀ y, mn (exE G F) g k (c + 8) y = exE G F (c + 8) y * dt (exE G F) g k := fun y => mn_vrow _ _ (fun a ha => by rw [exE_vr hc (hg a ha).1, if_neg (fun z => (hg a ha).2 z.symm)])
  have vc : ∀ x, mn (exE G F) g k x (c + 8) = exE G F x (c + 8) * dt (exE G F) g k := fun x => mn_vcol _ _ (fun a ha => by rw [exE_vc hc (hg a ha).1, if_neg (fun z => (hg a ha).2 z.symm)])
  have v0 : ∀ i, i < 8 → ¬ i = c → exE G F (c + 8) (φ i) = 0 := fun i hi h => by
    rcases hφ i hi h with e | e
    · rw [e, exE_vr hc hi, if_neg (fun z => h z.symm)]
    · rw [e, exE_vv]
  have v1 : ∀ i, i < 8 → ¬ i = c → exE G F (φ i) (c + 8) = 0 := fun i hi h => by
    rcases hφ i hi h with e | e
    · rw [e, exE_vc hc hi, if_neg (fun z => h z.symm)]
    · rw [e, exE_vv]
  have vcc : exE G F (c + 8) c = -1 := by rw [exE_vr hc hc, if_pos rfl]
  have vcc2 : exE G F c (c + 8) = -1 := by rw [exE_vc hc hc, if_pos rfl]
  unfold cz_sw
  by_cases ei : i = c
  · rw [if_pos ei, if_pos ei]
    by_cases ej : j = c
    · rw [if_pos ej, if_pos ej]
      have h := st (c + 8) (c + 8)
      rw [vr (c + 8), vr c, vc c, exE_vv, vcc, vcc2] at h
      refine can hne ?_
      rw [← h]; grind
    · rw [if_neg ej, if_neg ej, hT i j hi hj, ei, hφc]
      have h := st (c + 8) (φ j)
      rw [vr (φ j), vr c, v0 j hj ej, vcc] at h
      refine can hne ?_
      rw [← h]; grind
  · rw [if_neg ei, if_neg ei]
    by_cases ej : j = c
    · rw [if_pos ej, if_pos ej, hT i j hi hj, ej, hφc]
      have h := st (φ i) (c + 8)
      rw [vc (φ i), vc c, v1 i hi ei, vcc2] at h
      refine can hne ?_
      rw [← h]; grind
    · rw [if_neg ej, if_neg ej, hT c c hc hc, hT i j hi hj, hT i c hi hc, hT c j hc hj, hφc, st (φ i) (φ j)]
      exact Int.mul_ediv_cancel_left _ hne
end CZ
