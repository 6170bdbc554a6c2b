/-! ===== fraction-free steps over any pivots ===== -/
section BZ
variable (E : Nat → Nat → Int)
/-- the minor of the pivots g 0 .. g (k - 1), with row i and column j -/
def mn (g : Nat → Nat) (k i j : Nat) : Int := det (k + 1) (fun a b => E (if a = k then i else g a) (if b = k then j else g b))
def dt (g : Nat → Nat) (k : Nat) : Int := det k (fun a b => E (g a) (g b))
theorem mn_0 (g : Nat → Nat) (i j : Nat) : mn E g 0 i j = E i j := by unfold mn; rw [det_one, if_pos rfl, if_pos rfl]
theorem dt_0 (g : Nat → Nat) : dt E g 0 = 1 := rfl
theorem mn_dt (g : Nat → Nat) (k : Nat) : mn E g k (g k) (g k) = dt E g (k + 1) := by
  unfold mn dt
  refine det_congr (k + 1) (fun a b _ _ => ?_)
  have e : ∀ z, (if z = k then g k else g z) = g z := fun z => by
    by_cases c : z = k
    · rw [if_pos c, c]
    · rw [if_neg c]
  rw [e, e]
theorem mn_step (g : Nat → Nat) (k i j : Nat) (h : ∀ l, 0 < l → l ≤ k → ¬ dt E g l = 0) : mn E g k (g k) (g k) * mn E g k i j - mn E g k i (g k) * mn E g k (g k) j = dt E g k * mn E g (k + 1) i j := by
  have hs := mi_step k (M := fun a b => E (if a = k + 1 then i else g a) (if b = k + 1 then j else g b)) (i := k + 1) (j := k + 1) (fun l h1 h2 z => by
    refine h l h1 h2 ?_
    rw [← z]; unfold dt
    refine det_congr l (fun a b ha hb => ?_)
    rw [if_neg (by omega), if_neg (by omega)]) (by omega) (by omega)
  have ed : det k (fun a b => E (if a = k + 1 then i else g a) (if b = k + 1 then j else g b)) = dt E g k := by
    unfold dt; exact det_congr k (fun a b ha hb => by rw [if_neg (by omega), if_neg (by omega)])
  have e1 : mi k (fun a b => E (if a = k + 1 then i else g a) (if b = k + 1 then j else g b)) k k = mn E g k (g k) (g k) := by
    unfold mi mn
    refine det_congr (k + 1) (fun a b ha hb => ?_)
    have c : ∀ x z, z < k + 1 → (if (if z = k then k else z) = k + 1 then x else g (if z = k then k else z)) = (if z = k then g k else g z) := fun x z hz => by
      by_cases c : z = k
      · rw [if_pos c, if_pos c, if_neg (by omega)]
      · rw [if_neg c, if_neg c, if_neg (by omega)]
    exact congr (congrArg E (c i a ha)) (c j b hb)
  have c2 : ∀ x z, z < k + 1 → (if (if z = k then k + 1 else z) = k + 1 then x else g (if z = k then k + 1 else z)) = (if z = k then x else g z) := fun x z hz => by
    by_cases c : z = k
    · rw [if_pos c, if_pos c, if_pos rfl]
    · rw [if_neg c, if_neg c, if_neg (by omega)]
  have c1 : ∀ x z, z < k + 1 → (if (if z = k then k else z) = k + 1 then x else g (if z = k then k else z)) = (if z = k then g k else g z) := fun x z hz => by
    by_cases c : z = k
    · rw [if_pos c, if_pos c, if_neg (by omega)]
    · rw [if_neg c, if_neg c, if_neg (by omega)]
  have e2 : mi k (fun a b => E (if a = k + 1 then i else g a) (if b = k + 1 then j else g b)) (k + 1) (k + 1) = mn E g k i j := by
    unfold mi mn
    exact det_congr (k + 1) (fun a b ha hb => congr (congrArg E (c2 i a ha)) (c2 j b hb))
  have e3 : mi k (fun a b => E (if a = k + 1 then i else g a) (if b = k + 1 then j else g b)) (k + 1) k = mn E g k i (g k) := by
    unfold mi mn
    exact det_congr (k + 1) (fun a b ha hb => congr (congrArg E (c2 i a ha)) (c1 j b hb))
  have e4 : mi k (fun a b => E (if a = k + 1 then i else g a) (if b = k + 1 then j else g b)) k (k + 1) = mn E g k (g k) j := by
    unfold mi mn
    exact det_congr (k + 1) (fun a b ha hb => congr (congrArg E (c1 i a ha)) (c2 j b hb))
  have e5 : mi (k + 1) (fun a b => E (if a = k + 1 then i else g a) (if b = k + 1 then j else g b)) (k + 1) (k + 1) = mn E g (k + 1) i j := by
    unfold mi mn
    refine det_congr (k + 1 + 1) (fun a b ha hb => ?_)
    have c : ∀ x z, (if (if z = k + 1 then k + 1 else z) = k + 1 then x else g (if z = k + 1 then k + 1 else z)) = (if z = k + 1 then x else g z) := fun x z => by
      by_cases c : z = k + 1
      · rw [if_pos c, if_pos c, if_pos rfl]
      · rw [if_neg c, if_neg c]
    exact congr (congrArg E (c i a)) (c j b)
  rw [e1, e2, e3, e4, e5, ed] at hs
  exact hs
/-- a row or a column of a pivot is nothing -/
theorem mn_row (g : Nat → Nat) {k l : Nat} (j : Nat) (hl : l < k) : mn E g k (g l) j = 0 := by
  unfold mn
  obtain ⟨d, rfl⟩ : ∃ d, k = l + 1 + d := ⟨k - (l + 1), by omega⟩
  refine det_eq0 d (k := l) (by omega) (fun b => ?_)
  rw [if_neg (by omega), if_pos rfl]
end BZ
