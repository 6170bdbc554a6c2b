/-! ===== determinants by their first column ===== -/
def dsum (f : Nat → Int) : Nat → Int
  | 0 => 0
  | n + 1 => dsum f n + f n
def sk (r i : Nat) : Nat := if i < r then i else i + 1
def sgn (r : Nat) : Int := if r % 2 = 0 then 1 else -1
theorem sgn_succ (r : Nat) : sgn (r + 1) = - sgn r := by
  unfold sgn
  by_cases h : r % 2 = 0
  · rw [if_neg (by omega), if_pos h]
  · rw [if_pos (by omega), if_neg h]; rfl
def det : Nat → (Nat → Nat → Int) → Int
  | 0, _ => 1
  | n + 1, M => dsum (fun r => sgn r * M r 0 * det n (fun i j => M (sk r i) (j + 1))) (n + 1)
theorem dsum_congr {f g : Nat → Int} : ∀ n, (∀ i, i < n → f i = g i) → dsum f n = dsum g n
  | 0, _ => rfl
  | n + 1, h => by
    show dsum f n + f n = dsum g n + g n
    rw [dsum_congr n (fun i hi => h i (by omega)), h n (by omega)]
theorem dsum_lin {f g h : Nat → Int} {x : Int} : ∀ n, (∀ i, i < n → f i = x * g i + h i) → dsum f n = x * dsum g n + dsum h n
  | 0, _ => by show (0 : Int) = x * 0 + 0; omega
  | n + 1, e => by
    show dsum f n + f n = x * (dsum g n + g n) + (dsum h n + h n)
    rw [dsum_lin n (fun i hi => e i (by omega)), e n (by omega), Int.mul_add]
    omega
theorem dsum_zero {f : Nat → Int} : ∀ n, (∀ i, i < n → f i = 0) → dsum f n = 0
  | 0, _ => rfl
  | n + 1, h => by
    show dsum f n + f n = 0
    rw [dsum_zero n (fun i hi => h i (by omega)), h n (by omega)]; rfl
theorem dsum_two {f : Nat → Int} {k : Nat} : ∀ n, k + 1 < n → (∀ i, i < n → ¬ i = k → ¬ i = k + 1 → f i = 0) → dsum f n = f k + f (k + 1)
  | 0, h, _ => absurd h (by omega)
  | n + 1, h, e => by
    show dsum f n + f n = _
    by_cases hn : n = k + 1
    · subst hn
      show (dsum f k + f k) + f (k + 1) = _
      rw [dsum_zero k (fun i hi => e i (by omega) (by omega) (by omega))]; omega
    · rw [dsum_two n (by omega) (fun i hi => e i (by omega)), e n (by omega) (by omega) (by omega)]; omega
theorem dsum_first {f : Nat → Int} : ∀ n, (∀ i, i < n + 1 → ¬ i = 0 → f i = 0) → dsum f (n + 1) = f 0
  | 0, _ => by show (0 : Int) + f 0 = f 0; omega
  | n + 1, e => by
    show dsum f (n + 1) + f (n + 1) = f 0
    rw [dsum_first n (fun i hi => e i (by omega)), e (n + 1) (by omega) (by omega)]; omega
/-- only what lies within counts -/
theorem det_congr : ∀ n {M N : Nat → Nat → Int}, (∀ i j, i < n → j < n → M i j = N i j) → det n M = det n N
  | 0, _, _, _ => rfl
  | n + 1, M, N, h => by
    refine dsum_congr (n + 1) (fun r hr => ?_)
    rw [h r 0 hr (by omega), det_congr n (fun i j hi hj => h (sk r i) (j + 1) (by unfold sk; split <;> omega) (by omega))]
def updR (M : Nat → Nat → Int) (k : Nat) (v : Nat → Int) : Nat → Nat → Int := fun i j => if i = k then v j else M i j
def mnr (M : Nat → Nat → Int) (r : Nat) : Nat → Nat → Int := fun i j => M (sk r i) (j + 1)
theorem det_succ {n : Nat} {M : Nat → Nat → Int} : det (n + 1) M = dsum (fun r => sgn r * M r 0 * det n (mnr M r)) (n + 1) := rfl
theorem mnr_upd_eq {M : Nat → Nat → Int} {k : Nat} {v : Nat → Int} : mnr (updR M k v) k = mnr M k := by
  funext i j; unfold mnr updR sk; rw [if_neg (by split <;> omega)]
theorem mnr_upd_lt {M : Nat → Nat → Int} {k r : Nat} {v : Nat → Int} (h : k < r) : mnr (updR M k v) r = updR (mnr M r) k (fun j => v (j + 1)) := by
  funext i j; unfold mnr updR
  by_cases e : i = k
  · subst e; rw [if_pos rfl, if_pos (by unfold sk; rw [if_pos h])]
  · rw [if_neg e, if_neg (by unfold sk; split <;> omega)]
theorem mnr_upd_gt {M : Nat → Nat → Int} {k r : Nat} {v : Nat → Int} (h : r ≤ k) : mnr (updR M (k + 1) v) r = updR (mnr M r) k (fun j => v (j + 1)) := by
  funext i j; unfold mnr updR
  by_cases e : i = k
  · subst e; rw [if_pos rfl, if_pos (by unfold sk; rw [if_neg (by omega)])]
  · rw [if_neg e, if_neg (by unfold sk; split <;> omega)]
/-- linear in each row -/
theorem det_lin : ∀ n {M : Nat → Nat → Int} {k : Nat} {a b : Nat → Int} {x : Int}, k < n → det n (updR M k (fun j => x * a j + b j)) = x * det n (updR M k a) + det n (updR M k b)
  | 0, _, _, _, _, _, h => absurd h (by omega)
  | n + 1, M, k, a, b, x, h => by
    rw [det_succ, det_succ, det_succ]
    refine dsum_lin (n + 1) (fun r hr => ?_)
    by_cases e : r = k
    · subst e
      rw [mnr_upd_eq, mnr_upd_eq, mnr_upd_eq]
      have e1 : ∀ v, updR M r v r 0 = v 0 := fun v => if_pos rfl
      rw [e1, e1, e1, Int.mul_add, Int.add_mul, ← Int.mul_assoc, ← Int.mul_assoc, Int.mul_comm (sgn r) x, Int.mul_assoc x, Int.mul_assoc x]
    · have e1 : ∀ v, updR M k v r 0 = M r 0 := fun v => if_neg e
      rw [e1, e1, e1]
      by_cases h2 : k < r
      · rw [mnr_upd_lt h2, mnr_upd_lt h2, mnr_upd_lt h2, det_lin n (by omega), Int.mul_add, ← Int.mul_assoc, ← Int.mul_assoc, Int.mul_comm _ x, Int.mul_assoc x]
      · obtain ⟨k', rfl⟩ : ∃ k', k = k' + 1 := ⟨k - 1, by omega⟩
        rw [mnr_upd_gt (by omega), mnr_upd_gt (by omega), mnr_upd_gt (by omega), det_lin n (by omega), Int.mul_add, ← Int.mul_assoc, ← Int.mul_assoc, Int.mul_comm _ x, Int.mul_assoc x]
/-- two equal rows, one behind the other -/
theorem det_adj : ∀ n {M : Nat → Nat → Int} {k : Nat}, k + 1 < n → (∀ j, M k j = M (k + 1) j) → det n M = 0
  | 0, _, _, h, _ => absurd h (by omega)
  | n + 1, M, k, h, e => by
    rw [det_succ, dsum_two (k := k) (n + 1) h]
    · have em : mnr M k = mnr M (k + 1) := by
        funext i j; unfold mnr sk
        by_cases h1 : i = k
        · subst h1; rw [if_neg (by omega), if_pos (by omega)]; exact (e (j + 1)).symm
        · by_cases h2 : i < k
          · rw [if_pos h2, if_pos (by omega)]
          · rw [if_neg h2, if_neg (by omega)]
      rw [em, e 0, sgn_succ, Int.neg_mul, Int.neg_mul]
      omega
    · intro i hi h1 h2
      have hz : det n (mnr M i) = 0 := by
        by_cases h3 : i < k
        · obtain ⟨k', rfl⟩ : ∃ k', k = k' + 1 := ⟨k - 1, by omega⟩
          refine det_adj n (k := k') (by omega) (fun j => ?_)
          unfold mnr sk; rw [if_neg (by omega), if_neg (by omega)]; exact e (j + 1)
        · refine det_adj n (k := k) (by omega) (fun j => ?_)
          unfold mnr sk; rw [if_pos (by omega), if_pos (by omega)]; exact e (j + 1)
      rw [hz, Int.mul_zero]
def swR (M : Nat → Nat → Int) (k : Nat) : Nat → Nat → Int := fun i => if i = k then M (k + 1) else if i = k + 1 then M k else M i
theorem det_add {n : Nat} {M : Nat → Nat → Int} {k : Nat} {a b : Nat → Int} (h : k < n) : det n (updR M k (fun j => a j + b j)) = det n (updR M k a) + det n (updR M k b) := by
  have := det_lin n (M := M) (a := a) (b := b) (x := 1) h
  simp only [Int.one_mul] at this
  exact this
theorem updR_comm {M : Nat → Nat → Int} {k l : Nat} {v w : Nat → Int} (h : ¬ k = l) : updR (updR M k v) l w = updR (updR M l w) k v := by
  funext i j; unfold updR
  by_cases e : i = k
  · subst e; rw [if_neg h, if_pos rfl, if_pos rfl]
  · by_cases e2 : i = l
    · subst e2; rw [if_pos rfl, if_neg e, if_pos rfl]
    · rw [if_neg e2, if_neg e, if_neg e, if_neg e2]
theorem det_two {n : Nat} {M : Nat → Nat → Int} {k : Nat} {v : Nat → Int} (h : k + 1 < n) : det n (updR (updR M k v) (k + 1) v) = 0 :=
  det_adj n h (fun j => by unfold updR; rw [if_neg (by omega), if_pos rfl, if_pos rfl])
theorem det_swap {n : Nat} {M : Nat → Nat → Int} {k : Nat} (h : k + 1 < n) : det n (swR M k) = - det n M := by
  have e0 := det_two (n := n) (M := M) (k := k) (v := fun j => M k j + M (k + 1) j) h
  have e1 := det_add (n := n) (M := updR M k (fun j => M k j + M (k + 1) j)) (k := k + 1) (a := M k) (b := M (k + 1)) h
  have e2 := det_add (n := n) (M := updR M (k + 1) (M k)) (k := k) (a := M k) (b := M (k + 1)) (by omega)
  have e3 := det_add (n := n) (M := updR M (k + 1) (M (k + 1))) (k := k) (a := M k) (b := M (k + 1)) (by omega)
  rw [updR_comm (w := M k) (show ¬ k = k + 1 by omega), e2, updR_comm (w := M (k + 1)) (show ¬ k = k + 1 by omega), e3] at e1
  have z1 := det_two (n := n) (M := M) (k := k) (v := M k) h
  have z2 := det_two (n := n) (M := M) (k := k) (v := M (k + 1)) h
  rw [updR_comm (show ¬ k = k + 1 by omega)] at z1 z2
  have i1 : updR (updR M (k + 1) (M k)) k (M (k + 1)) = swR M k := by
    funext i j; unfold updR swR
    by_cases a1 : i = k
    · rw [if_pos a1, if_pos a1]
    · rw [if_neg a1, if_neg a1]
      by_cases a2 : i = k + 1
      · rw [if_pos a2, if_pos a2]
      · rw [if_neg a2, if_neg a2]
  have i2 : updR (updR M (k + 1) (M (k + 1))) k (M k) = M := by
    funext i j; unfold updR
    by_cases a1 : i = k
    · rw [if_pos a1, a1]
    · rw [if_neg a1]
      by_cases a2 : i = k + 1
      · rw [if_pos a2, a2]
      · rw [if_neg a2]
  rw [i1] at e1
  rw [i2] at e1
  rw [z1, z2, e0] at e1
  omega
/-- any two equal rows -/
theorem det_eq0 {n : Nat} : ∀ d {M : Nat → Nat → Int} {k : Nat}, k + 1 + d < n → (∀ j, M k j = M (k + 1 + d) j) → det n M = 0
  | 0, _, _, h, e => det_adj n h e
  | d + 1, M, k, h, e => by
    have h1 := det_swap (n := n) (M := M) (k := k + 1 + d) (by omega)
    have h2 : det n (swR M (k + 1 + d)) = 0 := by
      refine det_eq0 d (k := k) (by omega) (fun j => ?_)
      unfold swR
      rw [if_neg (by omega), if_neg (by omega), if_pos rfl]
      exact e j
    omega
/-- a multiple of the first row put to another changes nothing -/
theorem det_row {n : Nat} {M : Nat → Nat → Int} {k : Nat} {x : Int} (h : k + 1 < n) : det n (updR M (k + 1) (fun j => x * M 0 j + M (k + 1) j)) = det n M := by
  rw [det_lin n h]
  have z : det n (updR M (k + 1) (M 0)) = 0 := by
    refine det_eq0 k (k := 0) (by omega) (fun j => ?_)
    unfold updR
    rw [if_neg (by omega), show 0 + 1 + k = k + 1 by omega, if_pos rfl]
  have i : updR M (k + 1) (M (k + 1)) = M := by
    funext i j; unfold updR
    by_cases a : i = k + 1
    · rw [if_pos a, a]
    · rw [if_neg a]
  rw [z, i, Int.mul_zero, Int.zero_add]
theorem det_smul {n : Nat} {M : Nat → Nat → Int} {k : Nat} {a : Nat → Int} {x : Int} (h : k < n) : det n (updR M k (fun j => x * a j)) = x * det n (updR M k a) := by
  have h1 := det_lin n (M := M) (a := a) (b := fun _ => 0) (x := x) h
  have h2 := det_lin n (M := M) (a := fun _ => 0) (b := fun _ => 0) (x := 1) h
  simp only [Int.mul_zero, Int.add_zero, Int.one_mul] at h1 h2
  have h3 : det n (updR M k (fun _ => 0)) = 0 := by omega
  rw [h3, Int.add_zero] at h1
  exact h1
/-- the rows below the first, from 1 to m, times a, less what lies in the first column -/
def chio (M : Nat → Nat → Int) (m : Nat) : Nat → Nat → Int := fun i j => if 0 < i ∧ i ≤ m then M 0 0 * M i j - M i 0 * M 0 j else M i j
theorem det_chio {n : Nat} {M : Nat → Nat → Int} : ∀ m, m < n → det n (chio M m) = M 0 0 ^ m * det n M
  | 0, _ => by
    rw [show chio M 0 = M from by funext i j; unfold chio; rw [if_neg (by omega)], Int.pow_zero, Int.one_mul]
  | m + 1, h => by
    have ih := det_chio (n := n) (M := M) m (by omega)
    have h1 := det_smul (n := n) (M := chio M m) (k := m + 1) (a := chio M m (m + 1)) (x := M 0 0) h
    have i : updR (chio M m) (m + 1) (chio M m (m + 1)) = chio M m := by
      funext i j; unfold updR
      by_cases a : i = m + 1
      · rw [if_pos a, a]
      · rw [if_neg a]
    rw [i, ih] at h1
    have h2 := det_row (n := n) (M := updR (chio M m) (m + 1) (fun j => M 0 0 * chio M m (m + 1) j)) (k := m) (x := -(M (m + 1) 0)) h
    rw [h1] at h2
    have e : updR (updR (chio M m) (m + 1) (fun j => M 0 0 * chio M m (m + 1) j)) (m + 1) (fun j => -(M (m + 1) 0) * updR (chio M m) (m + 1) (fun j => M 0 0 * chio M m (m + 1) j) 0 j + updR (chio M m) (m + 1) (fun j => M 0 0 * chio M m (m + 1) j) (m + 1) j) = chio M (m + 1) := by
      funext i j
      unfold updR
      by_cases a : i = m + 1
      · subst a
        rw [if_pos rfl]
        show -(M (m + 1) 0) * (if 0 = m + 1 then M 0 0 * chio M m (m + 1) j else chio M m 0 j) + (if m + 1 = m + 1 then M 0 0 * chio M m (m + 1) j else chio M m (m + 1) j) = chio M (m + 1) (m + 1) j
        rw [if_neg (by omega), if_pos rfl]
        unfold chio
        rw [if_neg (by omega), if_neg (by omega), if_pos (by omega), Int.neg_mul]
        omega
      · rw [if_neg a, if_neg a]
        unfold chio
        by_cases c : 0 < i ∧ i ≤ m
        · rw [if_pos c, if_pos (by omega)]
        · rw [if_neg c, if_neg (by omega)]
    rw [e] at h2
    rw [h2, Int.pow_succ, Int.mul_comm (M 0 0 ^ m) (M 0 0), Int.mul_assoc]
/-- Chio -/
theorem det_step {n : Nat} {M : Nat → Nat → Int} : M 0 0 ^ n * det (n + 1) M = M 0 0 * det n (fun i j => M 0 0 * M (i + 1) (j + 1) - M (i + 1) 0 * M 0 (j + 1)) := by
  rw [← det_chio n (by omega), det_succ, dsum_first n]
  · have e : chio M n 0 0 = M 0 0 := by unfold chio; rw [if_neg (by omega)]
    rw [e, show sgn 0 = 1 from rfl, Int.one_mul]
    congr 1
    refine det_congr n (fun i j hi hj => ?_)
    show chio M n (sk 0 i) (j + 1) = _
    rw [show sk 0 i = i + 1 from if_neg (by omega)]
    unfold chio
    rw [if_pos (by omega)]
  · intro i hi h0
    have e : chio M n i 0 = 0 := by
      unfold chio; rw [if_pos (by omega), Int.mul_comm]; omega
    rw [e, Int.mul_zero, Int.zero_mul]
