/-! ===== the table by its laws ===== -/
section TX
variable (E : Nat → Nat → Int)
def tx (c x y : Nat) : Int := mn E (pv E c).2 (pv E c).1 x y
def td (c : Nat) : Int := dt E (pv E c).2 (pv E c).1
theorem tx_0 (x y : Nat) : tx E 0 x y = E x y := mn_0 E _ x y
theorem td_0 : td E 0 = 1 := rfl
theorem td_pos (c : Nat) : 0 < td E c := by
  by_cases h : (pv E c).1 = 0
  · unfold td; rw [h, dt_0]; decide
  · exact (pv_ok E c).2.2 _ (by omega) (Nat.le_refl _)
theorem pv_p {c : Nat} (h : pw E c = true) : pv E (c + 1) = ((pv E c).1 + 1, fun a => if a = (pv E c).1 then c else (pv E c).2 a) := if_pos (of_decide_eq_true h)
theorem pv_n {c : Nat} (h : pw E c = false) : pv E (c + 1) = pv E c := if_neg (of_decide_eq_false h)
theorem tx_pos {c : Nat} (h : pw E c = true) : 0 < tx E c c c := of_decide_eq_true h
theorem tx_npos {c : Nat} (h : pw E c = false) : ¬ 0 < tx E c c c := of_decide_eq_false h
theorem tx_n {c : Nat} (h : pw E c = false) (x y : Nat) : tx E (c + 1) x y = tx E c x y := by unfold tx; rw [pv_n E h]
theorem td_n {c : Nat} (h : pw E c = false) : td E (c + 1) = td E c := by unfold td; rw [pv_n E h]
theorem tx_p {c : Nat} (h : pw E c = true) (x y : Nat) : tx E c c c * tx E c x y - tx E c x c * tx E c c y = td E c * tx E (c + 1) x y := by
  have hcg : ∀ a, a < (pv E c).1 → (pv E c).2 a = (if a = (pv E c).1 then c else (pv E c).2 a) := fun a ha => by rw [if_neg (by omega)]
  have k3 := (pv_ok E c).2.2
  have s := mn_step E (fun a => if a = (pv E c).1 then c else (pv E c).2 a) (pv E c).1 x y (fun l h1 h2 z => by
    have := k3 l h1 h2
    rw [← dt_cong (g := (pv E c).2) (fun a ha => by rw [if_neg (by omega)])] at z
    omega)
  have e : (if (pv E c).1 = (pv E c).1 then c else (pv E c).2 (pv E c).1) = c := if_pos rfl
  rw [e] at s
  unfold tx td
  rw [pv_p E h, mn_cong hcg c c, mn_cong hcg x y, mn_cong hcg x c, mn_cong hcg c y, dt_cong hcg]
  exact s
theorem td_p {c : Nat} (h : pw E c = true) : td E (c + 1) = tx E c c c := by
  have hcg : ∀ a, a < (pv E c).1 → (pv E c).2 a = (if a = (pv E c).1 then c else (pv E c).2 a) := fun a ha => by rw [if_neg (by omega)]
  unfold td tx
  rw [pv_p E h]
  have h6 := mn_dt E (fun a => if a = (pv E c).1 then c else (pv E c).2 a) (pv E c).1
  have e : (if (pv E c).1 = (pv E c).1 then c else (pv E c).2 (pv E c).1) = c := if_pos rfl
  rw [e] at h6
  rw [mn_cong hcg]
  exact h6.symm
/-- a row of a pivot is nothing; a column too -/
theorem tx_z : ∀ c i, i < c → pw E i = true → ∀ y, tx E c i y = 0 ∧ tx E c y i = 0
  | c + 1, i, hi, hp, y => by
    have hd := td_pos E c
    by_cases w : pw E c = true
    · by_cases q : i = c
      · subst q
        have s1 := tx_p E hp i y
        have s2 := tx_p E hp y i
        refine ⟨can (show ¬ td E i = 0 by omega) ?_, can (show ¬ td E i = 0 by omega) ?_⟩
        · rw [← s1]; grind
        · rw [← s2]; grind
      · have ih := fun y => tx_z c i (by omega) hp y
        have s1 := tx_p E w i y
        have s2 := tx_p E w y i
        rw [(ih y).1, (ih c).1] at s1
        rw [(ih y).2, (ih c).2] at s2
        refine ⟨can (show ¬ td E c = 0 by omega) ?_, can (show ¬ td E c = 0 by omega) ?_⟩
        · rw [← s1]; grind
        · rw [← s2]; grind
    · have w' : pw E c = false := by cases h : pw E c <;> simp_all
      have q : ¬ i = c := fun z => w (z ▸ hp)
      rw [tx_n E w', tx_n E w']
      exact tx_z c i (by omega) hp y
/-- a linear tie between columns stays -/
theorem tx_lc {α : Nat → Int} {m : Nat} {C : Nat → Nat} {z : Nat} {x : Nat} (P : Nat → Prop) (hP : ∀ c, c < 8 → P c) (h : ∀ x, P x → E x z = dsum (fun i => α i * E x (C i)) m) (hx : P x) : ∀ c, c ≤ 8 → tx E c x z = dsum (fun i => α i * tx E c x (C i)) m := by
  intro c
  induction c generalizing x with
  | zero => intro _; rw [tx_0, h x hx]; exact dsum_congr m (fun i _ => by rw [tx_0])
  | succ c ih =>
    intro hc
    by_cases w : pw E c = true
    · have hd := td_pos E c
      refine can (show ¬ td E c = 0 by omega) ?_
      rw [← tx_p E w, ih hx (by omega), ih (hP c (by omega)) (by omega)]
      have e1 := dsum_4 (f := fun i => α i * (td E c * tx E (c + 1) x (C i))) (f1 := fun i => α i * tx E c x (C i)) (f2 := fun i => α i * tx E c c (C i)) (f3 := fun _ => 0) (f4 := fun _ => 0) (a := tx E c c c) (b := - tx E c x c) (c := 0) (e := 0) m (fun i _ => by
        show α i * (td E c * tx E (c + 1) x (C i)) = _
        rw [← tx_p E w]; grind)
      have e2 := dsum_4 (f := fun i => α i * (td E c * tx E (c + 1) x (C i))) (f1 := fun i => α i * tx E (c + 1) x (C i)) (f2 := fun _ => 0) (f3 := fun _ => 0) (f4 := fun _ => 0) (a := td E c) (b := 0) (c := 0) (e := 0) m (fun i _ => by
        show α i * (td E c * tx E (c + 1) x (C i)) = _
        grind)
      rw [e1] at e2
      grind
    · have w' : pw E c = false := by cases h : pw E c <;> simp_all
      rw [tx_n E w', ih hx (by omega)]
      exact dsum_congr m (fun i _ => by rw [tx_n E w'])
theorem tx_lr {α : Nat → Int} {m : Nat} {C : Nat → Nat} {z : Nat} {x : Nat} (P : Nat → Prop) (hP : ∀ c, c < 8 → P c) (h : ∀ x, P x → E z x = dsum (fun i => α i * E (C i) x) m) (hx : P x) : ∀ c, c ≤ 8 → tx E c z x = dsum (fun i => α i * tx E c (C i) x) m := by
  intro c
  induction c generalizing x with
  | zero => intro _; rw [tx_0, h x hx]; exact dsum_congr m (fun i _ => by rw [tx_0])
  | succ c ih =>
    intro hc
    by_cases w : pw E c = true
    · have hd := td_pos E c
      refine can (show ¬ td E c = 0 by omega) ?_
      rw [← tx_p E w, ih hx (by omega), ih (hP c (by omega)) (by omega)]
      have e1 := dsum_4 (f := fun i => α i * (td E c * tx E (c + 1) (C i) x)) (f1 := fun i => α i * tx E c (C i) x) (f2 := fun i => α i * tx E c (C i) c) (f3 := fun _ => 0) (f4 := fun _ => 0) (a := tx E c c c) (b := - tx E c c x) (c := 0) (e := 0) m (fun i _ => by
        show α i * (td E c * tx E (c + 1) (C i) x) = _
        rw [← tx_p E w]; grind)
      have e2 := dsum_4 (f := fun i => α i * (td E c * tx E (c + 1) (C i) x)) (f1 := fun i => α i * tx E (c + 1) (C i) x) (f2 := fun _ => 0) (f3 := fun _ => 0) (f4 := fun _ => 0) (a := td E c) (b := 0) (c := 0) (e := 0) m (fun i _ => by
        show α i * (td E c * tx E (c + 1) (C i) x) = _
        grind)
      rw [e1] at e2
      grind
    · have w' : pw E c = false := by cases h : pw E c <;> simp_all
      rw [tx_n E w', ih hx (by omega)]
      exact dsum_congr m (fun i _ => by rw [tx_n E w'])
/-- symmetry -/
theorem tx_s {N : Nat} (hN : 8 ≤ N) (hs : ∀ i j, i < N → j < N → E i j = E j i) : ∀ c, c ≤ 8 → ∀ i j, i < N → j < N → tx E c i j = tx E c j i
  | 0, _, i, j, hi, hj => by rw [tx_0, tx_0]; exact hs i j hi hj
  | c + 1, hc, i, j, hi, hj => by
    have ih := tx_s hN hs c (by omega)
    by_cases w : pw E c = true
    · have hd := td_pos E c
      refine can (show ¬ td E c = 0 by omega) ?_
      rw [← tx_p E w, ← tx_p E w, ih i j hi hj, ih i c hi (by omega), ih c j (by omega) hj]; grind
    · have w' : pw E c = false := by cases h : pw E c <;> simp_all
      rw [tx_n E w', tx_n E w']; exact ih i j hi hj
end TX
