/-! ===== all sweeps over the integers ===== -/
section PV
variable (E : Nat → Nat → Int)
/-- how many pivots lie below column c, and which -/
def pv : Nat → Nat × (Nat → Nat)
  | 0 => (0, fun _ => 0)
  | c + 1 => if 0 < mn E (pv c).2 (pv c).1 c c then ((pv c).1 + 1, fun a => if a = (pv c).1 then c else (pv c).2 a) else pv c
def pw (c : Nat) : Bool := decide (0 < mn E (pv E c).2 (pv E c).1 c c)
def ph (c i : Nat) : Nat := if i < c ∧ pw E i = true then i + 8 else i
theorem pv_ok : ∀ c, (pv E c).1 ≤ c ∧ (∀ a, a < (pv E c).1 → (pv E c).2 a < c) ∧ ∀ l, 0 < l → l ≤ (pv E c).1 → 0 < dt E (pv E c).2 l
  | 0 => ⟨Nat.le_refl _, fun a ha => absurd ha (Nat.not_lt_zero a), fun l h1 h2 => by
      have h3 : l ≤ 0 := h2
      omega⟩
  | c + 1 => by
    obtain ⟨h1, h2, h3⟩ := pv_ok c
    unfold pv
    by_cases e : 0 < mn E (pv E c).2 (pv E c).1 c c
    · rw [if_pos e]
      refine ⟨by show (pv E c).1 + 1 ≤ c + 1; omega, fun a ha => ?_, fun l h4 h5 => ?_⟩
      · show (if a = (pv E c).1 then c else (pv E c).2 a) < c + 1
        have ha' : a < (pv E c).1 + 1 := ha
        by_cases z : a = (pv E c).1
        · rw [if_pos z]; omega
        · rw [if_neg z]; have := h2 a (by omega); omega
      · show 0 < dt E (fun a => if a = (pv E c).1 then c else (pv E c).2 a) l
        have h5' : l ≤ (pv E c).1 + 1 := h5
        by_cases z : l = (pv E c).1 + 1
        · subst z
          have h6 := mn_dt E (fun a => if a = (pv E c).1 then c else (pv E c).2 a) (pv E c).1
          rw [← h6]
          have h7 : (if (pv E c).1 = (pv E c).1 then c else (pv E c).2 (pv E c).1) = c := if_pos rfl
          show 0 < mn E _ _ (if (pv E c).1 = (pv E c).1 then c else (pv E c).2 (pv E c).1) (if (pv E c).1 = (pv E c).1 then c else (pv E c).2 (pv E c).1)
          rw [h7, ← mn_cong (g := (pv E c).2) (fun a ha => by rw [if_neg (by omega)])]
          exact e
        · rw [← dt_cong (g := (pv E c).2) (fun a ha => by rw [if_neg (by omega)])]
          exact h3 l h4 (by omega)
    · rw [if_neg e]
      exact ⟨by omega, fun a ha => by have := h2 a ha; omega, h3⟩
end PV
def cz_go (G : Nat → Nat → Int) : Nat → (Nat → Nat → Int) × Int × Nat
  | 0 => (G, 1, 0)
  | c + 1 => if 0 < (cz_go G c).1 c c then (cz_sw c (cz_go G c).2.1 (cz_go G c).1, (cz_go G c).1 c c, (cz_go G c).2.2 + 1) else cz_go G c
/-- the class's table is made of minors -/
theorem cz_rel {G F : Nat → Nat → Int} : ∀ c, c ≤ 7 → (∀ i j, i < 8 → j < 8 → (cz_go G c).1 i j = mn (exE G F) (pv (exE G F) c).2 (pv (exE G F) c).1 (ph (exE G F) c i) (ph (exE G F) c j)) ∧ (cz_go G c).2.1 = dt (exE G F) (pv (exE G F) c).2 (pv (exE G F) c).1 ∧ (cz_go G c).2.2 = (pv (exE G F) c).1
  | 0, _ => by
    refine ⟨fun i j hi hj => ?_, rfl, rfl⟩
    show G i j = mn (exE G F) _ 0 _ _
    rw [mn_0]
    have e : ∀ z, ph (exE G F) 0 z = z := fun z => if_neg (by omega)
    rw [e, e]
    unfold exE
    rw [if_pos hi, if_pos hj]
  | c + 1, hc => by
    obtain ⟨h1, h2, h3⟩ := cz_rel (G := G) (F := F) c (by omega)
    obtain ⟨k1, k2, k3⟩ := pv_ok (exE G F) c
    have hcc : ph (exE G F) c c = c := if_neg (by omega)
    have hT : (cz_go G c).1 c c = mn (exE G F) (pv (exE G F) c).2 (pv (exE G F) c).1 c c := by rw [h1 c c (by omega) (by omega), hcc]
    by_cases e : 0 < mn (exE G F) (pv (exE G F) c).2 (pv (exE G F) c).1 c c
    · have eg : cz_go G (c + 1) = _ := if_pos (by rw [hT]; exact e)
      have ep : pv (exE G F) (c + 1) = _ := if_pos e
      have ew : pw (exE G F) c = true := decide_eq_true e
      rw [eg, ep]
      have hcg : ∀ a, a < (pv (exE G F) c).1 → (pv (exE G F) c).2 a = (if a = (pv (exE G F) c).1 then c else (pv (exE G F) c).2 a) := fun a ha => by rw [if_neg (by omega)]
      refine ⟨fun i j hi hj => ?_, ?_, by show _ + 1 = _ + 1; rw [h3]⟩
      · show cz_sw c (cz_go G c).2.1 (cz_go G c).1 i j = mn (exE G F) (fun a => if a = (pv (exE G F) c).1 then c else (pv (exE G F) c).2 a) ((pv (exE G F) c).1 + 1) (ph (exE G F) (c + 1) i) (ph (exE G F) (c + 1) j)
        rw [h2, dt_cong hcg]
        have hs := cz_step (G := G) (F := F) (g := fun a => if a = (pv (exE G F) c).1 then c else (pv (exE G F) c).2 a) (φ := ph (exE G F) c) (k := (pv (exE G F) c).1) (c := c) (if_pos rfl) (by omega) (fun a ha => by
          have := k2 a ha
          show (if a = (pv (exE G F) c).1 then c else (pv (exE G F) c).2 a) < 8 ∧ ¬ (if a = (pv (exE G F) c).1 then c else (pv (exE G F) c).2 a) = c
          rw [if_neg (by omega)]; exact ⟨by omega, by omega⟩) (fun l h4 h5 z => by
          have := k3 l h4 h5
          rw [← dt_cong (g := (pv (exE G F) c).2) (fun a ha => by rw [if_neg (by omega)])] at z
          omega) hcc (fun i hi h => by
          unfold ph
          by_cases q : i < c ∧ pw (exE G F) i = true
          · rw [if_pos q]; exact Or.inr rfl
          · rw [if_neg q]; exact Or.inl rfl) (T := (cz_go G c).1) (fun i j hi hj => by rw [h1 i j hi hj, mn_cong hcg]) hi hj
        rw [hs]
        have ep2 : ∀ i, (if i = c then c + 8 else ph (exE G F) c i) = ph (exE G F) (c + 1) i := fun i => by
          unfold ph
          by_cases q : i = c
          · subst q; rw [if_pos rfl, if_pos ⟨by omega, ew⟩]
          · rw [if_neg q]
            by_cases q2 : i < c ∧ pw (exE G F) i = true
            · rw [if_pos q2, if_pos ⟨by omega, q2.2⟩]
            · rw [if_neg q2, if_neg (fun z => q2 ⟨by omega, z.2⟩)]
        rw [ep2, ep2]
      · show (cz_go G c).1 c c = dt (exE G F) (fun a => if a = (pv (exE G F) c).1 then c else (pv (exE G F) c).2 a) ((pv (exE G F) c).1 + 1)
        have h6 := mn_dt (exE G F) (fun a => if a = (pv (exE G F) c).1 then c else (pv (exE G F) c).2 a) (pv (exE G F) c).1
        rw [← h6, hT]
        show _ = mn _ _ _ (if (pv (exE G F) c).1 = (pv (exE G F) c).1 then c else (pv (exE G F) c).2 (pv (exE G F) c).1) (if (pv (exE G F) c).1 = (pv (exE G F) c).1 then c else (pv (exE G F) c).2 (pv (exE G F) c).1)
        rw [if_pos rfl, mn_cong hcg]
    · have eg : cz_go G (c + 1) = cz_go G c := if_neg (by rw [hT]; exact e)
      have ep : pv (exE G F) (c + 1) = pv (exE G F) c := if_neg e
      have ew : pw (exE G F) c = false := decide_eq_false e
      rw [eg, ep]
      have ep2 : ∀ i, ph (exE G F) (c + 1) i = ph (exE G F) c i := fun i => by
        unfold ph
        by_cases q : i = c
        · subst q; rw [if_neg (fun z => by rw [ew] at z; exact absurd z.2 (by decide)), if_neg (by omega)]
        · by_cases q2 : i < c ∧ pw (exE G F) i = true
          · rw [if_pos q2, if_pos ⟨by omega, q2.2⟩]
          · rw [if_neg q2, if_neg (fun z => q2 ⟨by omega, z.2⟩)]
      exact ⟨fun i j hi hj => by rw [h1 i j hi hj, ep2, ep2], h2, h3⟩
