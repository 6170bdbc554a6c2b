/-! ===== races as vectors ===== -/
section AV
variable (A : Nat → Nat → Int) (N : Nat) (f : Nat → Int)
/-- sums of products of any two columns over N races -/
def av_G : Nat → Nat → Int := fun i j => dsum (fun q => A q i * A q j) N
def av_F : Nat → Nat → Int := fun q => if q = 0 then f else A (q - 1)
abbrev av_E : Nat → Nat → Int := exE (av_G A N) (av_F A f)
theorem av_sym (i j : Nat) : av_G A N i j = av_G A N j i := dsum_congr N (fun q _ => Int.mul_comm _ _)
theorem av_rr {i j : Nat} (hi : i < 8) (hj : j < 8) : av_E A N f i j = av_G A N i j := by unfold av_E exE; rw [if_pos hi, if_pos hj]
theorem av_q {i q : Nat} (hi : i < 8) : av_E A N f i (17 + q) = A q i := by
  unfold av_E exE
  rw [if_pos hi, if_neg (by omega), if_neg (by omega)]
  show av_F A f (17 + q - 16) i = _
  have e : 17 + q - 16 = q + 1 := by omega
  rw [e]
  unfold av_F
  rw [if_neg (by omega)]; rfl
theorem av_f {i : Nat} (hi : i < 8) : av_E A N f i 16 = f i := by
  unfold av_E exE
  rw [if_pos hi, if_neg (by omega), if_neg (by omega)]
  rfl
theorem av_v {i j : Nat} (hi : ¬ i < 8) (hj : ¬ j < 8) : av_E A N f i j = 0 := by
  unfold av_E exE; rw [if_neg hi, if_neg hj]
theorem av_s : ∀ i j, i < 16 → j < 16 → av_E A N f i j = av_E A N f j i := fun i j hi hj => by
  by_cases a : i < 8
  · by_cases b : j < 8
    · rw [av_rr A N f a b, av_rr A N f b a, av_sym]
    · obtain ⟨y, rfl⟩ : ∃ y, j = y + 8 := ⟨j - 8, by omega⟩
      unfold av_E
      rw [exE_vc (by omega) a, exE_vr (by omega) a]
  · obtain ⟨x, rfl⟩ : ∃ x, i = x + 8 := ⟨i - 8, by omega⟩
    by_cases b : j < 8
    · unfold av_E
      rw [exE_vc (by omega) b, exE_vr (by omega) b]
    · rw [av_v A N f a b, av_v A N f b a]
theorem av_gm : ∀ i j, i < 8 → j < 8 → dsum (fun q => av_E A N f i (17 + q) * av_E A N f j (17 + q)) N = av_E A N f i j := fun i j hi hj => by
  rw [av_rr A N f hi hj]
  exact dsum_congr N (fun q _ => by rw [av_q A N f hi, av_q A N f hj])
/-- the diagonal is never below 0 -/
theorem ax_psd {c i : Nat} (hc : c ≤ 8) (hi : i < 8) : 0 ≤ tx (av_E A N f) c i i ∧ (tx (av_E A N f) c i i = 0 → ∀ j, j < 8 → tx (av_E A N f) c i j = 0) ∧ ∀ j, j < 8 → tx (av_E A N f) c i j * tx (av_E A N f) c i j ≤ tx (av_E A N f) c i i * tx (av_E A N f) c j j := by
  have h := pv_ok (av_E A N f) c
  exact mn_psd (av_E A N f) (pv (av_E A N f) c).2 (fun i => i < 8) (fun q => 17 + q) N (fun i j hi hj => av_s A N f i j (by omega) (by omega)) (av_gm A N f) (fun a ha => by have := h.2.1 a ha; show _ < 8; omega) h.2.2 hi
theorem ax_gram {c i j : Nat} (hc : c ≤ 8) (hi : i < 8) (hj : j < 8) : dsum (fun q => tx (av_E A N f) c i (17 + q) * tx (av_E A N f) c j (17 + q)) N = td (av_E A N f) c * tx (av_E A N f) c i j := by
  have h := pv_ok (av_E A N f) c
  exact mn_gram (av_E A N f) (pv (av_E A N f) c).2 (fun i => i < 8) (fun q => 17 + q) N (fun i j hi hj => av_s A N f i j (by omega) (by omega)) (av_gm A N f) _ (fun a ha => by have := h.2.1 a ha; show _ < 8; omega) (fun l h1 h2 z => by have := h.2.2 l h1 h2; omega) i j hi hj
theorem ax_had {c i : Nat} (hc : c ≤ 8) (hi : i < 8) : tx (av_E A N f) c i i ≤ td (av_E A N f) c * av_G A N i i := by
  have h := pv_ok (av_E A N f) c
  have := mn_had (av_E A N f) (pv (av_E A N f) c).2 (fun i => i < 8) (fun i j hi hj => av_s A N f i j (by omega) (by omega)) _ (fun a ha => by have := h.2.1 a ha; show _ < 8; omega) h.2.2 i hi
  rw [av_rr A N f hi hi] at this
  exact this
theorem ax_sym {c i j : Nat} (hc : c ≤ 8) (hi : i < 16) (hj : j < 16) : tx (av_E A N f) c i j = tx (av_E A N f) c j i := tx_s _ (N := 16) (by omega) (av_s A N f) c hc i j hi hj
/-- a column that was passed over: nothing is left of it -/
theorem ax_n : ∀ c i, c ≤ 8 → i < c → pw (av_E A N f) i = false → ∀ j, j < 8 → tx (av_E A N f) c i j = 0
  | c + 1, i, hc, hi, hp, j, hj => by
    by_cases q : i = c
    · subst q
      rw [tx_n _ hp]
      have h1 := ax_psd A N f (c := i) (i := i) (by omega) (by omega)
      have h2 := tx_npos _ hp
      exact h1.2.1 (by omega) j hj
    · have ih := ax_n c i (by omega) (by omega) hp
      by_cases w : pw (av_E A N f) c = true
      · have hd := td_pos (av_E A N f) c
        refine can (show ¬ td (av_E A N f) c = 0 by omega) ?_
        rw [← tx_p _ w, ih j hj, ih c (by omega)]; grind
      · have w' : pw (av_E A N f) c = false := by cases h : pw (av_E A N f) c <;> simp_all
        rw [tx_n _ w']; exact ih j hj
/-- a virtual row of a column that is no pivot (yet) -/
theorem ax_v : ∀ c i, c ≤ 8 → i < 8 → (i < c → pw (av_E A N f) i = false) → ∀ y, tx (av_E A N f) c (i + 8) y = av_E A N f (i + 8) y * td (av_E A N f) c
  | 0, i, _, _, _, y => by rw [tx_0, td_0]; omega
  | c + 1, i, hc, hi, h, y => by
    have ih := ax_v c i (by omega) hi (fun z => h (by omega))
    by_cases w : pw (av_E A N f) c = true
    · have hd := td_pos (av_E A N f) c
      have ne : ¬ i = c := fun z => by subst z; rw [h (by omega)] at w; exact absurd w (by decide)
      refine can (show ¬ td (av_E A N f) c = 0 by omega) ?_
      rw [← tx_p _ w, ih y, ih c, td_p _ w]
      have e : av_E A N f (i + 8) c = 0 := by unfold av_E; rw [exE_vr hi (by omega), if_neg ne]
      rw [e]; grind
    · have w' : pw (av_E A N f) c = false := by cases h : pw (av_E A N f) c <;> simp_all
      rw [tx_n _ w', td_n _ w']; exact ih y
theorem ax_vc : ∀ c i, c ≤ 8 → i < 8 → (i < c → pw (av_E A N f) i = false) → ∀ y, tx (av_E A N f) c y (i + 8) = av_E A N f y (i + 8) * td (av_E A N f) c
  | 0, i, _, _, _, y => by rw [tx_0, td_0]; omega
  | c + 1, i, hc, hi, h, y => by
    have ih := ax_vc c i (by omega) hi (fun z => h (by omega))
    by_cases w : pw (av_E A N f) c = true
    · have hd := td_pos (av_E A N f) c
      have ne : ¬ i = c := fun z => by subst z; rw [h (by omega)] at w; exact absurd w (by decide)
      refine can (show ¬ td (av_E A N f) c = 0 by omega) ?_
      rw [← tx_p _ w, ih y, ih c, td_p _ w]
      have e : av_E A N f c (i + 8) = 0 := by unfold av_E; rw [exE_vc hi (by omega), if_neg ne]
      rw [e]; grind
    · have w' : pw (av_E A N f) c = false := by cases h : pw (av_E A N f) c <;> simp_all
      rw [tx_n _ w', td_n _ w']; exact ih y
theorem dsum_one {h : Nat → Int} {k : Nat} : ∀ n, k < n → (∀ i, i < n → ¬ i = k → h i = 0) → dsum h n = h k
  | n + 1, hk, hz => by
    show dsum h n + h n = _
    by_cases c : k = n
    · subst c; rw [dsum_zero k (fun i hi => hz i (by omega) (by omega))]; omega
    · rw [dsum_one n (by omega) (fun i hi => hz i (by omega)), hz n (by omega) (by omega)]; omega
/-- the column of a form by the virtual columns -/
theorem ax_f {c x : Nat} (hc : c ≤ 8) : tx (av_E A N f) c x 16 = dsum (fun i => (- f i) * tx (av_E A N f) c x (i + 8)) 8 := by
  refine tx_lc (av_E A N f) (α := fun i => - f i) (C := fun i => i + 8) (fun _ => True) (fun _ _ => trivial) (fun x _ => ?_) trivial c hc
  by_cases hx : x < 8
  · rw [av_f A N f hx, dsum_one (k := x) 8 hx (fun i hi h => by
      show - f i * av_E A N f x (i + 8) = 0
      unfold av_E; rw [exE_vc hi hx, if_neg h]; omega)]
    show _ = - f x * av_E A N f x (x + 8)
    unfold av_E; rw [exE_vc hx hx, if_pos rfl]; omega
  · rw [av_v A N f hx (by omega), dsum_zero 8 (fun i _ => by
      show - f i * av_E A N f x (i + 8) = 0
      rw [av_v A N f hx (by omega)]; omega)]
/-- a real row by the rows as they were -/
theorem ax_r {x : Nat} (hx : x < 8) : ∀ c, c ≤ 8 → ∀ j, tx (av_E A N f) c x j = dsum (fun i => (- tx (av_E A N f) c x (i + 8)) * av_E A N f i j) 8
  | 0, _, j => by
    rw [tx_0, dsum_one (k := x) 8 hx (fun i hi h => by
      show - tx (av_E A N f) 0 x (i + 8) * _ = 0
      rw [tx_0]; unfold av_E; rw [exE_vc hi hx, if_neg h]; omega)]
    show _ = - tx (av_E A N f) 0 x (x + 8) * _
    rw [tx_0]
    have e : av_E A N f x (x + 8) = -1 := by unfold av_E; rw [exE_vc hx hx, if_pos rfl]
    rw [e]; omega
  | c + 1, hc, j => by
    by_cases w : pw (av_E A N f) c = true
    · have hd := td_pos (av_E A N f) c
      refine can (show ¬ td (av_E A N f) c = 0 by omega) ?_
      rw [← tx_p _ w, ax_r hx c (by omega) j, ax_r (x := c) (by omega) c (by omega) j]
      have e1 := dsum_4 (f := fun i => (- (td (av_E A N f) c * tx (av_E A N f) (c + 1) x (i + 8))) * av_E A N f i j) (f1 := fun i => (- tx (av_E A N f) c x (i + 8)) * av_E A N f i j) (f2 := fun i => (- tx (av_E A N f) c c (i + 8)) * av_E A N f i j) (f3 := fun _ => 0) (f4 := fun _ => 0) (a := tx (av_E A N f) c c c) (b := - tx (av_E A N f) c x c) (c := 0) (e := 0) 8 (fun i _ => by
        show (- (td (av_E A N f) c * tx (av_E A N f) (c + 1) x (i + 8))) * av_E A N f i j = _
        rw [← tx_p _ w]; grind)
      have e2 := dsum_4 (f := fun i => (- (td (av_E A N f) c * tx (av_E A N f) (c + 1) x (i + 8))) * av_E A N f i j) (f1 := fun i => (- tx (av_E A N f) (c + 1) x (i + 8)) * av_E A N f i j) (f2 := fun _ => 0) (f3 := fun _ => 0) (f4 := fun _ => 0) (a := td (av_E A N f) c) (b := 0) (c := 0) (e := 0) 8 (fun i _ => by
        show (- (td (av_E A N f) c * tx (av_E A N f) (c + 1) x (i + 8))) * av_E A N f i j = _
        grind)
      rw [e1] at e2
      grind
    · have w' : pw (av_E A N f) c = false := by cases h : pw (av_E A N f) c <;> simp_all
      rw [tx_n _ w', ax_r hx c (by omega) j]
      exact dsum_congr 8 (fun i _ => by rw [tx_n _ w'])
/-- a virtual row by the rows as they were -/
theorem ax_rv {x : Nat} (hx : x < 8) : ∀ c, c ≤ 8 → ∀ j, tx (av_E A N f) c (x + 8) j = td (av_E A N f) c * av_E A N f (x + 8) j + dsum (fun i => (- tx (av_E A N f) c (x + 8) (i + 8)) * av_E A N f i j) 8
  | 0, _, j => by
    rw [tx_0, td_0, dsum_zero 8 (fun i hi => by
      show - tx (av_E A N f) 0 (x + 8) (i + 8) * _ = 0
      rw [tx_0, av_v A N f (by omega) (by omega)]; omega)]
    omega
  | c + 1, hc, j => by
    by_cases w : pw (av_E A N f) c = true
    · have hd := td_pos (av_E A N f) c
      refine can (show ¬ td (av_E A N f) c = 0 by omega) ?_
      rw [← tx_p _ w, ax_rv hx c (by omega) j, ax_r A N f (x := c) (by omega) c (by omega) j, td_p _ w]
      have e1 := dsum_4 (f := fun i => (- (td (av_E A N f) c * tx (av_E A N f) (c + 1) (x + 8) (i + 8))) * av_E A N f i j) (f1 := fun i => (- tx (av_E A N f) c (x + 8) (i + 8)) * av_E A N f i j) (f2 := fun i => (- tx (av_E A N f) c c (i + 8)) * av_E A N f i j) (f3 := fun _ => 0) (f4 := fun _ => 0) (a := tx (av_E A N f) c c c) (b := - tx (av_E A N f) c (x + 8) c) (c := 0) (e := 0) 8 (fun i _ => by
        show (- (td (av_E A N f) c * tx (av_E A N f) (c + 1) (x + 8) (i + 8))) * av_E A N f i j = _
        rw [← tx_p _ w]; grind)
      have e2 := dsum_4 (f := fun i => (- (td (av_E A N f) c * tx (av_E A N f) (c + 1) (x + 8) (i + 8))) * av_E A N f i j) (f1 := fun i => (- tx (av_E A N f) (c + 1) (x + 8) (i + 8)) * av_E A N f i j) (f2 := fun _ => 0) (f3 := fun _ => 0) (f4 := fun _ => 0) (a := td (av_E A N f) c) (b := 0) (c := 0) (e := 0) 8 (fun i _ => by
        show (- (td (av_E A N f) c * tx (av_E A N f) (c + 1) (x + 8) (i + 8))) * av_E A N f i j = _
        grind)
      rw [e1] at e2
      grind
    · have w' : pw (av_E A N f) c = false := by cases h : pw (av_E A N f) c <;> simp_all
      rw [tx_n _ w', td_n _ w', ax_rv hx c (by omega) j]
      have e : dsum (fun i => (- tx (av_E A N f) (c + 1) (x + 8) (i + 8)) * av_E A N f i j) 8 = dsum (fun i => (- tx (av_E A N f) c (x + 8) (i + 8)) * av_E A N f i j) 8 := dsum_congr 8 (fun i _ => by rw [tx_n _ w'])
      rw [e]
end AV
