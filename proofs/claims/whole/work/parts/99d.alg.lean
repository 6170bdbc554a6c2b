/-! ===== the vectors of the virtual rows; what bounds them ===== -/
theorem dsum_add {f h : Nat → Int} : ∀ n, dsum (fun i => f i + h i) n = dsum f n + dsum h n
  | 0 => rfl
  | n + 1 => by
    show dsum (fun i => f i + h i) n + (f n + h n) = (dsum f n + f n) + (dsum h n + h n)
    rw [dsum_add n]; omega
theorem dsum_mul {f : Nat → Int} {x : Int} : ∀ n, dsum (fun i => x * f i) n = x * dsum f n
  | 0 => by show (0 : Int) = x * 0; omega
  | n + 1 => by
    show dsum (fun i => x * f i) n + x * f n = x * (dsum f n + f n)
    rw [dsum_mul n, Int.mul_add]
theorem dsum_swap {h : Nat → Nat → Int} (m : Nat) : ∀ n, dsum (fun q => dsum (fun l => h q l) m) n = dsum (fun l => dsum (fun q => h q l) n) m
  | 0 => by
    show (0 : Int) = dsum (fun l => 0) m
    rw [dsum_zero m (fun _ _ => rfl)]
  | n + 1 => by
    show dsum (fun q => dsum (fun l => h q l) m) n + dsum (fun l => h n l) m = dsum (fun l => dsum (fun q => h q l) n + h n l) m
    rw [dsum_swap m n, dsum_add]
section AU
variable (A : Nat → Nat → Int) (N : Nat) (f : Nat → Int)
/-- a real row against a column -/
theorem au_r {c x j : Nat} (hc : c ≤ 8) (hx : x < 8) (hj : j < 8) : dsum (fun q => tx (av_E A N f) c x (17 + q) * A q j) N = tx (av_E A N f) c x j := by
  have h : dsum (fun q => tx (av_E A N f) c x (17 + q) * A q j) N = dsum (fun q => dsum (fun i => (- tx (av_E A N f) c x (i + 8)) * (A q i * A q j)) 8) N := dsum_congr N (fun q _ => by
    show tx (av_E A N f) c x (17 + q) * A q j = dsum (fun i => (- tx (av_E A N f) c x (i + 8)) * (A q i * A q j)) 8
    rw [ax_r A N f hx c hc (17 + q), Int.mul_comm, ← dsum_mul]
    exact dsum_congr 8 (fun i hi => by
      show A q j * (- tx (av_E A N f) c x (i + 8) * av_E A N f i (17 + q)) = _
      rw [av_q A N f hi]; grind))
  rw [h, dsum_swap, ax_r A N f hx c hc j]
  exact dsum_congr 8 (fun i hi => by
    show dsum (fun q => - tx (av_E A N f) c x (i + 8) * (A q i * A q j)) N = _
    rw [dsum_mul, av_rr A N f hi hj]; rfl)
theorem au_v {c x j : Nat} (hc : c ≤ 8) (hx : x < 8) (hj : j < 8) : dsum (fun q => tx (av_E A N f) c (x + 8) (17 + q) * A q j) N = tx (av_E A N f) c (x + 8) j - td (av_E A N f) c * av_E A N f (x + 8) j := by
  have h : dsum (fun q => tx (av_E A N f) c (x + 8) (17 + q) * A q j) N = dsum (fun q => dsum (fun i => (- tx (av_E A N f) c (x + 8) (i + 8)) * (A q i * A q j)) 8) N := dsum_congr N (fun q _ => by
    show tx (av_E A N f) c (x + 8) (17 + q) * A q j = dsum (fun i => (- tx (av_E A N f) c (x + 8) (i + 8)) * (A q i * A q j)) 8
    have e0 : av_E A N f (x + 8) (17 + q) = 0 := av_v A N f (by omega) (by omega)
    rw [ax_rv A N f hx c hc (17 + q), e0, Int.mul_comm, Int.mul_add, ← dsum_mul]
    have e : dsum (fun i => A q j * ((- tx (av_E A N f) c (x + 8) (i + 8)) * av_E A N f i (17 + q))) 8 = dsum (fun i => (- tx (av_E A N f) c (x + 8) (i + 8)) * (A q i * A q j)) 8 := dsum_congr 8 (fun i hi => by
      show A q j * (- tx (av_E A N f) c (x + 8) (i + 8) * av_E A N f i (17 + q)) = _
      rw [av_q A N f hi]; grind)
    rw [e]; grind)
  rw [h, dsum_swap, ax_rv A N f hx c hc j]
  have e : dsum (fun l => dsum (fun q => - tx (av_E A N f) c (x + 8) (l + 8) * (A q l * A q j)) N) 8 = dsum (fun i => - tx (av_E A N f) c (x + 8) (i + 8) * av_E A N f i j) 8 := dsum_congr 8 (fun i hi => by
    show dsum (fun q => - tx (av_E A N f) c (x + 8) (i + 8) * (A q i * A q j)) N = _
    rw [dsum_mul, av_rr A N f hi hj]; rfl)
  rw [e]; omega
/-- a vector against a virtual row's vector -/
theorem au_u {c x : Nat} {u : Nat → Int} (hc : c ≤ 8) (hx : x < 8) : dsum (fun q => tx (av_E A N f) c (x + 8) (17 + q) * u q) N = dsum (fun l => (- tx (av_E A N f) c (x + 8) (l + 8)) * dsum (fun q => A q l * u q) N) 8 := by
  have h : dsum (fun q => tx (av_E A N f) c (x + 8) (17 + q) * u q) N = dsum (fun q => dsum (fun i => (- tx (av_E A N f) c (x + 8) (i + 8)) * (A q i * u q)) 8) N := dsum_congr N (fun q _ => by
    show tx (av_E A N f) c (x + 8) (17 + q) * u q = dsum (fun i => (- tx (av_E A N f) c (x + 8) (i + 8)) * (A q i * u q)) 8
    have e0 : av_E A N f (x + 8) (17 + q) = 0 := av_v A N f (by omega) (by omega)
    rw [ax_rv A N f hx c hc (17 + q), e0, Int.mul_comm, Int.mul_add, ← dsum_mul]
    have e : dsum (fun i => u q * ((- tx (av_E A N f) c (x + 8) (i + 8)) * av_E A N f i (17 + q))) 8 = dsum (fun i => (- tx (av_E A N f) c (x + 8) (i + 8)) * (A q i * u q)) 8 := dsum_congr 8 (fun i hi => by
      show u q * (- tx (av_E A N f) c (x + 8) (i + 8) * av_E A N f i (17 + q)) = _
      rw [av_q A N f hi]; grind)
    rw [e]; grind)
  rw [h, dsum_swap]
  exact dsum_congr 8 (fun i hi => by
    show dsum (fun q => - tx (av_E A N f) c (x + 8) (i + 8) * (A q i * u q)) N = _
    rw [dsum_mul])
/-- for each column: it is a pivot already, and its column is 0, or its virtual one is -/
theorem au_or {c x l : Nat} (hc : c ≤ 8) (hl : l < 8) : (∀ z, tx (av_E A N f) c z l = 0) ∨ (∀ z, ¬ z < 8 → tx (av_E A N f) c z (l + 8) = 0) := by
  by_cases h : l < c ∧ pw (av_E A N f) l = true
  · exact Or.inl (fun z => (tx_z _ c l h.1 h.2 z).2)
  · refine Or.inr (fun z hz => ?_)
    rw [ax_vc A N f c l hc hl (fun q => by cases e : pw (av_E A N f) l with | false => rfl | true => exact absurd ⟨q, e⟩ h) z, av_v A N f hz (by omega)]; omega
theorem au_vv {c x y : Nat} (hc : c ≤ 8) (hx : x < 8) (hy : y < 8) : dsum (fun q => tx (av_E A N f) c (x + 8) (17 + q) * tx (av_E A N f) c (y + 8) (17 + q)) N = - (td (av_E A N f) c * tx (av_E A N f) c (x + 8) (y + 8)) := by
  rw [au_u A N f hc hx, dsum_one (k := y) 8 hy (fun l hl ne => by
    show - tx (av_E A N f) c (x + 8) (l + 8) * dsum (fun q => A q l * tx (av_E A N f) c (y + 8) (17 + q)) N = 0
    have e : dsum (fun q => A q l * tx (av_E A N f) c (y + 8) (17 + q)) N = dsum (fun q => tx (av_E A N f) c (y + 8) (17 + q) * A q l) N := dsum_congr N (fun q _ => Int.mul_comm _ _)
    rw [e, au_v A N f hc hy hl]
    have e2 : av_E A N f (y + 8) l = 0 := by unfold av_E; rw [exE_vr hy hl, if_neg (fun z => ne z.symm)]
    rw [e2]
    rcases au_or A N f (x := x) hc hl with h | h
    · rw [h (y + 8)]; grind
    · rw [h (x + 8) (by omega)]; grind)]
  show - tx (av_E A N f) c (x + 8) (y + 8) * dsum (fun q => A q y * tx (av_E A N f) c (y + 8) (17 + q)) N = _
  have e : dsum (fun q => A q y * tx (av_E A N f) c (y + 8) (17 + q)) N = dsum (fun q => tx (av_E A N f) c (y + 8) (17 + q) * A q y) N := dsum_congr N (fun q _ => Int.mul_comm _ _)
  rw [e, au_v A N f hc hy hy]
  have e2 : av_E A N f (y + 8) y = -1 := by unfold av_E; rw [exE_vr hy hy, if_pos rfl]
  rw [e2]
  rcases au_or A N f (x := x) hc hy with h | h
  · rw [h (y + 8)]; grind
  · rw [h (x + 8) (by omega)]; grind
theorem au_vr {c x y : Nat} (hc : c ≤ 8) (hx : x < 8) (hy : y < 8) : dsum (fun q => tx (av_E A N f) c (x + 8) (17 + q) * tx (av_E A N f) c y (17 + q)) N = 0 := by
  rw [au_u A N f hc hx]
  refine dsum_zero 8 (fun l hl => ?_)
  have e : dsum (fun q => A q l * tx (av_E A N f) c y (17 + q)) N = dsum (fun q => tx (av_E A N f) c y (17 + q) * A q l) N := dsum_congr N (fun q _ => Int.mul_comm _ _)
  rw [e, au_r A N f hc hy hl]
  rcases au_or A N f (x := x) hc hl with h | h
  · rw [h y]; grind
  · rw [h (x + 8) (by omega)]; grind
theorem can2 {a x y : Int} (h : 0 < a) (e : a * x ≤ a * y) : x ≤ y := Int.le_of_mul_le_mul_left e h
theorem dsum_nn {f : Nat → Int} (n : Nat) : 0 ≤ dsum (fun q => f q * f q) n := (dsum_sq (f := f) n).1
/-- virtual rows: never above 0 on the diagonal -/
theorem au_n {c x : Nat} (hc : c ≤ 8) (hx : x < 8) : tx (av_E A N f) c (x + 8) (x + 8) ≤ 0 := by
  have h := dsum_nn (f := fun q => tx (av_E A N f) c (x + 8) (17 + q)) N
  rw [au_vv A N f hc hx hx] at h
  have hd := td_pos (av_E A N f) c
  refine Int.not_lt.mp (fun z => ?_)
  have := Int.mul_pos hd z
  omega
/-- the size of a row -/
def au_z (c x : Nat) : Int := if x < 8 then td (av_E A N f) c * av_G A N x x else - tx (av_E A N f) c x x
theorem au_zn {c x : Nat} (hc : c ≤ 8) (hx : x < 16) : 0 ≤ au_z A N f c x := by
  unfold au_z
  by_cases h : x < 8
  · rw [if_pos h]
    have hd := td_pos (av_E A N f) c
    exact Int.mul_nonneg (by omega) (dsum_nn (f := fun q => A q x) N)
  · rw [if_neg h]
    have := au_n A N f (c := c) (x := x - 8) hc (by omega)
    rw [show x - 8 + 8 = x by omega] at this
    omega
/-- Cauchy and Schwarz: real, or virtual of a pivot -/
theorem au_cs {c x y : Nat} (hc : c ≤ 8) (hx : x < 16) (hy : y < 16) (gx : ¬ x < 8 → x - 8 < c ∧ pw (av_E A N f) (x - 8) = true) (gy : ¬ y < 8 → y - 8 < c ∧ pw (av_E A N f) (y - 8) = true) : tx (av_E A N f) c x y * tx (av_E A N f) c x y ≤ au_z A N f c x * au_z A N f c y := by
  have hd := td_pos (av_E A N f) c
  have key : ∀ x y, x < 8 → y < 16 → ¬ y < 8 → (y - 8 < c ∧ pw (av_E A N f) (y - 8) = true) → tx (av_E A N f) c y x * tx (av_E A N f) c y x ≤ au_z A N f c y * au_z A N f c x := by
    intro x y a hy b gy
    obtain ⟨z, rfl⟩ : ∃ z, y = z + 8 := ⟨y - 8, by omega⟩
    have e : z + 8 - 8 = z := by omega
    rw [e] at gy
    have hz : z < 8 := by omega
    by_cases q : z = x
    · subst q
      rw [(tx_z _ c z gy.1 gy.2 (z + 8)).2]
      have := Int.mul_nonneg (au_zn A N f hc hy) (au_zn A N f (x := z) hc (by omega))
      omega
    · have h1 := cs_le (fun q => tx (av_E A N f) c (z + 8) (17 + q)) (fun q => A q x) N
      rw [au_v A N f hc hz a, au_vv A N f hc hz hz] at h1
      have e2 : av_E A N f (z + 8) x = 0 := by unfold av_E; rw [exE_vr hz a, if_neg q]
      rw [e2] at h1
      have e3 : dsum (fun q => A q x * A q x) N = av_G A N x x := rfl
      rw [e3] at h1
      unfold au_z
      rw [if_neg (by omega), if_pos a]
      grind
  by_cases a : x < 8
  · by_cases b : y < 8
    · have h1 := (ax_psd A N f (c := c) (i := x) hc a).2.2 y b
      have h2 := ax_had A N f (c := c) (i := x) hc a
      have h3 := ax_had A N f (c := c) (i := y) hc b
      have h4 := (ax_psd A N f (c := c) (i := x) hc a).1
      have h5 := (ax_psd A N f (c := c) (i := y) hc b).1
      unfold au_z
      rw [if_pos a, if_pos b]
      exact Int.le_trans h1 (Int.mul_le_mul h2 h3 h5 (by omega))
    · rw [ax_sym A N f hc hx hy, Int.mul_comm (au_z A N f c x)]
      exact key x y a hy b (gy b)
  · by_cases b : y < 8
    · exact key y x b hx a (gx a)
    · obtain ⟨x, rfl⟩ : ∃ z, x = z + 8 := ⟨x - 8, by omega⟩
      obtain ⟨y, rfl⟩ : ∃ z, y = z + 8 := ⟨y - 8, by omega⟩
      have h1 := cs_le (fun q => tx (av_E A N f) c (x + 8) (17 + q)) (fun q => tx (av_E A N f) c (y + 8) (17 + q)) N
      rw [au_vv A N f hc (by omega) (by omega), au_vv A N f hc (by omega) (by omega), au_vv A N f hc (by omega) (by omega)] at h1
      unfold au_z
      rw [if_neg a, if_neg b]
      refine can2 hd (can2 hd ?_)
      grind
/-- a sweep makes a virtual row at most so many times as large -/
theorem au_grow {c x : Nat} (hc : c < 8) (hx : x < 8) (ne : ¬ x = c) (w : pw (av_E A N f) c = true) : au_z A N f (c + 1) (x + 8) ≤ av_G A N c c * au_z A N f c (x + 8) := by
  have hd := td_pos (av_E A N f) c
  have h1 := cs_le (fun q => tx (av_E A N f) c (x + 8) (17 + q)) (fun q => td (av_E A N f) c * A q c - tx (av_E A N f) c c (17 + q)) N
  have e1 : dsum (fun q => tx (av_E A N f) c (x + 8) (17 + q) * (td (av_E A N f) c * A q c - tx (av_E A N f) c c (17 + q))) N = td (av_E A N f) c * tx (av_E A N f) c (x + 8) c := by
    have h4 := dsum_4 (f := fun q => tx (av_E A N f) c (x + 8) (17 + q) * (td (av_E A N f) c * A q c - tx (av_E A N f) c c (17 + q))) (f1 := fun q => tx (av_E A N f) c (x + 8) (17 + q) * A q c) (f2 := fun q => tx (av_E A N f) c (x + 8) (17 + q) * tx (av_E A N f) c c (17 + q)) (f3 := fun _ => 0) (f4 := fun _ => 0) (a := td (av_E A N f) c) (b := -1) (c := 0) (e := 0) N (fun i _ => by grind)
    have e2 : av_E A N f (x + 8) c = 0 := by unfold av_E; rw [exE_vr hx hc, if_neg ne]
    rw [h4, au_v A N f (by omega) hx hc, au_vr A N f (by omega) hx hc, e2]; grind
  have e3 : dsum (fun q => (td (av_E A N f) c * A q c - tx (av_E A N f) c c (17 + q)) * (td (av_E A N f) c * A q c - tx (av_E A N f) c c (17 + q))) N = td (av_E A N f) c * (td (av_E A N f) c * av_G A N c c - tx (av_E A N f) c c c) := by
    have h4 := dsum_4 (f := fun q => (td (av_E A N f) c * A q c - tx (av_E A N f) c c (17 + q)) * (td (av_E A N f) c * A q c - tx (av_E A N f) c c (17 + q))) (f1 := fun q => A q c * A q c) (f2 := fun q => tx (av_E A N f) c c (17 + q) * A q c) (f3 := fun q => tx (av_E A N f) c c (17 + q) * tx (av_E A N f) c c (17 + q)) (f4 := fun _ => 0) (a := td (av_E A N f) c * td (av_E A N f) c) (b := -(2 * td (av_E A N f) c)) (c := 1) (e := 0) N (fun i _ => by grind)
    have e4 : dsum (fun q => A q c * A q c) N = av_G A N c c := rfl
    rw [h4, au_r A N f (by omega) hc hc, ax_gram A N f (by omega) hc hc, e4]; grind
  rw [e1, e3, au_vv A N f (by omega) hx hx] at h1
  have st := tx_p (av_E A N f) w (x + 8) (x + 8)
  rw [ax_sym A N f (c := c) (i := c) (j := x + 8) (by omega) (by omega) (by omega)] at st
  unfold au_z
  rw [if_neg (by omega), if_neg (by omega)]
  refine can2 hd ?_
  have h2 : tx (av_E A N f) c (x + 8) c * tx (av_E A N f) c (x + 8) c ≤ (- tx (av_E A N f) c (x + 8) (x + 8)) * (td (av_E A N f) c * av_G A N c c - tx (av_E A N f) c c c) := by
    refine can2 hd (can2 hd ?_)
    grind
  generalize tx (av_E A N f) (c + 1) (x + 8) (x + 8) = v' at *
  generalize tx (av_E A N f) c (x + 8) (x + 8) = v at *
  generalize tx (av_E A N f) c (x + 8) c = u at *
  generalize tx (av_E A N f) c c c = p at *
  generalize td (av_E A N f) c = d at *
  generalize av_G A N c c = gg at *
  grind
theorem au_new {c : Nat} (hc : c < 8) (w : pw (av_E A N f) c = true) : au_z A N f (c + 1) (c + 8) = td (av_E A N f) c := by
  have hd := td_pos (av_E A N f) c
  have st := tx_p (av_E A N f) w (c + 8) (c + 8)
  have hv := ax_v A N f c c (by omega) hc (fun z => absurd z (by omega))
  have hvc := ax_vc A N f c c (by omega) hc (fun z => absurd z (by omega))
  have e1 : av_E A N f (c + 8) c = -1 := by unfold av_E; rw [exE_vr hc hc, if_pos rfl]
  have e2 : av_E A N f c (c + 8) = -1 := by unfold av_E; rw [exE_vc hc hc, if_pos rfl]
  have e3 : av_E A N f (c + 8) (c + 8) = 0 := av_v A N f (by omega) (by omega)
  rw [hv (c + 8), hv c, hvc c, e1, e2, e3] at st
  unfold au_z
  rw [if_neg (by omega)]
  refine can (show ¬ td (av_E A N f) c = 0 by omega) ?_
  grind
end AU
