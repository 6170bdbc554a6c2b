/-! ===== the class's table in longs; the column of a form ===== -/
theorem sqn (a : Int) : 0 ≤ a * a := by
  by_cases z : 0 ≤ a
  · exact Int.mul_nonneg z z
  · have := Int.mul_nonneg (show 0 ≤ -a by omega) (show 0 ≤ -a by omega)
    rw [Int.neg_mul_neg] at this; exact this
section AG
variable (A : Nat → Nat → Int) (N : Nat) (f : Nat → Int) {B S M : Int}
theorem ag_td (hB : av_B A N B S M) {c : Nat} (hc : c ≤ 7) : td (av_E A N f) c ≤ B ^ 6 := by
  have b1 := hB.2.2.2.1
  have e6 : B ^ 6 = B ^ 5 * B := Int.pow_succ B 5
  have p5 := ipow_pos b1 5
  by_cases h : c ≤ 6
  · exact Int.le_trans (ab_td5 A N f hB h) (ipow_mono b1 (by omega))
  · have e : c = 7 := by omega
    subst e
    rw [e6]
    exact Int.le_trans (ab_td7 A N f hB) (ml_le (by omega) (by have := hB.2.2.2.2.1; omega) (Int.le_refl _) hB.2.2.2.2.2.1)
theorem ag_zv (hB : av_B A N B S M) {c i : Nat} (hc : c ≤ 7) (hi : i < c) (hp : pw (av_E A N f) i = true) : au_z A N f c (i + 8) ≤ B ^ 5 := by
  have b1 := hB.2.2.2.1
  have e5 : B ^ 5 = B ^ 4 * B := Int.pow_succ B 4
  have p4 := ipow_pos b1 4
  by_cases h : c ≤ 6
  · exact Int.le_trans (ab_v4 A N f hB h hi hp) (ipow_mono b1 (by omega))
  · have e : c = 7 := by omega
    subst e
    by_cases h6 : i = 6
    · subst h6; exact ab_v76 A N f hB hp
    · rw [e5]
      exact Int.le_trans (ab_v7 A N f hB (by omega) hp) (ml_le (by omega) (by have := hB.2.2.2.2.1; omega) (Int.le_refl _) hB.2.2.2.2.2.1)
theorem ag_zr (hB : av_B A N B S M) {c x : Nat} (hc : c ≤ 7) (hx : x < 7) : au_z A N f c x ≤ B ^ 7 := by
  have ez : au_z A N f c x = td (av_E A N f) c * av_G A N x x := if_pos (by omega)
  have gz : av_G A N x x ≤ B := by
    by_cases z6 : x = 6
    · subst z6; exact Int.le_trans hB.2.1 hB.2.2.2.2.2.1
    · exact hB.1 x (by omega)
  have hd := td_pos (av_E A N f) c
  rw [ez, show B ^ 7 = B ^ 6 * B from Int.pow_succ B 6]
  exact ml_le (by omega) (av_nn A N x) (ag_td A N f hB hc) gz
/-- a table's row, model's or class's, below 7 -/
def ag_ok (c x : Nat) : Prop := x < 7 ∨ (8 ≤ x ∧ x < 8 + c ∧ pw (av_E A N f) (x - 8) = true)
theorem ag_w (hB : av_B A N B S M) {c x i : Nat} (hc : c ≤ 7) (hx : ag_ok A N f c x) (hi : i < 8) : -(B ^ 6) ≤ tx (av_E A N f) c x (i + 8) ∧ tx (av_E A N f) c x (i + 8) ≤ B ^ 6 := by
  have b1 := hB.2.2.2.1
  have p5 := ipow_pos b1 5
  have p6 := ipow_pos b1 6
  have p7 := ipow_pos b1 7
  by_cases hp : i < c ∧ pw (av_E A N f) i = true
  · have cs := au_cs A N f (c := c) (x := x) (y := i + 8) (by omega) (by rcases hx with a | a <;> omega) (by omega) (fun h => by rcases hx with a | ⟨_, a, b⟩ <;> first | exact absurd (Nat.lt_succ_of_lt a) h | exact ⟨by omega, b⟩) (fun _ => by rw [show i + 8 - 8 = i by omega]; exact hp)
    have z1 := ag_zv A N f hB hc hp.1 hp.2
    have zx : au_z A N f c x ≤ B ^ 7 := by
      rcases hx with a | ⟨a, a2, a3⟩
      · exact ag_zr A N f hB hc a
      · have := ag_zv A N f hB (i := x - 8) hc (by omega) a3
        rw [show x - 8 + 8 = x by omega] at this
        exact Int.le_trans this (ipow_mono b1 (by omega))
    have n1 := au_zn A N f (c := c) (x := i + 8) (by omega) (by omega)
    have n2 := au_zn A N f (c := c) (x := x) (by omega) (by rcases hx with a | a <;> omega)
    have q := ml_le n2 n1 zx z1
    refine sq_le (by omega) ?_
    have e : B ^ 7 * B ^ 5 = B ^ 6 * B ^ 6 := by rw [← Int.pow_add, ← Int.pow_add]
    omega
  · have hv := ax_vc A N f c i (by omega) hi (fun q => by cases e : pw (av_E A N f) i with | false => rfl | true => exact absurd ⟨q, e⟩ hp) x
    have hd := td_pos (av_E A N f) c
    have ht := ag_td A N f hB hc
    have he : av_E A N f x (i + 8) = -1 ∨ av_E A N f x (i + 8) = 0 := by
      by_cases h : x < 8
      · unfold av_E
        rw [exE_vc hi h]
        by_cases e : i = x
        · exact Or.inl (if_pos e)
        · exact Or.inr (if_neg e)
      · exact Or.inr (av_v A N f h (by omega))
    rw [hv]
    rcases he with e | e <;> rw [e] <;> omega
theorem ag_sum {h : Nat → Int} {Φ K : Int} {u : Nat → Int} (hΦ : 0 ≤ Φ) (hK : 0 ≤ K) (hf : ∀ i, i < 8 → -Φ ≤ h i ∧ h i ≤ Φ) (hu : ∀ i, i < 8 → -K ≤ u i ∧ u i ≤ K) : -(8 * (Φ * K)) ≤ dsum (fun i => (- h i) * u i) 8 ∧ dsum (fun i => (- h i) * u i) 8 ≤ 8 * (Φ * K) := by
  have q := dsum_bd (h := fun i => (- h i) * u i) (K := Φ * K) 8 (fun i hi => by
    have a := hf i hi
    have b := hu i hi
    refine sq_le (Int.mul_nonneg hΦ hK) ?_
    have s1 : (- h i) * (- h i) ≤ Φ * Φ := by
      by_cases z : 0 ≤ h i
      · rw [Int.neg_mul_neg]; exact ml_le z z (by omega) (by omega)
      · exact ml_le (by omega) (by omega) (by omega) (by omega)
    have s2 : u i * u i ≤ K * K := by
      by_cases z : 0 ≤ u i
      · exact ml_le z z (by omega) (by omega)
      · have := ml_le (show 0 ≤ - u i by omega) (show 0 ≤ - u i by omega) (show - u i ≤ K by omega) (show - u i ≤ K by omega)
        rw [Int.neg_mul_neg] at this; exact this
    have n1 : 0 ≤ (- h i) * (- h i) := sqn _
    have n2 : 0 ≤ u i * u i := sqn _
    have s3 := ml_le n1 n2 s1 s2
    have e1 : - h i * u i * (- h i * u i) = (- h i) * (- h i) * (u i * u i) := by grind
    have e2 : Φ * Φ * (K * K) = Φ * K * (Φ * K) := by grind
    omega)
  exact q
theorem ag_f (hB : av_B A N B S M) {Φ : Int} (hΦ : 0 ≤ Φ) (hf : ∀ i, i < 8 → -Φ ≤ f i ∧ f i ≤ Φ) {c x : Nat} (hc : c ≤ 7) (hx : ag_ok A N f c x) : -(8 * (Φ * B ^ 6)) ≤ tx (av_E A N f) c x 16 ∧ tx (av_E A N f) c x 16 ≤ 8 * (Φ * B ^ 6) := by
  have p6 := ipow_pos hB.2.2.2.1 6
  rw [ax_f A N f (by omega)]
  exact ag_sum hΦ (by omega) hf (fun i hi => ag_w A N f hB hc hx hi)
theorem ag_fit (hB : av_B A N B S M) {Φ : Int} (hΦ : 0 ≤ Φ) (hf : ∀ i, i < 8 → -Φ ≤ f i ∧ f i ≤ Φ) (h1 : B ^ 5 * (8 * (Φ * B ^ 6)) < 2 ^ 63) {c x : Nat} (hc : c < 7) (hx : ag_ok A N f (c + 1) x) : -(2 ^ 63 : Int) < td (av_E A N f) c * tx (av_E A N f) (c + 1) x 16 ∧ td (av_E A N f) c * tx (av_E A N f) (c + 1) x 16 < 2 ^ 63 := by
  have p6 := ipow_pos hB.2.2.2.1 6
  have q := ag_f A N f hB hΦ hf (c := c + 1) (by omega) hx
  have hd := td_pos (av_E A N f) c
  have t5 := ab_td5 A N f hB (c := c) (by omega)
  have n := Int.mul_nonneg hΦ (show 0 ≤ B ^ 6 by omega)
  generalize tx (av_E A N f) (c + 1) x 16 = t at *
  generalize td (av_E A N f) c = d at *
  generalize 8 * (Φ * B ^ 6) = K at *
  have q1 := ml_le (show 0 ≤ d by omega) (show 0 ≤ K by omega) t5 (Int.le_refl K)
  have q2 := Int.mul_le_mul_of_nonneg_left q.1 (show 0 ≤ d by omega)
  have q3 := Int.mul_le_mul_of_nonneg_left q.2 (show 0 ≤ d by omega)
  rw [Int.mul_neg] at q2
  omega
/-- the class's numbers all fit -/
theorem ag_cz (hB : av_B A N B S M) (h1 : B ^ 10 * S < 2 ^ 63) (h2 : B ^ 10 * S * M < 2 ^ 63) : cz_fit (av_G A N) := by
  intro c hc hp i j hi hj ni nj
  obtain ⟨r1, r2, r3⟩ := cz_rel (G := av_G A N) (F := av_F A (fun _ => 0)) c (by omega)
  have hcc : ph (av_E A N (fun _ => 0)) c c = c := if_neg (by omega)
  have w : pw (av_E A N (fun _ => 0)) c = true := by
    rw [r1 c c (by omega) (by omega), hcc] at hp
    exact decide_eq_true hp
  have ok : ∀ z, z < 8 → af_ok A N (fun _ => 0) c (ph (av_E A N (fun _ => 0)) c z) := by
    intro z hz
    unfold ph
    by_cases q : z < c ∧ pw (av_E A N (fun _ => 0)) z = true
    · rw [if_pos q]; exact Or.inr ⟨by omega, by omega, by rw [show z + 8 - 8 = z by omega]; exact q.2⟩
    · rw [if_neg q]; exact Or.inl hz
  have st := tx_p (av_E A N (fun _ => 0)) w (ph (av_E A N (fun _ => 0)) c i) (ph (av_E A N (fun _ => 0)) c j)
  have ft := af_fit A N (fun _ => 0) hB h1 h2 hc w (ok i hi) (ok j hj)
  have e : (cz_go (av_G A N) c).1 c c * (cz_go (av_G A N) c).1 i j - (cz_go (av_G A N) c).1 i c * (cz_go (av_G A N) c).1 c j = td (av_E A N (fun _ => 0)) c * tx (av_E A N (fun _ => 0)) (c + 1) (ph (av_E A N (fun _ => 0)) c i) (ph (av_E A N (fun _ => 0)) c j) := by
    rw [r1 c c (by omega) (by omega), r1 i j hi hj, r1 i c hi (by omega), r1 c j (by omega) hj, hcc]
    exact st
  rw [e, r2]
  exact ⟨⟨_, rfl⟩, ft⟩
variable {Y : cl_T}
def ag_Y (Y : cl_T) : Prop := ∀ i j, (Y i j).toInt = av_G A N i j
theorem ag_go (hB : av_B A N B S M) (h1 : B ^ 10 * S < 2 ^ 63) (h2 : B ^ 10 * S * M < 2 ^ 63) (hY : ag_Y A N Y) : ∀ c, c ≤ 7 → (∀ i j, i < 8 → j < 8 → ((cl_go Y c).1 i j).toInt = tx (av_E A N f) c (ph (av_E A N f) c i) (ph (av_E A N f) c j)) ∧ (cl_go Y c).2.1.toInt = td (av_E A N f) c ∧ (cl_go Y c).2.2 = (pv (av_E A N f) c).1 := by
  intro c hc
  have e : (fun i j => (Y i j).toInt) = av_G A N := funext (fun i => funext (fun j => hY i j))
  have h := cl_go_int (Y := Y) (by rw [e]; exact ag_cz A N hB h1 h2) c hc
  rw [e] at h
  obtain ⟨r1, r2, r3⟩ := cz_rel (G := av_G A N) (F := av_F A f) c hc
  exact ⟨fun i j hi hj => by rw [h.1 i j hi hj, r1 i j hi hj]; rfl, by rw [h.2.1, r2]; rfl, by rw [h.2.2, r3]⟩
theorem ag_s (hB : av_B A N B S M) (h1 : B ^ 10 * S < 2 ^ 63) (h2 : B ^ 10 * S * M < 2 ^ 63) (hY : ag_Y A N Y) {c : Nat} (hc : c < 7) : cl_s Y c = pw (av_E A N f) c := by
  have h := (ag_go A N f hB h1 h2 hY c (by omega)).1 c c (by omega) (by omega)
  have hcc : ph (av_E A N f) c c = c := if_neg (by omega)
  rw [hcc] at h
  have key : (0 < (cl_go Y c).1 c c) ↔ 0 < tx (av_E A N f) c c c := by
    rw [Int64.lt_iff_toInt_lt, h]; exact Iff.rfl
  show decide (0 < (cl_go Y c).1 c c) = decide (0 < tx (av_E A N f) c c c)
  by_cases q : 0 < tx (av_E A N f) c c c
  · rw [decide_eq_true q, decide_eq_true (key.mpr q)]
  · rw [decide_eq_false q, decide_eq_false (fun z => q (key.mp z))]
end AG
