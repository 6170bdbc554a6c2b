/-! ===== bounds ===== -/
theorem sq_lt {a b : Int} (hb : 0 < b) (h : a * a < b * b) : -b < a ∧ a < b := by
  constructor
  · refine Int.not_le.mp (fun z => ?_)
    have := Int.mul_le_mul (show b ≤ -a by omega) (show b ≤ -a by omega) (by omega) (by omega)
    rw [Int.neg_mul_neg] at this; omega
  · refine Int.not_le.mp (fun z => ?_)
    have := Int.mul_le_mul z z (by omega) (by omega)
    omega
theorem sq_le {a b : Int} (hb : 0 ≤ b) (h : a * a ≤ b * b) : -b ≤ a ∧ a ≤ b := by
  have := sq_lt (a := a) (b := b + 1) (by omega) (by
    have e : (b + 1) * (b + 1) = b * b + 2 * b + 1 := by grind
    omega)
  omega
theorem ipow_pos {B : Int} (h : 1 ≤ B) : ∀ n : Nat, 1 ≤ B ^ n
  | 0 => by rw [Int.pow_zero]; omega
  | n + 1 => by
    rw [Int.pow_succ]
    have := Int.mul_le_mul (ipow_pos h n) h (by omega) (by have := ipow_pos h n; omega)
    omega
theorem ipow_mono {B : Int} (h : 1 ≤ B) {m n : Nat} (hmn : m ≤ n) : B ^ m ≤ B ^ n := by
  obtain ⟨d, rfl⟩ : ∃ d, n = m + d := ⟨n - m, by omega⟩
  have h1 := ipow_pos h m
  have h2 := ipow_pos h d
  rw [Int.pow_add]
  have := Int.mul_le_mul (Int.le_refl (B ^ m)) h2 (by omega) (by omega)
  omega
theorem dsum_bd {h : Nat → Int} {K : Int} : ∀ n : Nat, (∀ i, i < n → -K ≤ h i ∧ h i ≤ K) → -((n : Int) * K) ≤ dsum h n ∧ dsum h n ≤ (n : Int) * K
  | 0, _ => by
    have e : dsum h 0 = 0 := rfl
    rw [e]; simp
  | n + 1, hb => by
    have ih := dsum_bd n (fun i hi => hb i (by omega))
    have h1 := hb n (by omega)
    have e : dsum h (n + 1) = dsum h n + h n := rfl
    rw [e, show ((n + 1 : Nat) : Int) * K = (n : Int) * K + K by rw [Int.natCast_add, Int.add_mul]; simp]
    omega
theorem ml_le {a b x y : Int} (ha : 0 ≤ a) (hx : 0 ≤ x) (h1 : a ≤ b) (h2 : x ≤ y) : a * x ≤ b * y := Int.mul_le_mul h1 h2 hx (by omega)
theorem pv_le (E : Nat → Nat → Int) (a : Nat) : ∀ b, (pv E (a + b)).1 ≤ (pv E a).1 + b
  | 0 => Nat.le_refl _
  | b + 1 => by
    have ih := pv_le E a b
    show (pv E (a + b + 1)).1 ≤ _
    cases h : pw E (a + b) with
    | true => rw [pv_p E h]; show (pv E (a + b)).1 + 1 ≤ _; omega
    | false => rw [pv_n E h]; omega
section AB
variable (A : Nat → Nat → Int) (N : Nat) (f : Nat → Int) {B S M : Int}
def av_B (B S M : Int) : Prop := (∀ c, c < 6 → av_G A N c c ≤ B) ∧ av_G A N 6 6 ≤ S ∧ av_G A N 7 7 ≤ M ∧ 1 ≤ B ∧ 1 ≤ S ∧ S ≤ B ∧ 0 ≤ M ∧ ∀ q, q < N → dsum (fun i => A q i) 6 = 0
theorem av_nn (i : Nat) : 0 ≤ av_G A N i i := dsum_nn (f := fun q => A q i) N
/-- the rowers' columns add up to 0: at most five of them are pivots -/
theorem ab_five (hB : av_B A N B S M) : (pv (av_E A N f) 6).1 ≤ 5 := by
  have hP := (pv_ok (av_E A N f) 5).1
  cases w5 : pw (av_E A N f) 5 with
  | false => rw [pv_n _ w5]; exact hP
  | true =>
    rw [pv_p _ w5]
    show (pv (av_E A N f) 5).1 + 1 ≤ 5
    by_cases hall : ∀ i, i < 5 → pw (av_E A N f) i = true
    · exfalso
      have h := tx_lr (av_E A N f) (α := fun _ => -1) (m := 5) (C := fun i => i) (z := 5) (x := 5) (fun x => x < 8) (fun c hc => hc) (fun x hx => by
        rw [av_rr A N f (by omega) hx]
        have e : dsum (fun i => -1 * av_E A N f i x) 5 = dsum (fun i => -1 * av_G A N i x) 5 := dsum_congr 5 (fun i hi => by rw [av_rr A N f (by omega) hx])
        have e2 : dsum (fun i => av_G A N i x) 6 = 0 := by
          show dsum (fun i => dsum (fun q => A q i * A q x) N) 6 = 0
          rw [← dsum_swap]
          refine dsum_zero N (fun q hq => ?_)
          show dsum (fun i => A q i * A q x) 6 = 0
          have e4 : dsum (fun i => A q i * A q x) 6 = dsum (fun i => A q x * A q i) 6 := dsum_congr 6 (fun i _ => Int.mul_comm _ _)
          rw [e4, dsum_mul, hB.2.2.2.2.2.2.2 q hq]; omega
        rw [e, dsum_mul]
        have e3 : dsum (fun i => av_G A N i x) 6 = dsum (fun i => av_G A N i x) 5 + av_G A N 5 x := rfl
        omega) (by omega) 5 (by omega)
      rw [dsum_zero 5 (fun i hi => by
        show -1 * tx (av_E A N f) 5 i 5 = 0
        rw [(tx_z _ 5 i hi (hall i hi) 5).1]; omega)] at h
      have := tx_pos _ w5
      omega
    · have : ∃ i, i < 5 ∧ pw (av_E A N f) i = false := by
        refine Classical.byContradiction (fun z => hall (fun i hi => ?_))
        cases e : pw (av_E A N f) i with
        | true => rfl
        | false => exact absurd ⟨i, hi, e⟩ z
      obtain ⟨i, hi, e⟩ := this
      have h1 := pv_le (av_E A N f) (i + 1) (5 - (i + 1))
      rw [show i + 1 + (5 - (i + 1)) = 5 by omega, pv_n _ e] at h1
      have h2 := (pv_ok (av_E A N f) i).1
      omega
theorem ab_k (hB : av_B A N B S M) {c : Nat} (hc : c ≤ 6) : (pv (av_E A N f) c).1 ≤ 5 := by
  have h := ab_five A N f hB
  have mono : ∀ d c, (pv (av_E A N f) c).1 ≤ (pv (av_E A N f) (c + d)).1 := by
    intro d
    induction d with
    | zero => intro c; exact Nat.le_refl _
    | succ d ih =>
      intro c
      have h1 := ih c
      show _ ≤ (pv (av_E A N f) (c + d + 1)).1
      cases w : pw (av_E A N f) (c + d) with
      | true => rw [pv_p _ w]; show _ ≤ (pv (av_E A N f) (c + d)).1 + 1; omega
      | false => rw [pv_n _ w]; exact h1
  have h2 := mono (6 - c) c
  rw [show c + (6 - c) = 6 by omega] at h2
  omega
theorem ab_td (hB : av_B A N B S M) : ∀ c, c ≤ 6 → td (av_E A N f) c ≤ B ^ (pv (av_E A N f) c).1
  | 0, _ => by rw [td_0]; show (1 : Int) ≤ B ^ 0; rw [Int.pow_zero]; omega
  | c + 1, hc => by
    have ih := ab_td hB c (by omega)
    cases w : pw (av_E A N f) c with
    | true =>
      rw [td_p _ w, pv_p _ w]
      have h1 := ax_had A N f (c := c) (i := c) (by omega) (by omega)
      show _ ≤ B ^ ((pv (av_E A N f) c).1 + 1)
      rw [Int.pow_succ]
      have hd := td_pos (av_E A N f) c
      exact Int.le_trans h1 (ml_le (by omega) (av_nn A N c) ih (hB.1 c (by omega)))
    | false => rw [td_n _ w, pv_n _ w]; exact ih
theorem ab_td5 (hB : av_B A N B S M) {c : Nat} (hc : c ≤ 6) : td (av_E A N f) c ≤ B ^ 5 := Int.le_trans (ab_td A N f hB c hc) (ipow_mono hB.2.2.2.1 (ab_k A N f hB hc))
theorem ab_td4 (hB : av_B A N B S M) {c : Nat} (hc : c < 6) (w : pw (av_E A N f) c = true) : td (av_E A N f) c ≤ B ^ 4 := by
  have h := ab_k A N f hB (c := c + 1) (by omega)
  rw [pv_p _ w] at h
  have h' : (pv (av_E A N f) c).1 + 1 ≤ 5 := h
  exact Int.le_trans (ab_td A N f hB c (by omega)) (ipow_mono hB.2.2.2.1 (by omega))
theorem ab_td7 (hB : av_B A N B S M) : td (av_E A N f) 7 ≤ B ^ 5 * S := by
  have h5 := ab_td5 A N f hB (c := 6) (by omega)
  have hd := td_pos (av_E A N f) 6
  cases w : pw (av_E A N f) 6 with
  | true =>
    rw [td_p _ w]
    exact Int.le_trans (ax_had A N f (c := 6) (i := 6) (by omega) (by omega)) (ml_le (by omega) (av_nn A N 6) h5 hB.2.1)
  | false =>
    rw [td_n _ w]
    have := ml_le (show 0 ≤ td (av_E A N f) 6 by omega) (show (0 : Int) ≤ 1 by omega) h5 hB.2.2.2.2.1
    omega
theorem ab_v (hB : av_B A N B S M) : ∀ c, c ≤ 6 → ∀ i, i < c → pw (av_E A N f) i = true → au_z A N f c (i + 8) * B ≤ B ^ (pv (av_E A N f) c).1
  | c + 1, hc, i, hi, hp => by
    have hb1 := hB.2.2.2.1
    cases w : pw (av_E A N f) c with
    | true =>
      rw [pv_p _ w]
      show _ ≤ B ^ ((pv (av_E A N f) c).1 + 1)
      rw [Int.pow_succ]
      by_cases q : i = c
      · subst q
        rw [au_new A N f (by omega) w]
        have hd := td_pos (av_E A N f) i
        exact ml_le (by omega) (by omega) (ab_td A N f hB i (by omega)) (Int.le_refl B)
      · have ih := ab_v hB c (by omega) i (by omega) hp
        have h1 := au_grow A N f (c := c) (x := i) (by omega) (by omega) q w
        have h2 := au_zn A N f (c := c) (x := i + 8) (by omega) (by omega)
        have h3 := au_zn A N f (c := c + 1) (x := i + 8) (by omega) (by omega)
        have h4 := ml_le (av_nn A N c) h2 (hB.1 c (by omega)) (Int.le_refl _)
        have h5 := ml_le h3 (show 0 ≤ B by omega) (Int.le_trans h1 h4) (Int.le_refl B)
        have h6 := ml_le (show 0 ≤ B by omega) (Int.mul_nonneg h2 (show 0 ≤ B by omega)) (Int.le_refl B) ih
        have e1 : B * au_z A N f c (i + 8) * B = B * (au_z A N f c (i + 8) * B) := by grind
        have e2 : B ^ (pv (av_E A N f) c).1 * B = B * B ^ (pv (av_E A N f) c).1 := Int.mul_comm _ _
        omega
    | false =>
      rw [pv_n _ w]
      have q : ¬ i = c := fun z => by subst z; rw [w] at hp; exact absurd hp (by decide)
      have ih := ab_v hB c (by omega) i (by omega) hp
      have e : au_z A N f (c + 1) (i + 8) = au_z A N f c (i + 8) := by unfold au_z; rw [if_neg (by omega), if_neg (by omega), tx_n _ w]
      rw [e]; exact ih
theorem ab_v4 (hB : av_B A N B S M) {c i : Nat} (hc : c ≤ 6) (hi : i < c) (hp : pw (av_E A N f) i = true) : au_z A N f c (i + 8) ≤ B ^ 4 := by
  have h1 := ab_v A N f hB c hc i hi hp
  have h2 := ipow_mono hB.2.2.2.1 (ab_k A N f hB hc)
  have hb1 := hB.2.2.2.1
  refine can2 (show 0 < B by omega) ?_
  have e : B * B ^ 4 = B ^ 5 := by rw [Int.mul_comm]; exact (Int.pow_succ B 4).symm
  have e2 := Int.mul_comm B (au_z A N f c (i + 8))
  omega
theorem ab_v7 (hB : av_B A N B S M) {i : Nat} (hi : i < 6) (hp : pw (av_E A N f) i = true) : au_z A N f 7 (i + 8) ≤ B ^ 4 * S := by
  have h1 := ab_v4 A N f hB (c := 6) (by omega) hi hp
  have h2 := au_zn A N f (c := 6) (x := i + 8) (by omega) (by omega)
  have hs := hB.2.2.2.2.1
  cases w : pw (av_E A N f) 6 with
  | true =>
    have h3 : au_z A N f 7 (i + 8) ≤ av_G A N 6 6 * au_z A N f 6 (i + 8) := au_grow A N f (c := 6) (x := i) (by omega) (by omega) (by omega) w
    have h4 := ml_le (av_nn A N 6) h2 hB.2.1 h1
    have e := Int.mul_comm S (B ^ 4)
    omega
  | false =>
    have e : au_z A N f 7 (i + 8) = au_z A N f 6 (i + 8) := by unfold au_z; rw [if_neg (by omega), if_neg (by omega), tx_n _ w]
    rw [e]
    have := ml_le h2 (show (0 : Int) ≤ 1 by omega) h1 hs
    omega
theorem ab_v76 (hB : av_B A N B S M) (hp : pw (av_E A N f) 6 = true) : au_z A N f 7 14 ≤ B ^ 5 := by
  have h := au_new A N f (c := 6) (by omega) hp
  rw [show (14 : Nat) = 6 + 8 by rfl, h]
  exact ab_td5 A N f hB (by omega)
end AB
