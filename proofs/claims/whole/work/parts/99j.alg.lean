/-! ===== the model's answers in integers ===== -/
theorem dsum_kp {h : Nat → Int} {n : Nat} (hn : n ≤ 6) (hz : ∀ i, n ≤ i → i < 6 → h i = 0) : dsum (fun k => h (kp n k)) (n + 1) = dsum h 7 := by
  have key : ∀ d, n + d ≤ 6 → dsum h (n + d) = dsum h n := by
    intro d
    induction d with
    | zero => intro _; rfl
    | succ d ih =>
      intro hd
      show dsum h (n + d) + h (n + d) = _
      rw [ih (by omega), hz (n + d) (by omega) (by omega)]; omega
  show dsum (fun k => h (kp n k)) n + h (kp n n) = dsum h 6 + h 6
  have e := key (6 - n) (by omega)
  rw [show n + (6 - n) = 6 by omega] at e
  rw [e, dsum_congr n (g := h) (fun i hi => by show h (kp n i) = h i; unfold kp; rw [if_neg (by omega)])]
  have e2 : kp n n = 6 := if_pos rfl
  rw [e2]
section MP
variable (A : Nat → Nat → Int) (N : Nat) (f : Nat → Int) {B S M : Int} (n : Nat)
def mp_H (p fl : Nat → Int64) : Prop := n ≤ 6 ∧ (∀ q, q < N → ∀ i, n ≤ i → i < 6 → A q i = 0) ∧ (∀ i, n ≤ i → i < 6 → f i = 0) ∧ f 7 = 0 ∧ (∀ i j, i < n + 1 → j < n + 1 → (p (7 * i + j)).toInt = av_G A N (kp n i) (kp n j)) ∧ ∀ i, i < n + 1 → (fl i).toInt = f (kp n i)
variable {p fl : Nat → Int64}
theorem mp_z (hH : mp_H A N f n p fl) {i : Nat} (h1 : n ≤ i) (h2 : i < 6) : av_G A N i i = 0 := by
  unfold av_G
  exact dsum_zero N (fun q hq => by rw [hH.2.1 q hq i h1 h2]; omega)
theorem mp_pw (hH : mp_H A N f n p fl) {i : Nat} (h1 : n ≤ i) (h2 : i < 6) : pw (av_E A N f) i = false := by
  refine decide_eq_false (fun h => ?_)
  have a := ax_had A N f (c := i) (i := i) (by omega) (by omega)
  rw [mp_z A N f n hH h1 h2, Int.mul_zero] at a
  have h' : 0 < tx (av_E A N f) i i i := h
  omega
theorem mp_pv (hH : mp_H A N f n p fl) : ∀ d, n + d ≤ 6 → pv (av_E A N f) (n + d) = pv (av_E A N f) n
  | 0, _ => rfl
  | d + 1, h => by
    have e : pv (av_E A N f) (n + d + 1) = pv (av_E A N f) (n + d) := pv_n _ (mp_pw A N f n hH (by omega) (by omega))
    show pv (av_E A N f) (n + d + 1) = _
    rw [e, mp_pv hH d (by omega)]
theorem mp_all (hB : av_B A N B S M) (h1 : B ^ 10 * S < 2 ^ 63) (h2 : B ^ 10 * S * M < 2 ^ 63) {Φ : Int} (hΦ : 0 ≤ Φ) (hf : ∀ i, i < 8 → -Φ ≤ f i ∧ f i ≤ Φ) (h3 : B ^ 5 * (8 * (Φ * B ^ 6)) < 2 ^ 63) (hH : mp_H A N f n p fl) : ∃ τ, mo_inv A N f n (n + 1) 7 (md_E (n + 1) p fl) τ := by
  have hn := hH.1
  have st : ∀ c, c ≤ n → ∃ τ, mo_inv A N f n c c (md_cols (n + 1) c (md_tab (n + 1) p fl (fun _ => 0), 0, 1, fun _ => 0)) τ := by
    intro c
    induction c with
    | zero =>
      intro _
      refine ⟨fun i => i, rfl, rfl, Nat.le_refl _, fun i hi => absurd hi (by omega), fun _ _ => rfl, fun i j hi => absurd hi (by omega), fun x hx => absurd hx (by omega), fun i hi => absurd hi (Nat.not_lt_zero i), fun i _ hi => absurd hi (by omega), fun i j a b _ => ?_⟩
      have er : mo_r n (md_cols (n + 1) 0 (md_tab (n + 1) p fl (fun _ => 0), 0, 1, fun _ => 0)).2.1 (fun i => i) i = kp n i := if_neg (Nat.not_lt_zero i)
      have hk8 : kp n i < 8 := by unfold kp; by_cases e : i = n; (rw [if_pos e]; omega); (rw [if_neg e]; omega)
      rw [er, tx_0]
      show (md_tab (n + 1) p fl (fun _ => 0) (8 * i + j)).toInt = _
      unfold md_tab
      have e1 : (8 * i + j) % 8 = j := by omega
      have e2 : (8 * i + j) / 8 = i := by omega
      rw [e1, e2]
      by_cases q : j = n + 1
      · rw [if_neg (by omega), if_pos ⟨a, q⟩]
        have e3 : kq n j = 16 := if_pos q
        rw [e3, av_f A N f hk8]
        exact hH.2.2.2.2.2 i a
      · rw [if_pos ⟨a, by omega⟩]
        have e3 : kq n j = kp n j := if_neg q
        have hj8 : kp n j < 8 := by unfold kp; by_cases e : j = n; (rw [if_pos e]; omega); (rw [if_neg e]; omega)
        rw [e3, av_rr A N f hk8 hj8]
        exact hH.2.2.2.2.1 i j a (by omega)
    | succ c ih =>
      intro hc
      obtain ⟨τ, h⟩ := ih (by omega)
      have ek : kp n c = c := if_neg (by omega)
      exact mo_step A N f n hB h1 h2 hΦ hf h3 hn (c := c) (c1 := c) (by omega) ek.symm h
  obtain ⟨τ, h⟩ := st n (Nat.le_refl _)
  have e6 := mp_pv A N f n hH (6 - n) (by omega)
  rw [show n + (6 - n) = 6 by omega] at e6
  have ht : ∀ x y, tx (av_E A N f) 6 x y = tx (av_E A N f) n x y := fun x y => by unfold tx; rw [e6]
  have hd : td (av_E A N f) 6 = td (av_E A N f) n := by unfold td; rw [e6]
  have h' : mo_inv A N f n n 6 (md_cols (n + 1) n (md_tab (n + 1) p fl (fun _ => 0), 0, 1, fun _ => 0)) τ := by
    obtain ⟨i1, i2, i3, i4, i5, i6, i7, i8, i9, i10⟩ := h
    exact ⟨by rw [e6]; exact i1, by rw [hd]; exact i2, i3, i4, i5, i6, i7, i8, i9, fun i j a b d => by rw [ht]; exact i10 i j a b d⟩
  have ek : kp n n = 6 := if_pos rfl
  exact mo_step A N f n hB h1 h2 hΦ hf h3 hn (c := n) (c1 := 6) (by omega) ek.symm h'
section FIN
variable {τ : Nat → Nat} (hI : mo_inv A N f n (n + 1) 7 (md_E (n + 1) p fl) τ) (hH : mp_H A N f n p fl)
theorem mp_by (hI : mo_inv A N f n (n + 1) 7 (md_E (n + 1) p fl) τ) : (md_by (n + 1) p fl).toInt = td (av_E A N f) 7 := hI.2.1
theorem mp_rk (hI : mo_inv A N f n (n + 1) 7 (md_E (n + 1) p fl) τ) : md_rk (n + 1) p fl = (pv (av_E A N f) 7).1 := hI.1
theorem mp_rhs (hH : mp_H A N f n p fl) (hI : mo_inv A N f n (n + 1) 7 (md_E (n + 1) p fl) τ) {i : Nat} (hi : i < n + 1) : ((md_E (n + 1) p fl).1 (8 * i + (n + 1))).toInt = tx (av_E A N f) 7 (mo_r n (md_E (n + 1) p fl).2.1 τ i) 16 := by
  have h := hI.2.2.2.2.2.2.2.2.2 i (n + 1) hi (Nat.le_refl _) (fun z => by have := hI.2.2.2.1 i hi; omega)
  have e : kq n (n + 1) = 16 := if_pos rfl
  rw [e] at h
  exact h
theorem md_ok_iff {w : Nat} {r : Nat → Int64} : ∀ d i, md_ok w r d i = true ↔ ∀ x, i ≤ x → x < i + d → r (8 * x + w) = 0
  | 0, i => ⟨fun _ x a b => absurd b (by omega), fun _ => rfl⟩
  | d + 1, i => by
    show (decide (r (8 * i + w) = 0) && md_ok w r d (i + 1)) = true ↔ _
    rw [Bool.and_eq_true, decide_eq_true_iff, md_ok_iff d (i + 1)]
    constructor
    · intro h x a b
      by_cases e : x = i
      · subst e; exact h.1
      · exact h.2 x (by omega) (by omega)
    · intro h
      exact ⟨h i (Nat.le_refl _) (by omega), fun x a b => h x (by omega) (by omega)⟩
theorem mp_kn (hH : mp_H A N f n p fl) (hI : mo_inv A N f n (n + 1) 7 (md_E (n + 1) p fl) τ) : md_kn (n + 1) p fl = true ↔ ∀ c, c < 7 → pw (av_E A N f) c = false → tx (av_E A N f) 7 c 16 = 0 := by
  have hrk := hI.2.2.1
  unfold md_kn
  rw [md_ok_iff]
  have hn := hH.1
  constructor
  · intro h c hc w
    by_cases q : n ≤ c ∧ c < 6
    · rw [ah_16 A N f hH.2.2.2.1 hc w, hH.2.2.1 c q.1 q.2]
      have e : ah_st A N f c = 0 := by
        unfold ah_st
        refine dsum_zero 7 (fun i hi => ?_)
        cases p : pw (av_E A N f) i with
        | false => exact if_neg (by decide)
        | true =>
          rw [if_pos rfl]
          have cs := au_cs A N f (c := 7) (x := i + 8) (y := c) (by omega) (by omega) (by omega) (fun _ => by rw [show i + 8 - 8 = i by omega]; exact ⟨hi, p⟩) (fun z => absurd (show c < 8 by omega) z)
          have e2 : au_z A N f 7 c = 0 := by
            unfold au_z; rw [if_pos (by omega), mp_z A N f n hH q.1 q.2]; omega
          rw [e2, Int.mul_zero] at cs
          have s := sq_le (a := tx (av_E A N f) 7 (i + 8) c) (b := 0) (by omega) (by omega)
          have e3 : tx (av_E A N f) 7 (i + 8) c = 0 := by omega
          rw [e3]; omega
      rw [e]; omega
    · obtain ⟨x, hx, ex⟩ : ∃ x, x < n + 1 ∧ kp n x = c := by
        by_cases e : c = 6
        · exact ⟨n, by omega, by rw [e]; exact if_pos rfl⟩
        · exact ⟨c, by omega, if_neg (by omega)⟩
      obtain ⟨i, hi, ei⟩ := hI.2.2.2.2.2.2.1 x hx
      have ni : ¬ i < (md_E (n + 1) p fl).2.1 := fun z => by
        have := (hI.2.2.2.2.2.2.2.1 i z).1
        rw [ei, ex, w] at this; exact absurd this (by decide)
      have h0 := h i (by omega) (by omega)
      have h1 := mp_rhs A N f n hH hI hi
      rw [h0] at h1
      have er : mo_r n (md_E (n + 1) p fl).2.1 τ i = c := by
        unfold mo_r; rw [if_neg ni, ei, ex]
      rw [er] at h1
      exact h1.symm
  · intro h x a b
    have hx : x < n + 1 := by omega
    have h1 := mp_rhs A N f n hH hI hx
    have er : mo_r n (md_E (n + 1) p fl).2.1 τ x = kp n (τ x) := if_neg (by omega)
    rw [er, h _ (by have := hI.2.2.2.1 x hx; unfold kp; by_cases e : τ x = n; (rw [if_pos e]; omega); (rw [if_neg e]; omega)) (hI.2.2.2.2.2.2.2.2.1 x a hx)] at h1
    rw [← Int64.ofInt_toInt ((md_E (n + 1) p fl).1 (8 * x + (n + 1))), h1]; rfl
theorem mp_sv (hH : mp_H A N f n p fl) (hI : mo_inv A N f n (n + 1) 7 (md_E (n + 1) p fl) τ) {x : Nat} (hx : x < n + 1) : (md_sv (n + 1) p fl x).toInt = if pw (av_E A N f) (kp n x) = true then tx (av_E A N f) 7 (kp n x + 8) 16 else 0 := by
  have hn := hH.1
  have hrk := hI.2.2.1
  have key : ∀ q, q ≤ (md_E (n + 1) p fl).2.1 → (∀ i, i < q → τ i = x → md_solT (n + 1) (md_E (n + 1) p fl).1 (md_E (n + 1) p fl).2.2.2 (fun _ => 0) q x = (md_E (n + 1) p fl).1 (8 * i + (n + 1))) ∧ ((∀ i, i < q → ¬ τ i = x) → md_solT (n + 1) (md_E (n + 1) p fl).1 (md_E (n + 1) p fl).2.2.2 (fun _ => 0) q x = 0) := by
    intro q
    induction q with
    | zero => intro _; exact ⟨fun i hi => absurd hi (by omega), fun _ => by show sr_fill 7 (fun _ => 0) (fun _ => 0) x = 0; unfold sr_fill; exact if_pos (by omega)⟩
    | succ q ih =>
      intro hq
      have ih := ih (by omega)
      have el : ((md_E (n + 1) p fl).2.2.2 q).toNatClampNeg = τ q := by
        rw [(hI.2.2.2.2.2.2.2.1 q (by omega)).2]
        exact nI_clamp (by have := hI.2.2.2.1 q (by omega); omega)
      have es : ∀ y, md_solT (n + 1) (md_E (n + 1) p fl).1 (md_E (n + 1) p fl).2.2.2 (fun _ => 0) (q + 1) y = if y = τ q then (md_E (n + 1) p fl).1 (8 * q + (n + 1)) else md_solT (n + 1) (md_E (n + 1) p fl).1 (md_E (n + 1) p fl).2.2.2 (fun _ => 0) q y := fun y => by
        show vp_updL _ _ _ y = _
        rw [el]; rfl
      rw [es x]
      constructor
      · intro i hi e
        by_cases z : i = q
        · rw [if_pos (by rw [← z]; exact e.symm), z]
        · rw [if_neg (fun y => z (hI.2.2.2.2.2.1 i q (by omega) (by omega) (by rw [e]; exact y)))]
          exact ih.1 i (by omega) e
      · intro h
        rw [if_neg (fun y => h q (by omega) y.symm)]
        exact ih.2 (fun i hi => h i (by omega))
  have k := key _ (Nat.le_refl _)
  show (md_solT (n + 1) (md_E (n + 1) p fl).1 (md_E (n + 1) p fl).2.2.2 (fun _ => 0) (md_E (n + 1) p fl).2.1 x).toInt = _
  obtain ⟨i, hi, ei⟩ := hI.2.2.2.2.2.2.1 x hx
  by_cases z : i < (md_E (n + 1) p fl).2.1
  · have w := (hI.2.2.2.2.2.2.2.1 i z).1
    rw [ei] at w
    rw [k.1 i z ei, mp_rhs A N f n hH hI hi, if_pos w]
    have er : mo_r n (md_E (n + 1) p fl).2.1 τ i = kp n x + 8 := by unfold mo_r; rw [if_pos z, ei]
    rw [er]
  · have w := hI.2.2.2.2.2.2.2.2.1 i (by omega) hi
    rw [ei] at w
    rw [k.2 (fun j hj e => z (by
      have := hI.2.2.2.2.2.1 i j hi (by omega) (by rw [ei, e])
      omega)), w, if_neg (by decide)]
    rfl
theorem sumL_of {h : Nat → Int64} {g : Nat → Int} : ∀ m, (∀ k, k < m → h k = Int64.ofInt (g k)) → sr_sumL h m = Int64.ofInt (dsum g m)
  | 0, _ => rfl
  | m + 1, e => by
    show sr_sumL h m + h m = Int64.ofInt (dsum g m + g m)
    rw [sumL_of m (fun k hk => e k (by omega)), e m (by omega), Int64.ofInt_add]
theorem mp_val (hH : mp_H A N f n p fl) (hI : mo_inv A N f n (n + 1) 7 (md_E (n + 1) p fl) τ) {s : Nat → Int64} (hs : ∀ k, k < n + 1 → (s k).toInt = av_G A N (kp n k) 7) : md_val (n + 1) p s fl = Int64.ofInt (ah_st A N f 7) := by
  rw [← ah_val A N f hH.2.2.2.1, ← dsum_kp hH.1 (fun i a b => if_neg (by rw [mp_pw A N f n hH a b]; decide))]
  unfold md_val
  refine sumL_of _ (fun k hk => ?_)
  rw [← Int64.ofInt_toInt (md_sv (n + 1) p fl k), ← Int64.ofInt_toInt (s k), hs k hk, mp_sv A N f n hH hI hk, ← Int64.ofInt_mul]
  congr 1
  cases w : pw (av_E A N f) (kp n k) with
  | true => rw [if_pos rfl, if_pos rfl]
  | false => rw [if_neg (by decide), if_neg (by decide)]; omega
theorem mp_dou (hH : mp_H A N f n p fl) (hI : mo_inv A N f n (n + 1) 7 (md_E (n + 1) p fl) τ) : md_dou (n + 1) p fl = Int64.ofInt (ah_dou A N f) := by
  rw [← ah_dou_eq A N f hH.2.2.2.1, ← dsum_kp hH.1 (fun i a b => if_neg (by rw [mp_pw A N f n hH a b]; decide))]
  unfold md_dou
  refine sumL_of _ (fun k hk => ?_)
  rw [← Int64.ofInt_toInt (md_sv (n + 1) p fl k), ← Int64.ofInt_toInt (fl k), hH.2.2.2.2.2 k hk, mp_sv A N f n hH hI hk, ← Int64.ofInt_mul]
  congr 1
  cases w : pw (av_E A N f) (kp n k) with
  | true => rw [if_pos rfl, if_pos rfl]
  | false => rw [if_neg (by decide), if_neg (by decide)]; omega
end FIN
end MP
