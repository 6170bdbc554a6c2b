/-! ===== the model's elimination in integers ===== -/
def kp (n j : Nat) : Nat := if j = n then 6 else j
def kq (n j : Nat) : Nat := if j = n + 1 then 16 else kp n j
theorem md_find_at {w c : Nat} {r : Nat → Int64} {p : Nat} (hp : ¬ (p < w ∧ r (8 * p + c) = 0)) (hpw : p ≤ w) : ∀ d k, k + d = p → (∀ i, k ≤ i → i < p → r (8 * i + c) = 0) → md_find w c r k = p
  | 0, k, h, _ => by
    have e : k = p := by omega
    subst e; exact md_find_f hp
  | d + 1, k, h, hz => by
    rw [md_find_t (by omega) (hz k (Nat.le_refl _) (by omega))]
    exact md_find_at hp hpw d (k + 1) (by omega) (fun i h1 h2 => hz i (by omega) h2)
section MO
variable (A : Nat → Nat → Int) (N : Nat) (f : Nat → Int) {B S M : Int} (n : Nat)
/-- where the row i of the model's table stands -/
def mo_r (k : Nat) (τ : Nat → Nat) (i : Nat) : Nat := if i < k then kp n (τ i) + 8 else kp n (τ i)
def mo_inv (c c1 : Nat) (s : md_S) (τ : Nat → Nat) : Prop :=
  s.2.1 = (pv (av_E A N f) c1).1 ∧ s.2.2.1.toInt = td (av_E A N f) c1 ∧ s.2.1 ≤ c ∧ (∀ i, i < c → τ i < c) ∧ (∀ i, c ≤ i → τ i = i) ∧ (∀ i j, i < c → j < c → τ i = τ j → i = j) ∧ (∀ x, x < c → ∃ i, i < c ∧ τ i = x) ∧ (∀ i, i < s.2.1 → pw (av_E A N f) (kp n (τ i)) = true ∧ s.2.2.2 i = nI (τ i)) ∧ (∀ i, s.2.1 ≤ i → i < c → pw (av_E A N f) (kp n (τ i)) = false) ∧ ∀ i j, i < n + 1 → j ≤ n + 1 → ¬ (i < s.2.1 ∧ j = τ i) → (s.1 (8 * i + j)).toInt = tx (av_E A N f) c1 (mo_r n s.2.1 τ i) (kq n j)
theorem mo_step (hB : av_B A N B S M) (h1 : B ^ 10 * S < 2 ^ 63) (h2 : B ^ 10 * S * M < 2 ^ 63) {Φ : Int} (hΦ : 0 ≤ Φ) (hf : ∀ i, i < 8 → -Φ ≤ f i ∧ f i ≤ Φ) (h3 : B ^ 5 * (8 * (Φ * B ^ 6)) < 2 ^ 63) (hn : n ≤ 6) {c c1 : Nat} {s : md_S} {τ : Nat → Nat} (hc : c < n + 1) (hc1 : c1 = kp n c) (hI : mo_inv A N f n c c1 s τ) : ∃ τ', mo_inv A N f n (c + 1) (c1 + 1) (md_step (n + 1) c s) τ' := by
  obtain ⟨i1, i2, i3, i4, i5, i6, i7, i8, i9, i10⟩ := hI
  have kpl : ∀ x, x < n → kp n x = x := fun x hx => if_neg (by omega)
  have kp7 : ∀ x, x ≤ n → kp n x < 7 := fun x hx => by unfold kp; by_cases e : x = n; (rw [if_pos e]; omega); (rw [if_neg e]; omega)
  have c17 : c1 < 7 := by rw [hc1]; exact kp7 c (by omega)
  have cc1 : c ≤ c1 := by rw [hc1]; unfold kp; by_cases e : c = n; (rw [if_pos e]; omega); (rw [if_neg e]; omega)
  have kqp : ∀ j, j ≤ n → kq n j = kp n j := fun j hj => if_neg (by omega)
  have kqc : kq n c = c1 := by rw [kqp c (by omega), hc1]
  have τc : τ c = c := i5 c (Nat.le_refl _)
  have zero : ∀ x : Int64, x.toInt = 0 → x = 0 := fun x hx => by
    rw [← Int64.ofInt_toInt x, hx]; rfl
  -- rows between the rank and c
  have hz : ∀ i, s.2.1 ≤ i → i < c → s.1 (8 * i + c) = 0 := by
    intro i a b
    refine zero _ ?_
    rw [i10 i c (by omega) (by omega) (by omega), kqc]
    have e : mo_r n s.2.1 τ i = τ i := by
      unfold mo_r; rw [if_neg (by omega)]; exact kpl _ (by have := i4 i b; omega)
    rw [e]
    have hp := i9 i a b
    rw [kpl _ (by have := i4 i b; omega)] at hp
    exact ax_n A N f c1 (τ i) (by omega) (by have := i4 i b; omega) hp c1 (by omega)
  have rowge : ∀ i, c ≤ i → i < n + 1 → (s.1 (8 * i + c)).toInt = tx (av_E A N f) c1 (kp n i) c1 := by
    intro i a b
    rw [i10 i c b (by omega) (by omega), kqc]
    have e : mo_r n s.2.1 τ i = kp n i := by
      unfold mo_r; rw [if_neg (by omega), i5 i a]
    rw [e]
  cases w : pw (av_E A N f) c1 with
  | false =>
    have t0 : tx (av_E A N f) c1 c1 c1 = 0 := by
      have a := tx_npos _ w
      have b := (ax_psd A N f (c := c1) (i := c1) (by omega) (by omega)).1
      omega
    have hfind : md_find (n + 1) c s.1 s.2.1 = n + 1 := md_find_at (by omega) (Nat.le_refl _) (n + 1 - s.2.1) s.2.1 (by omega) (fun i a b => by
      by_cases q : i < c
      · exact hz i a q
      · refine zero _ ?_
        rw [rowge i (by omega) b, ax_sym A N f (by omega) (by have := kp7 i (by omega); omega) (by omega)]
        exact (ax_psd A N f (c := c1) (i := c1) (by omega) (by omega)).2.1 t0 _ (by have := kp7 i (by omega); omega))
    have hs : md_step (n + 1) c s = s := if_pos hfind
    rw [hs]
    refine ⟨τ, by rw [pv_n _ w]; exact i1, by rw [td_n _ w]; exact i2, by omega, fun i hi => ?_, fun i hi => i5 i (by omega), fun i j hi hj h => ?_, fun x hx => ?_, i8, fun i a b => ?_, fun i j a b d => by rw [tx_n _ w]; exact i10 i j a b d⟩
    · by_cases q : i = c
      · rw [q, τc]; omega
      · have := i4 i (by omega); omega
    · by_cases q : i = c
      · by_cases q2 : j = c
        · omega
        · have := i4 j (by omega); rw [q, τc] at h; omega
      · by_cases q2 : j = c
        · have := i4 i (by omega); rw [q2, τc] at h; omega
        · exact i6 i j (by omega) (by omega) h
    · by_cases q : x = c
      · exact ⟨c, by omega, by rw [τc, q]⟩
      · obtain ⟨i, hi, e⟩ := i7 x (by omega); exact ⟨i, by omega, e⟩
    · by_cases q : i = c
      · rw [q, τc, ← hc1]; exact w
      · exact i9 i a (by omega)
  | true =>
    have tp := tx_pos _ w
    have hfind : md_find (n + 1) c s.1 s.2.1 = c := md_find_at (fun z => by
      have := rowge c (Nat.le_refl _) hc
      rw [z.2, ← hc1] at this
      have e : (0 : Int64).toInt = 0 := rfl
      omega) (by omega) (c - s.2.1) s.2.1 (by omega) (fun i a b => hz i a b)
    have hs : md_step (n + 1) c s = (md_elim (n + 1) s.2.1 c s.2.2.1 (md_swap (n + 1) s.2.1 c s.1), s.2.1 + 1, (md_swap (n + 1) s.2.1 c s.1) (8 * s.2.1 + c), upd s.2.2.2 s.2.1 (nI c)) := by
      unfold md_step; rw [if_neg (by omega), hfind]
    rw [hs]
    generalize hk : s.2.1 = k at *
    -- the swap
    obtain ⟨sw, hsw⟩ : ∃ sw : Nat → Nat, sw = fun i => if i = k then c else if i = c then k else i := ⟨_, rfl⟩
    have swk : sw k = c := by rw [hsw]; exact if_pos rfl
    have swn : ∀ i, ¬ i = k → ¬ i = c → sw i = i := fun i a b => by rw [hsw]; show (if i = k then c else if i = c then k else i) = i; rw [if_neg a, if_neg b]
    have swc : ¬ c = k → sw c = k := fun a => by rw [hsw]; show (if c = k then c else if c = c then k else c) = k; rw [if_neg a, if_pos rfl]
    have swlt : ∀ i, sw i < k ↔ i < k := fun i => by
      by_cases a : i = k
      · rw [a, swk]; omega
      · by_cases b : i = c
        · rw [b, swc (by omega)]; omega
        · rw [swn i a b]
    have swc1 : ∀ i, i < c + 1 → sw i < c + 1 := fun i hi => by
      by_cases a : i = k
      · rw [a, swk]; omega
      · by_cases b : i = c
        · rw [b, swc (by omega)]; omega
        · rw [swn i a b]; exact hi
    have swsw : ∀ i, sw (sw i) = i := fun i => by
      by_cases a : i = k
      · rw [a, swk]
        by_cases b : c = k
        · have e : sw c = sw k := congrArg sw b
          rw [e, swk]; exact b
        · exact swc b
      · by_cases b : i = c
        · rw [b, swc (by omega), swk]
        · rw [swn i a b, swn i a b]
    have swn1 : ∀ i, i < n + 1 → sw i < n + 1 := fun i hi => by
      by_cases a : i = k
      · rw [a, swk]; omega
      · by_cases b : i = c
        · rw [b, swc (by omega)]; omega
        · rw [swn i a b]; exact hi
    have r1 : ∀ i j, i < n + 1 → j ≤ n + 1 → md_swap (n + 1) k c s.1 (8 * i + j) = s.1 (8 * sw i + j) := fun i j a b => by
      unfold md_swap
      have e1 : (8 * i + j) % 8 = j := by omega
      have e2 : (8 * i + j) / 8 = i := by omega
      rw [e1, e2]
      by_cases q : i = k
      · rw [if_pos ⟨b, q⟩, q, swk]
      · by_cases q2 : i = c
        · rw [if_neg (fun z => q z.2), if_pos ⟨b, q2⟩, q2, swc (by omega)]
        · rw [if_neg (fun z => q z.2), if_neg (fun z => q2 z.2), swn i q q2]
    have τ1 : ∀ i, i < c + 1 → τ i < c + 1 := fun i hi => by
      by_cases q : i = c
      · rw [q, τc]; omega
      · have := i4 i (by omega); omega
    have ρ1 : ∀ i, mo_r n k τ (sw i) = mo_r n k (fun i => τ (sw i)) i := fun i => by
      unfold mo_r
      by_cases q : i < k
      · rw [if_pos q, if_pos ((swlt i).mpr q)]
      · rw [if_neg q, if_neg (fun z => q ((swlt i).mp z))]
    -- the table behind the swap
    have t1 : ∀ i j, i < n + 1 → j ≤ n + 1 → ¬ (i < k ∧ j = τ (sw i)) → (md_swap (n + 1) k c s.1 (8 * i + j)).toInt = tx (av_E A N f) c1 (mo_r n k (fun i => τ (sw i)) i) (kq n j) := fun i j a b d => by
      rw [r1 i j a b, i10 (sw i) j (swn1 i a) b (fun z => d ⟨(swlt i).mp z.1, z.2⟩), ρ1]
    have τk : τ (sw k) = c := by rw [swk, τc]
    have rk : mo_r n k (fun i => τ (sw i)) k = c1 := by
      unfold mo_r; rw [if_neg (by omega)]; show kp n (τ (sw k)) = c1; rw [τk, hc1]
    have tkk : (md_swap (n + 1) k c s.1 (8 * k + c)).toInt = tx (av_E A N f) c1 c1 c1 := by
      rw [t1 k c (by omega) (by omega) (fun z => absurd z.1 (by omega)), rk, kqc]
    have τlt : ∀ i, i < k → τ (sw i) < c := fun i hi => by
      rw [swn i (by omega) (by omega)]; exact i4 i (by omega)
    refine ⟨fun i => τ (sw i), by rw [pv_p _ w]; show k + 1 = _ + 1; rw [i1], ?_, by show k + 1 ≤ c + 1; omega, fun i hi => τ1 _ (swc1 i hi), fun i hi => ?_, fun i j hi hj h => ?_, fun x hx => ?_, fun i hi => ?_, fun i a b => ?_, fun i j a b d => ?_⟩
    · rw [td_p _ w]; exact tkk
    · show τ (sw i) = i
      rw [swn i (by omega) (by omega)]; exact i5 i (by omega)
    · have h' : τ (sw i) = τ (sw j) := h
      have e : sw i = sw j := by
        have a := swc1 i hi
        have b := swc1 j hj
        by_cases q : sw i = c
        · by_cases q2 : sw j = c
          · omega
          · have := i4 (sw j) (by omega); rw [q, τc] at h'; omega
        · by_cases q2 : sw j = c
          · have := i4 (sw i) (by omega); rw [q2, τc] at h'; omega
          · exact i6 _ _ (by omega) (by omega) h'
      rw [← swsw i, e, swsw]
    · by_cases q : x = c
      · exact ⟨k, by omega, by show τ (sw k) = x; rw [τk, q]⟩
      · obtain ⟨i, hi, e⟩ := i7 x (by omega)
        exact ⟨sw i, swc1 i (by omega), by show τ (sw (sw i)) = x; rw [swsw, e]⟩
    · have hi' : i < k + 1 := hi
      show pw (av_E A N f) (kp n (τ (sw i))) = true ∧ upd s.2.2.2 k (nI c) i = nI (τ (sw i))
      unfold upd
      by_cases q : i = k
      · rw [if_pos q, q, τk, ← hc1]; exact ⟨w, rfl⟩
      · rw [if_neg q, swn i q (by omega)]; exact i8 i (by omega)
    · have a' : k + 1 ≤ i := a
      show pw (av_E A N f) (kp n (τ (sw i))) = false
      have e : k ≤ sw i := Nat.not_lt.mp (fun z => by have := (swlt i).mp z; omega)
      have e2 := swc1 i b
      have e3 : ¬ sw i = c := fun z => by
        have := swsw i
        rw [z] at this
        by_cases q : c = k
        · have e : sw c = sw k := congrArg sw q
          rw [e, swk] at this; omega
        · rw [swc q] at this; omega
      exact i9 (sw i) e (by omega)
    · have d' : ¬ (i < k + 1 ∧ j = τ (sw i)) := d
      show (md_elim (n + 1) k c s.2.2.1 (md_swap (n + 1) k c s.1) (8 * i + j)).toInt = tx (av_E A N f) (c1 + 1) (mo_r n (k + 1) (fun i => τ (sw i)) i) (kq n j)
      unfold md_elim
      have e1 : (8 * i + j) % 8 = j := by omega
      have e2 : (8 * i + j) / 8 = i := by omega
      rw [e1, e2]
      have hd := td_pos (av_E A N f) c1
      by_cases q : i = k
      · rw [if_neg (fun z => z.2.1 q), q, t1 k j (by omega) b (fun z => absurd z.1 (by omega)), rk]
        have e3 : mo_r n (k + 1) (fun i => τ (sw i)) k = c1 + 8 := by
          unfold mo_r; rw [if_pos (by omega)]; show kp n (τ (sw k)) + 8 = _; rw [τk, hc1]
        rw [e3]
        have jc : ¬ j = c := fun z => d' ⟨by omega, by rw [q, τk]; exact z⟩
        have st := tx_p _ w (c1 + 8) (kq n j)
        rw [ax_v A N f c1 c1 (by omega) (by omega) (fun z => absurd z (by omega)) (kq n j), ax_v A N f c1 c1 (by omega) (by omega) (fun z => absurd z (by omega)) c1] at st
        have e4 : av_E A N f (c1 + 8) c1 = -1 := by unfold av_E; rw [exE_vr (by omega) (by omega), if_pos rfl]
        have e5 : av_E A N f (c1 + 8) (kq n j) = 0 := by
          by_cases jw : j = n + 1
          · exact av_v A N f (by omega) (by unfold kq; rw [if_pos jw]; omega)
          · have k7 := kp7 j (by omega)
            rw [kqp j (by omega)]
            unfold av_E
            rw [exE_vr (by omega) (by omega), if_neg (fun z => ?_)]
            rw [hc1] at z
            unfold kp at z
            by_cases a1 : c = n
            · rw [if_pos a1, if_neg (by omega)] at z; omega
            · rw [if_neg a1] at z
              by_cases a2 : j = n
              · rw [if_pos a2] at z; omega
              · rw [if_neg a2] at z; omega
        rw [e4, e5] at st
        refine can (show ¬ td (av_E A N f) c1 = 0 by omega) ?_
        rw [← st]; grind
      · rw [if_pos ⟨a, q, b⟩]
        have e3 : mo_r n (k + 1) (fun i => τ (sw i)) i = mo_r n k (fun i => τ (sw i)) i := by
          unfold mo_r
          by_cases z : i < k
          · rw [if_pos z, if_pos (by omega)]
          · rw [if_neg z, if_neg (by omega)]
        rw [e3]
        have tij := t1 i j a b (fun z => d' ⟨by omega, z.2⟩)
        have tic := t1 i c a (by omega) (fun z => by have := τlt i z.1; omega)
        have tkj := t1 k j (by omega) b (fun z => absurd z.1 (by omega))
        rw [rk] at tkj
        rw [kqc] at tic
        have st := tx_p _ w (mo_r n k (fun i => τ (sw i)) i) (kq n j)
        have rlt : i < k → kp n (τ (sw i)) < c1 ∧ pw (av_E A N f) (kp n (τ (sw i))) = true := fun z => by
          have h4 := τlt i z
          rw [kpl _ (by omega)]
          refine ⟨by omega, ?_⟩
          have h5 := (i8 i z).1
          rw [swn i (by omega) (by omega)] at h4 ⊢
          rw [kpl _ (by omega)] at h5
          exact h5
        have rle : ¬ i < k → kp n (τ (sw i)) < 7 := fun z => kp7 _ (by
          by_cases y : i < c + 1
          · have := τ1 _ (swc1 i y); omega
          · rw [swn i (by omega) (by omega), i5 i (by omega)]; omega)
        have fit : -(2 ^ 63 : Int) < td (av_E A N f) c1 * tx (av_E A N f) (c1 + 1) (mo_r n k (fun i => τ (sw i)) i) (kq n j) ∧ td (av_E A N f) c1 * tx (av_E A N f) (c1 + 1) (mo_r n k (fun i => τ (sw i)) i) (kq n j) < 2 ^ 63 := by
          by_cases jw : j = n + 1
          · have e6 : kq n j = 16 := if_pos jw
            rw [e6]
            refine ag_fit A N f hB hΦ hf h3 c17 ?_
            unfold mo_r
            by_cases z : i < k
            · have := rlt z
              rw [if_pos z]; exact Or.inr ⟨by omega, by show kp n (τ (sw i)) + 8 < _; omega, by rw [show kp n (τ (sw i)) + 8 - 8 = kp n (τ (sw i)) by omega]; exact this.2⟩
            · rw [if_neg z]; exact Or.inl (rle z)
          · rw [kqp j (by omega)]
            refine af_fit A N f hB h1 h2 c17 w ?_ (Or.inl (by have := kp7 j (by omega); omega))
            unfold mo_r
            by_cases z : i < k
            · have := rlt z
              rw [if_pos z]; exact Or.inr ⟨by omega, by show kp n (τ (sw i)) + 8 < _; omega, by rw [show kp n (τ (sw i)) + 8 - 8 = kp n (τ (sw i)) by omega]; exact this.2⟩
            · rw [if_neg z]; exact Or.inl (by have := rle z; show kp n (τ (sw i)) < 8; omega)
        refine i64_step (by rw [i2]; exact hd) ?_ ?_ ?_
        · rw [tkk, tij, tic, tkj, i2]; exact st
        · rw [tkk, tij, tic, tkj, st]; exact fit.1
        · rw [tkk, tij, tic, tkj, st]; exact fit.2
end MO
