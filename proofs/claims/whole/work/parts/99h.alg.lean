/-! ===== what the class answers, in integers ===== -/
theorem i32_of (x : Int32) : x.toInt64 = Int64.ofInt x.toInt := by
  rw [← Int64.ofInt_toInt x.toInt64, Int32.toInt_toInt64]
theorem i64_small {x : Int} (h1 : -(2 ^ 63 : Int) ≤ x) (h2 : x < 2 ^ 63) : (Int64.ofInt x).toInt = x := by
  rw [Int64.toInt_ofInt]
  have es : ((Int64.size : Nat) : Int) = 2 ^ 64 := by decide
  exact Int.bmod_eq_of_le (by omega) (by omega)
theorem i64_eq {x y : Int} (h : Int64.ofInt x = Int64.ofInt y) (h1 : -(2 ^ 63 : Int) ≤ x - y) (h2 : x - y < 2 ^ 63) : x = y := by
  have e : Int64.ofInt (x - y) = 0 := by rw [Int64.ofInt_sub, h]; exact Int64.sub_self _
  have e2 := i64_small h1 h2
  rw [e] at e2
  have e3 : (0 : Int64).toInt = 0 := rfl
  omega
section AH
variable (A : Nat → Nat → Int) (N : Nat) (f : Nat → Int) {B S M : Int}
/-- the swept part of the form against a column -/
def ah_st (c : Nat) : Int := dsum (fun i => if pw (av_E A N f) i = true then f i * tx (av_E A N f) 7 (i + 8) c else 0) 7
def ah_dou : Int := dsum (fun c => if pw (av_E A N f) c = true then - (f c * ah_st A N f (c + 8)) else 0) 7
/-- what is left of the form in a column that is no pivot -/
theorem ah_16 (h7 : f 7 = 0) {c : Nat} (hc : c < 7) (w : pw (av_E A N f) c = false) : tx (av_E A N f) 7 c 16 = f c * td (av_E A N f) 7 - ah_st A N f c := by
  have e : tx (av_E A N f) 7 c 16 = dsum (fun i => (- f i) * tx (av_E A N f) 7 c (i + 8)) 7 + (- f 7) * tx (av_E A N f) 7 c 15 := ax_f A N f (by omega)
  rw [h7] at e
  have e2 : dsum (fun i => (- f i) * tx (av_E A N f) 7 c (i + 8)) 7 + ah_st A N f c = f c * td (av_E A N f) 7 := by
    unfold ah_st
    rw [← dsum_add, dsum_one (k := c) 7 hc (fun i hi ne => by
      show - f i * tx (av_E A N f) 7 c (i + 8) + (if pw (av_E A N f) i = true then f i * tx (av_E A N f) 7 (i + 8) c else 0) = 0
      cases q : pw (av_E A N f) i with
      | true =>
        rw [if_pos rfl, ax_sym A N f (c := 7) (i := c) (j := i + 8) (by omega) (by omega) (by omega)]; grind
      | false =>
        rw [if_neg (by decide), ax_vc A N f 7 i (by omega) (by omega) (fun _ => q) c]
        have e3 : av_E A N f c (i + 8) = 0 := by unfold av_E; rw [exE_vc (by omega) (by omega), if_neg ne]
        rw [e3]; grind)]
    show - f c * tx (av_E A N f) 7 c (c + 8) + (if pw (av_E A N f) c = true then f c * tx (av_E A N f) 7 (c + 8) c else 0) = _
    rw [w, if_neg (by decide), ax_vc A N f 7 c (by omega) (by omega) (fun _ => w) c]
    have e3 : av_E A N f c (c + 8) = -1 := by unfold av_E; rw [exE_vc (by omega) (by omega), if_pos rfl]
    rw [e3]; grind
  omega
/-- the solved unknowns against a column that is no pivot or the margins' -/
theorem ah_val (h7 : f 7 = 0) : dsum (fun i => if pw (av_E A N f) i = true then tx (av_E A N f) 7 (i + 8) 16 * av_G A N i 7 else 0) 7 = ah_st A N f 7 := by
  have h1 : dsum (fun i => if pw (av_E A N f) i = true then tx (av_E A N f) 7 (i + 8) 16 * av_G A N i 7 else 0) 7 = dsum (fun i => dsum (fun l => if pw (av_E A N f) i = true then (- f l) * (tx (av_E A N f) 7 (i + 8) (l + 8) * av_G A N i 7) else 0) 8) 7 := dsum_congr 7 (fun i hi => by
    cases q : pw (av_E A N f) i with
    | true =>
      rw [if_pos rfl, ax_f A N f (by omega), Int.mul_comm, ← dsum_mul]
      exact dsum_congr 8 (fun l _ => by rw [if_pos rfl]; grind)
    | false => rw [if_neg (by decide), dsum_zero 8 (fun l _ => if_neg (by decide))])
  rw [h1, dsum_swap]
  show dsum (fun l => dsum (fun i => if pw (av_E A N f) i = true then (- f l) * (tx (av_E A N f) 7 (i + 8) (l + 8) * av_G A N i 7) else 0) 7) 7 + dsum (fun i => if pw (av_E A N f) i = true then (- f 7) * (tx (av_E A N f) 7 (i + 8) (7 + 8) * av_G A N i 7) else 0) 7 = _
  rw [h7, dsum_zero (f := fun i => if pw (av_E A N f) i = true then (- (0 : Int)) * (tx (av_E A N f) 7 (i + 8) (7 + 8) * av_G A N i 7) else 0) 7 (fun i _ => by
    show (if pw (av_E A N f) i = true then (- (0 : Int)) * (tx (av_E A N f) 7 (i + 8) (7 + 8) * av_G A N i 7) else 0) = 0
    cases q : pw (av_E A N f) i with
    | true => rw [if_pos rfl]; grind
    | false => rw [if_neg (by decide)])]
  unfold ah_st
  rw [Int.add_zero]
  refine dsum_congr 7 (fun l hl => ?_)
  have rv : tx (av_E A N f) 7 (l + 8) 7 = td (av_E A N f) 7 * av_E A N f (l + 8) 7 + (dsum (fun i => (- tx (av_E A N f) 7 (l + 8) (i + 8)) * av_E A N f i 7) 7 + (- tx (av_E A N f) 7 (l + 8) (7 + 8)) * av_E A N f 7 7) := ax_rv A N f (x := l) (by omega) 7 (by omega) 7
  have e1 : av_E A N f (l + 8) 7 = 0 := by unfold av_E; rw [exE_vr (by omega) (by omega), if_neg (by omega)]
  have e2 : tx (av_E A N f) 7 (l + 8) (7 + 8) = 0 := by
    rw [ax_vc A N f 7 7 (by omega) (by omega) (fun z => absurd z (by omega)) (l + 8), av_v A N f (by omega) (by omega)]; omega
  rw [e1, e2] at rv
  have e3 : dsum (fun i => if pw (av_E A N f) i = true then (- f l) * (tx (av_E A N f) 7 (i + 8) (l + 8) * av_G A N i 7) else 0) 7 = f l * dsum (fun i => (- tx (av_E A N f) 7 (l + 8) (i + 8)) * av_E A N f i 7) 7 := by
    rw [← dsum_mul]
    refine dsum_congr 7 (fun i hi => ?_)
    rw [av_rr A N f (by omega) (by omega)]
    cases q : pw (av_E A N f) i with
    | true => rw [if_pos rfl, ax_sym A N f (c := 7) (i := i + 8) (j := l + 8) (by omega) (by omega) (by omega)]; grind
    | false =>
      rw [if_neg (by decide), ax_vc A N f 7 i (by omega) (by omega) (fun _ => q) (l + 8), av_v A N f (by omega) (by omega)]; grind
  rw [e3]
  cases q : pw (av_E A N f) l with
  | true => rw [if_pos rfl, rv]; grind
  | false =>
    rw [if_neg (by decide)]
    have e4 := ax_v A N f 7 l (by omega) (by omega) (fun _ => q) 7
    rw [e1] at e4
    have e5 : dsum (fun i => (- tx (av_E A N f) 7 (l + 8) (i + 8)) * av_E A N f i 7) 7 = 0 := by omega
    rw [e5]; omega
theorem ah_dou_eq (h7 : f 7 = 0) : dsum (fun i => if pw (av_E A N f) i = true then tx (av_E A N f) 7 (i + 8) 16 * f i else 0) 7 = ah_dou A N f := by
  unfold ah_dou
  refine dsum_congr 7 (fun i hi => ?_)
  cases q : pw (av_E A N f) i with
  | false => rw [if_neg (by decide), if_neg (by decide)]
  | true =>
    rw [if_pos rfl, if_pos rfl]
    have e : tx (av_E A N f) 7 (i + 8) 16 = dsum (fun l => (- f l) * tx (av_E A N f) 7 (i + 8) (l + 8)) 7 + (- f 7) * tx (av_E A N f) 7 (i + 8) 15 := ax_f A N f (by omega)
    rw [h7] at e
    have e2 : dsum (fun l => (- f l) * tx (av_E A N f) 7 (i + 8) (l + 8)) 7 + ah_st A N f (i + 8) = 0 := by
      unfold ah_st
      rw [← dsum_add]
      refine dsum_zero 7 (fun l hl => ?_)
      cases p : pw (av_E A N f) l with
      | true => rw [if_pos rfl, ax_sym A N f (c := 7) (i := i + 8) (j := l + 8) (by omega) (by omega) (by omega)]; grind
      | false =>
        rw [if_neg (by decide), ax_vc A N f 7 l (by omega) (by omega) (fun _ => p) (i + 8), av_v A N f (by omega) (by omega)]; grind
    have e3 : tx (av_E A N f) 7 (i + 8) 16 = - ah_st A N f (i + 8) := by omega
    rw [e3]; grind
/-- the sum that is left -/
theorem ah_sum (hf : ∀ i, i < 7 → f i = av_G A N i 7) : tx (av_E A N f) 7 7 7 = av_G A N 7 7 * td (av_E A N f) 7 - ah_st A N f 7 := by
  have e : tx (av_E A N f) 7 7 7 = dsum (fun i => (- tx (av_E A N f) 7 7 (i + 8)) * av_E A N f i 7) 7 + (- tx (av_E A N f) 7 7 15) * av_E A N f 7 7 := ax_r A N f (x := 7) (by omega) 7 (by omega) 7
  have e2 : tx (av_E A N f) 7 7 15 = - td (av_E A N f) 7 := by
    have := ax_vc A N f 7 7 (by omega) (by omega) (fun z => absurd z (by omega)) 7
    have e3 : av_E A N f 7 (7 + 8) = -1 := by unfold av_E; rw [exE_vc (by omega) (by omega), if_pos rfl]
    rw [e3] at this
    have e4 : tx (av_E A N f) 7 7 15 = tx (av_E A N f) 7 7 (7 + 8) := rfl
    omega
  have e5 : dsum (fun i => (- tx (av_E A N f) 7 7 (i + 8)) * av_E A N f i 7) 7 + ah_st A N f 7 = 0 := by
    unfold ah_st
    rw [← dsum_add]
    refine dsum_zero 7 (fun i hi => ?_)
    rw [av_rr A N f (by omega) (by omega), hf i hi]
    cases p : pw (av_E A N f) i with
    | true => rw [if_pos rfl, ax_sym A N f (c := 7) (i := 7) (j := i + 8) (by omega) (by omega) (by omega)]; grind
    | false =>
      rw [if_neg (by decide), ax_vc A N f 7 i (by omega) (by omega) (fun _ => p) 7]
      have e3 : av_E A N f 7 (i + 8) = 0 := by unfold av_E; rw [exE_vc (by omega) (by omega), if_neg (by omega)]
      rw [e3]; grind
  rw [e2, av_rr A N f (i := 7) (j := 7) (by omega) (by omega)] at e
  have : (- - td (av_E A N f) 7) * av_G A N 7 7 = av_G A N 7 7 * td (av_E A N f) 7 := by grind
  omega
/-- the margins' column is known -/
theorem ah_sk (hf : ∀ i, i < 7 → f i = av_G A N i 7) (h7 : f 7 = 0) {c : Nat} (hc : c < 7) (w : pw (av_E A N f) c = false) : tx (av_E A N f) 7 c 16 = 0 := by
  rw [ah_16 A N f h7 hc w]
  have e : tx (av_E A N f) 7 c 7 = dsum (fun i => (- tx (av_E A N f) 7 c (i + 8)) * av_E A N f i 7) 7 + (- tx (av_E A N f) 7 c 15) * av_E A N f 7 7 := ax_r A N f (x := c) (by omega) 7 (by omega) 7
  have z := ax_n A N f 7 c (by omega) hc w 7 (by omega)
  have e2 : tx (av_E A N f) 7 c 15 = 0 := by
    have := ax_vc A N f 7 7 (by omega) (by omega) (fun z => absurd z (by omega)) c
    have e3 : av_E A N f c (7 + 8) = 0 := by unfold av_E; rw [exE_vc (by omega) (by omega), if_neg (by omega)]
    rw [e3] at this
    have e4 : tx (av_E A N f) 7 c 15 = tx (av_E A N f) 7 c (7 + 8) := rfl
    omega
  have e6 : dsum (fun i => (- tx (av_E A N f) 7 c (i + 8)) * av_E A N f i 7) 7 + ah_st A N f c = f c * td (av_E A N f) 7 := by
    unfold ah_st
    rw [← dsum_add, dsum_one (k := c) 7 hc (fun i hi ne => by
      show - tx (av_E A N f) 7 c (i + 8) * av_E A N f i 7 + (if pw (av_E A N f) i = true then f i * tx (av_E A N f) 7 (i + 8) c else 0) = 0
      rw [av_rr A N f (by omega) (by omega), hf i hi]
      cases q : pw (av_E A N f) i with
      | true =>
        rw [if_pos rfl, ax_sym A N f (c := 7) (i := c) (j := i + 8) (by omega) (by omega) (by omega)]; grind
      | false =>
        rw [if_neg (by decide), ax_vc A N f 7 i (by omega) (by omega) (fun _ => q) c]
        have e3 : av_E A N f c (i + 8) = 0 := by unfold av_E; rw [exE_vc (by omega) (by omega), if_neg ne]
        rw [e3]; grind)]
    show - tx (av_E A N f) 7 c (c + 8) * av_E A N f c 7 + (if pw (av_E A N f) c = true then f c * tx (av_E A N f) 7 (c + 8) c else 0) = _
    rw [w, if_neg (by decide), ax_vc A N f 7 c (by omega) (by omega) (fun _ => w) c, av_rr A N f (i := c) (j := 7) (by omega) (by omega), hf c hc]
    have e3 : av_E A N f c (c + 8) = -1 := by unfold av_E; rw [exE_vc (by omega) (by omega), if_pos rfl]
    rw [e3]; grind
  rw [z, e2] at e
  omega
variable {Y : cl_T} {F : Nat → Int32}
theorem ah_cst (hB : av_B A N B S M) (h1 : B ^ 10 * S < 2 ^ 63) (h2 : B ^ 10 * S * M < 2 ^ 63) (hY : ag_Y A N Y) (hF : ∀ i, i < 7 → (F i).toInt = f i) {c : Nat} (hc : c < 8) : cl_st (cl_s Y) F (cl_go Y 7).1 c 7 = Int64.ofInt (ah_st A N f (ph (av_E A N f) 7 c)) := by
  have hg := (ag_go A N f hB h1 h2 hY 7 (by omega)).1
  have key : ∀ m, m ≤ 7 → cl_st (cl_s Y) F (cl_go Y 7).1 c m = Int64.ofInt (dsum (fun i => if pw (av_E A N f) i = true then f i * tx (av_E A N f) 7 (i + 8) (ph (av_E A N f) 7 c) else 0) m) := by
    intro m
    induction m with
    | zero => intro _; rfl
    | succ m ih =>
      intro hm
      show (if cl_s Y m = true then cl_st (cl_s Y) F (cl_go Y 7).1 c m + (F m).toInt64 * (cl_go Y 7).1 m c else cl_st (cl_s Y) F (cl_go Y 7).1 c m) = Int64.ofInt (dsum _ m + (if pw (av_E A N f) m = true then f m * tx (av_E A N f) 7 (m + 8) (ph (av_E A N f) 7 c) else 0))
      rw [ag_s A N f hB h1 h2 hY (by omega), ih (by omega), Int64.ofInt_add]
      cases q : pw (av_E A N f) m with
      | true =>
        rw [if_pos rfl, if_pos rfl, Int64.ofInt_mul, i32_of, hF m (by omega)]
        have e := hg m c (by omega) hc
        have ep : ph (av_E A N f) 7 m = m + 8 := if_pos ⟨by omega, q⟩
        rw [ep] at e
        rw [← e, Int64.ofInt_toInt]
      | false =>
        rw [if_neg (by decide), if_neg (by decide)]
        have : Int64.ofInt 0 = 0 := rfl
        rw [this, Int64.add_zero]
  exact key 7 (Nat.le_refl _)
theorem ah_kn (hB : av_B A N B S M) (h1 : B ^ 10 * S < 2 ^ 63) (h2 : B ^ 10 * S * M < 2 ^ 63) (hY : ag_Y A N Y) (hF : ∀ i, i < 7 → (F i).toInt = f i) (h7 : f 7 = 0) {Φ : Int} (hΦ : 0 ≤ Φ) (hf : ∀ i, i < 8 → -Φ ≤ f i ∧ f i ≤ Φ) (h3 : 8 * (Φ * B ^ 6) < 2 ^ 63) : cl_kn Y F = true ↔ ∀ c, c < 7 → pw (av_E A N f) c = false → tx (av_E A N f) 7 c 16 = 0 := by
  have hs := (ag_go A N f hB h1 h2 hY 7 (by omega)).2.1
  have key : ∀ m, m ≤ 7 → (cl_kb (cl_s Y) F (cl_go Y 7).1 (cl_go Y 7).2.1 m = true ↔ ∀ c, c < m → pw (av_E A N f) c = false → tx (av_E A N f) 7 c 16 = 0) := by
    intro m
    induction m with
    | zero => intro _; exact ⟨fun _ c hc => absurd hc (by omega), fun _ => rfl⟩
    | succ m ih =>
      intro hm
      show (cl_kb (cl_s Y) F (cl_go Y 7).1 (cl_go Y 7).2.1 m && (cl_s Y m || decide (cl_st (cl_s Y) F (cl_go Y 7).1 m 7 = (cl_go Y 7).2.1 * (F m).toInt64))) = true ↔ _
      rw [Bool.and_eq_true, ih (by omega), ag_s A N f hB h1 h2 hY (by omega)]
      have one : (pw (av_E A N f) m || decide (cl_st (cl_s Y) F (cl_go Y 7).1 m 7 = (cl_go Y 7).2.1 * (F m).toInt64)) = true ↔ (pw (av_E A N f) m = false → tx (av_E A N f) 7 m 16 = 0) := by
        cases q : pw (av_E A N f) m with
        | true => exact ⟨fun _ z => absurd z (by decide), fun _ => rfl⟩
        | false =>
          rw [Bool.false_or, decide_eq_true_iff, ah_cst A N f hB h1 h2 hY hF (by omega), i32_of, hF m (by omega)]
          have ep : ph (av_E A N f) 7 m = m := if_neg (fun z => by rw [q] at z; exact absurd z.2 (by decide))
          rw [ep, ← Int64.ofInt_toInt (cl_go Y 7).2.1, hs, ← Int64.ofInt_mul]
          have e16 := ah_16 A N f h7 (by omega) q
          have b := ag_f A N f hB hΦ hf (c := 7) (x := m) (by omega) (Or.inl (by omega))
          have cm := Int.mul_comm (td (av_E A N f) 7) (f m)
          constructor
          · intro h _
            have := i64_eq h (by omega) (by omega)
            omega
          · intro h
            have h' := h rfl
            have : ah_st A N f m = td (av_E A N f) 7 * f m := by omega
            rw [this]
      rw [one]
      constructor
      · intro h c hc
        by_cases e : c = m
        · subst e; exact h.2
        · exact h.1 c (by omega)
      · intro h
        exact ⟨fun c hc => h c (by omega), h m (by omega)⟩
  exact key 7 (Nat.le_refl _)
theorem ah_cval (hB : av_B A N B S M) (h1 : B ^ 10 * S < 2 ^ 63) (h2 : B ^ 10 * S * M < 2 ^ 63) (hY : ag_Y A N Y) (hF : ∀ i, i < 7 → (F i).toInt = f i) : cl_val Y F = Int64.ofInt (ah_st A N f 7) := by
  have h := ah_cst A N f hB h1 h2 hY hF (c := 7) (by omega)
  have ep : ph (av_E A N f) 7 7 = 7 := if_neg (by omega)
  rw [ep] at h
  exact h
theorem ah_cdou (hB : av_B A N B S M) (h1 : B ^ 10 * S < 2 ^ 63) (h2 : B ^ 10 * S * M < 2 ^ 63) (hY : ag_Y A N Y) (hF : ∀ i, i < 7 → (F i).toInt = f i) : cl_dou Y F = Int64.ofInt (ah_dou A N f) := by
  have key : ∀ m, m ≤ 7 → cl_db (cl_s Y) F (cl_go Y 7).1 m = Int64.ofInt (dsum (fun c => if pw (av_E A N f) c = true then - (f c * ah_st A N f (c + 8)) else 0) m) := by
    intro m
    induction m with
    | zero => intro _; rfl
    | succ m ih =>
      intro hm
      show (if cl_s Y m = true ∧ ¬ F m = 0 then cl_db (cl_s Y) F (cl_go Y 7).1 m - (F m).toInt64 * cl_st (cl_s Y) F (cl_go Y 7).1 m 7 else cl_db (cl_s Y) F (cl_go Y 7).1 m) = Int64.ofInt (dsum _ m + (if pw (av_E A N f) m = true then - (f m * ah_st A N f (m + 8)) else 0))
      rw [ag_s A N f hB h1 h2 hY (by omega), ih (by omega), Int64.ofInt_add]
      have z0 : Int64.ofInt 0 = 0 := rfl
      cases q : pw (av_E A N f) m with
      | true =>
        rw [if_pos (c := true = true) rfl]
        have ep : ph (av_E A N f) 7 m = m + 8 := if_pos ⟨by omega, q⟩
        by_cases e : F m = 0
        · rw [if_neg (fun z => z.2 e)]
          have hm0 := hF m (by omega)
          rw [e] at hm0
          have e0 : f m = 0 := by rw [← hm0]; rfl
          rw [e0, Int.zero_mul, Int.neg_zero, z0, Int64.add_zero]
        · rw [if_pos ⟨rfl, e⟩, ah_cst A N f hB h1 h2 hY hF (by omega), ep, i32_of, hF m (by omega), ← Int64.ofInt_mul, ← Int64.ofInt_sub, ← Int64.ofInt_add]
          congr 1
      | false =>
        rw [if_neg (fun z => absurd z.1 (by decide)), if_neg (by decide), z0, Int64.add_zero]
  exact key 7 (Nat.le_refl _)
theorem ah_csum (hB : av_B A N B S M) (h1 : B ^ 10 * S < 2 ^ 63) (h2 : B ^ 10 * S * M < 2 ^ 63) (hY : ag_Y A N Y) : (cl_sum Y).toInt = tx (av_E A N f) 7 7 7 := by
  have h := (ag_go A N f hB h1 h2 hY 7 (by omega)).1 7 7 (by omega) (by omega)
  have ep : ph (av_E A N f) 7 7 = 7 := if_neg (by omega)
  rw [ep] at h
  exact h
theorem ah_cby (hB : av_B A N B S M) (h1 : B ^ 10 * S < 2 ^ 63) (h2 : B ^ 10 * S * M < 2 ^ 63) (hY : ag_Y A N Y) : (cl_by Y).toInt = td (av_E A N f) 7 := (ag_go A N f hB h1 h2 hY 7 (by omega)).2.1
end AH
