/-! ===== what no race sees; ranks ===== -/
def nul (A : Nat → Nat → Int) (N : Nat) (z : Nat → Int) : Prop := ∀ q, q < N → dsum (fun i => A q i * z i) 7 = 0
theorem nul_lin {A : Nat → Nat → Int} {N : Nat} {z y : Nat → Int} (a b : Int) (hz : nul A N z) (hy : nul A N y) : nul A N (fun i => a * z i + b * y i) := fun q hq => by
  have e := dsum_4 (f := fun i => A q i * (a * z i + b * y i)) (f1 := fun i => A q i * z i) (f2 := fun i => A q i * y i) (f3 := fun _ => 0) (f4 := fun _ => 0) (a := a) (b := b) (c := 0) (e := 0) 7 (fun i _ => by grind)
  rw [e, hz q hq, hy q hq]; grind
section NU
variable (A : Nat → Nat → Int) (N : Nat) (f : Nat → Int)
theorem nul_pw {c : Nat} (hc : c < 7) : pw (av_E A N f) c = false ↔ ∃ z : Nat → Int, ¬ z c = 0 ∧ (∀ j, c < j → j < 7 → z j = 0) ∧ nul A N z := by
  constructor
  · intro w
    have hd := td_pos (av_E A N f) c
    have t0 : tx (av_E A N f) c c c = 0 := by
      have a := tx_npos _ w
      have b := (ax_psd A N f (c := c) (i := c) (by omega) (by omega)).1
      omega
    refine ⟨fun i => - tx (av_E A N f) c c (i + 8), ?_, fun j h1 h2 => ?_, fun q hq => ?_⟩
    · show ¬ - tx (av_E A N f) c c (c + 8) = 0
      have e := ax_vc A N f c c (by omega) (by omega) (fun z => absurd z (by omega)) c
      have e1 : av_E A N f c (c + 8) = -1 := by unfold av_E; rw [exE_vc (by omega) (by omega), if_pos rfl]
      rw [e1] at e; omega
    · show - tx (av_E A N f) c c (j + 8) = 0
      have e := ax_vc A N f c j (by omega) (by omega) (fun z => absurd z (by omega)) c
      have e1 : av_E A N f c (j + 8) = 0 := by unfold av_E; rw [exE_vc (by omega) (by omega), if_neg (by omega)]
      rw [e1] at e; omega
    · have e1 : tx (av_E A N f) c c (17 + q) = dsum (fun i => (- tx (av_E A N f) c c (i + 8)) * av_E A N f i (17 + q)) 7 + (- tx (av_E A N f) c c (7 + 8)) * av_E A N f 7 (17 + q) := ax_r A N f (x := c) (by omega) c (by omega) (17 + q)
      have e2 := ax_vc A N f c 7 (by omega) (by omega) (fun z => absurd z (by omega)) c
      have e3 : av_E A N f c (7 + 8) = 0 := by unfold av_E; rw [exE_vc (by omega) (by omega), if_neg (by omega)]
      rw [e3] at e2
      have e2' : tx (av_E A N f) c c (7 + 8) = 0 := by omega
      have g := ax_gram A N f (c := c) (i := c) (j := c) (by omega) (by omega) (by omega)
      rw [t0, Int.mul_zero] at g
      have u : tx (av_E A N f) c c (17 + q) = 0 := (dsum_sq (f := fun q => tx (av_E A N f) c c (17 + q)) N).2 g q hq
      have e5 : dsum (fun i => A q i * (- tx (av_E A N f) c c (i + 8))) 7 = dsum (fun i => (- tx (av_E A N f) c c (i + 8)) * av_E A N f i (17 + q)) 7 := dsum_congr 7 (fun i hi => by rw [av_q A N f (by omega)]; grind)
      rw [e2'] at e1
      show dsum (fun i => A q i * (- tx (av_E A N f) c c (i + 8))) 7 = 0
      omega
  · rintro ⟨z, h1, h2, h3⟩
    refine decide_eq_false (fun hp => ?_)
    have hp' : 0 < tx (av_E A N f) c c c := hp
    have r16 : ∀ x, x < 8 → av_E A N f 16 x = 0 := fun x hx => by unfold av_E exE; rw [if_neg (by omega), if_pos hx, if_neg (by omega)]
    have e1 := tx_lr (av_E A N f) (α := fun _ => 0) (m := 0) (C := fun i => i) (z := 16) (x := c) (fun x => x < 8) (fun c hc => hc) (fun x hx => r16 x hx) (by omega) c (by omega)
    have e2 := tx_lr (av_E A N f) (α := z) (m := 7) (C := fun i => i) (z := 16) (x := c) (fun x => x < 8) (fun c hc => hc) (fun x hx => by
      rw [r16 x hx]
      have e : dsum (fun i => z i * av_E A N f i x) 7 = dsum (fun i => dsum (fun q => A q x * (A q i * z i)) N) 7 := dsum_congr 7 (fun i hi => by
        rw [av_rr A N f (by omega) hx]
        show z i * dsum (fun q => A q i * A q x) N = _
        rw [← dsum_mul]
        exact dsum_congr N (fun q _ => by grind))
      rw [e, ← dsum_swap]
      exact (dsum_zero N (fun q hq => by
        show dsum (fun i => A q x * (A q i * z i)) 7 = 0
        rw [dsum_mul, h3 q hq]; omega)).symm) (by omega) c (by omega)
    have e3 : tx (av_E A N f) c 16 c = 0 := e1
    rw [e3, dsum_one (k := c) 7 hc (fun i hi ne => by
      show z i * tx (av_E A N f) c i c = 0
      by_cases q : i < c
      · cases w : pw (av_E A N f) i with
        | true => rw [(tx_z _ c i q w c).1]; omega
        | false => rw [ax_n A N f c i (by omega) q w c (by omega)]; omega
      · rw [h2 i (by omega) hi]; omega)] at e2
    have e4 : z c * tx (av_E A N f) c c c = 0 := e2.symm
    rcases Int.mul_eq_zero.mp e4 with q | q
    · exact h1 q
    · omega
/-- known is: whatever no race sees, the form doesn't see -/
theorem nul_kn (h7 : f 7 = 0) : (∀ c, c < 7 → pw (av_E A N f) c = false → tx (av_E A N f) 7 c 16 = 0) ↔ ∀ z, nul A N z → dsum (fun i => f i * z i) 7 = 0 := by
  constructor
  · intro hk z hz
    have hd := td_pos (av_E A N f) 7
    have key : ∀ j, j < 7 → td (av_E A N f) 7 * f j = dsum (fun i => if pw (av_E A N f) i = true then f i * dsum (fun q => tx (av_E A N f) 7 (i + 8) (17 + q) * A q j) N else 0) 7 := by
      intro j hj
      cases w : pw (av_E A N f) j with
      | true =>
        rw [dsum_one (k := j) 7 hj (fun i hi ne => by
          show (if pw (av_E A N f) i = true then f i * dsum (fun q => tx (av_E A N f) 7 (i + 8) (17 + q) * A q j) N else 0) = 0
          rw [au_v A N f (by omega) (by omega) (by omega), (tx_z _ 7 j hj w (i + 8)).2]
          have e1 : av_E A N f (i + 8) j = 0 := by unfold av_E; rw [exE_vr (by omega) (by omega), if_neg ne]
          rw [e1]; split <;> grind)]
        show _ = (if pw (av_E A N f) j = true then f j * dsum (fun q => tx (av_E A N f) 7 (j + 8) (17 + q) * A q j) N else 0)
        rw [w, if_pos rfl, au_v A N f (by omega) (by omega) (by omega), (tx_z _ 7 j hj w (j + 8)).2]
        have e1 : av_E A N f (j + 8) j = -1 := by unfold av_E; rw [exE_vr (by omega) (by omega), if_pos rfl]
        rw [e1]; grind
      | false =>
        have e16 := ah_16 A N f h7 hj w
        rw [hk j hj w] at e16
        have e : dsum (fun i => if pw (av_E A N f) i = true then f i * dsum (fun q => tx (av_E A N f) 7 (i + 8) (17 + q) * A q j) N else 0) 7 = ah_st A N f j := dsum_congr 7 (fun i hi => by
          cases w2 : pw (av_E A N f) i with
          | false => rw [if_neg (by decide), if_neg (by decide)]
          | true =>
            have ne : ¬ i = j := fun z => by rw [z, w] at w2; exact absurd w2 (by decide)
            have e1 : av_E A N f (i + 8) j = 0 := by unfold av_E; rw [exE_vr (by omega) (by omega), if_neg ne]
            rw [if_pos rfl, if_pos rfl, au_v A N f (by omega) (by omega) (by omega), e1]; grind)
        rw [e]
        have := Int.mul_comm (td (av_E A N f) 7) (f j)
        omega
    refine can (show ¬ td (av_E A N f) 7 = 0 by omega) ?_
    rw [← dsum_mul, Int.mul_zero]
    have e : dsum (fun i => td (av_E A N f) 7 * (f i * z i)) 7 = dsum (fun j => dsum (fun i => if pw (av_E A N f) i = true then f i * dsum (fun q => tx (av_E A N f) 7 (i + 8) (17 + q) * (A q j * z j)) N else 0) 7) 7 := dsum_congr 7 (fun j hj => by
      rw [← Int.mul_assoc, key j hj, Int.mul_comm, ← dsum_mul]
      refine dsum_congr 7 (fun i _ => ?_)
      cases w : pw (av_E A N f) i with
      | false => rw [if_neg (by decide), if_neg (by decide)]; omega
      | true =>
        rw [if_pos rfl, if_pos rfl]
        have : z j * (f i * dsum (fun q => tx (av_E A N f) 7 (i + 8) (17 + q) * A q j) N) = f i * (z j * dsum (fun q => tx (av_E A N f) 7 (i + 8) (17 + q) * A q j) N) := by grind
        rw [this, ← dsum_mul]
        congr 1
        exact dsum_congr N (fun q _ => by grind))
    rw [e, dsum_swap]
    refine dsum_zero 7 (fun i _ => ?_)
    cases w : pw (av_E A N f) i with
    | false => exact dsum_zero 7 (fun j _ => if_neg (by decide))
    | true =>
      have e2 : dsum (fun q => if true = true then f i * dsum (fun q_1 => tx (av_E A N f) 7 (i + 8) (17 + q_1) * (A q_1 q * z q)) N else 0) 7 = dsum (fun j => f i * dsum (fun q => tx (av_E A N f) 7 (i + 8) (17 + q) * (A q j * z j)) N) 7 := dsum_congr 7 (fun j _ => if_pos rfl)
      rw [e2, dsum_mul, ← dsum_swap, dsum_zero N (fun q hq => by
        show dsum (fun l => tx (av_E A N f) 7 (i + 8) (17 + q) * (A q l * z l)) 7 = 0
        rw [dsum_mul, hz q hq]; omega)]
      omega
  · intro h c hc w
    have e : tx (av_E A N f) 7 c 16 = dsum (fun i => (- f i) * tx (av_E A N f) 7 c (i + 8)) 7 + (- f 7) * tx (av_E A N f) 7 c (7 + 8) := ax_f A N f (by omega)
    have e2' : tx (av_E A N f) 7 c (7 + 8) = 0 := by
      have e2 := ax_vc A N f 7 7 (by omega) (by omega) (fun z => absurd z (by omega)) c
      have e3 : av_E A N f c (7 + 8) = 0 := by unfold av_E; rw [exE_vc (by omega) (by omega), if_neg (by omega)]
      rw [e3] at e2; omega
    have hz : nul A N (fun i => - tx (av_E A N f) 7 c (i + 8)) := by
      intro q hq
      have e1 : tx (av_E A N f) 7 c (17 + q) = dsum (fun i => (- tx (av_E A N f) 7 c (i + 8)) * av_E A N f i (17 + q)) 7 + (- tx (av_E A N f) 7 c (7 + 8)) * av_E A N f 7 (17 + q) := ax_r A N f (x := c) (by omega) 7 (by omega) (17 + q)
      have g := ax_gram A N f (c := 7) (i := c) (j := c) (by omega) (by omega) (by omega)
      rw [ax_n A N f 7 c (by omega) hc w c (by omega), Int.mul_zero] at g
      have u : tx (av_E A N f) 7 c (17 + q) = 0 := (dsum_sq (f := fun q => tx (av_E A N f) 7 c (17 + q)) N).2 g q hq
      have e5 : dsum (fun i => A q i * (- tx (av_E A N f) 7 c (i + 8))) 7 = dsum (fun i => (- tx (av_E A N f) 7 c (i + 8)) * av_E A N f i (17 + q)) 7 := dsum_congr 7 (fun i hi => by rw [av_q A N f (by omega)]; grind)
      rw [e2'] at e1
      show dsum (fun i => A q i * (- tx (av_E A N f) 7 c (i + 8))) 7 = 0
      omega
    have h0 := h _ hz
    have e6 : dsum (fun i => (- f i) * tx (av_E A N f) 7 c (i + 8)) 7 = dsum (fun i => f i * (- tx (av_E A N f) 7 c (i + 8))) 7 := dsum_congr 7 (fun i _ => by grind)
    rw [e2'] at e
    have h0' : dsum (fun i => f i * (- tx (av_E A N f) 7 c (i + 8))) 7 = 0 := h0
    omega
end NU
/-- the rank -/
def rk (A : Nat → Nat → Int) (N : Nat) : Nat := (pv (av_E A N (fun _ => 0)) 7).1
abbrev pz (A : Nat → Nat → Int) (N c : Nat) : Bool := pw (av_E A N (fun _ => 0)) c
def cnt (b : Nat → Bool) : Nat → Nat
  | 0 => 0
  | m + 1 => cnt b m + (if b m = true then 1 else 0)
theorem pv_cnt (E : Nat → Nat → Int) : ∀ m, (pv E m).1 = cnt (pw E) m
  | 0 => rfl
  | m + 1 => by
    unfold cnt
    cases w : pw E m with
    | true => rw [pv_p E w, if_pos rfl, ← pv_cnt E m]
    | false => rw [pv_n E w, if_neg (by decide), ← pv_cnt E m]; omega
theorem rk_cnt (A : Nat → Nat → Int) (N : Nat) : rk A N = cnt (pz A N) 7 := pv_cnt _ 7
theorem cnt_congr {b b' : Nat → Bool} : ∀ m, (∀ c, c < m → b c = b' c) → cnt b m = cnt b' m
  | 0, _ => rfl
  | m + 1, h => by unfold cnt; rw [cnt_congr m (fun c hc => h c (by omega)), h m (by omega)]
theorem cnt_le {b b' : Nat → Bool} : ∀ m, (∀ c, c < m → b c = true → b' c = true) → cnt b m ≤ cnt b' m ∧ (cnt b m = cnt b' m → ∀ c, c < m → b c = b' c)
  | 0, _ => ⟨Nat.le_refl _, fun _ c hc => absurd hc (by omega)⟩
  | m + 1, h => by
    obtain ⟨i1, i2⟩ := cnt_le m (fun c hc => h c (by omega))
    have hm := h m (by omega)
    unfold cnt
    cases e : b m with
    | true =>
      rw [hm e, if_pos rfl]
      exact ⟨by omega, fun z c hc => by by_cases q : c = m; (rw [q, e, hm e]); (exact i2 (by omega) c (by omega))⟩
    | false =>
      rw [if_neg (by decide)]
      cases e' : b' m with
      | true => rw [if_pos rfl]; exact ⟨by omega, fun z => by omega⟩
      | false => rw [if_neg (by decide)]; exact ⟨by omega, fun z c hc => by by_cases q : c = m; (rw [q, e, e']); (exact i2 (by omega) c (by omega))⟩
theorem cnt_one {b b' : Nat → Bool} {c0 : Nat} (h0 : b c0 = false) (h1 : b' c0 = true) (h : ∀ c, c < 7 → ¬ c = c0 → b c = b' c) : ∀ m, m ≤ 7 → cnt b' m = cnt b m + (if c0 < m then 1 else 0)
  | 0, _ => rfl
  | m + 1, hm => by
    have ih := cnt_one h0 h1 h m (by omega)
    unfold cnt
    rw [ih]
    by_cases e : m = c0
    · rw [e, h0, h1, if_neg (Nat.lt_irrefl _), if_pos rfl, if_neg (by decide), if_pos (by omega)]
    · rw [h m (by omega) e]
      by_cases q : c0 < m
      · rw [if_pos q, if_pos (show c0 < m + 1 by omega)]; omega
      · rw [if_neg q, if_neg (show ¬ c0 < m + 1 by omega)]; omega
section RK
variable {A A' : Nat → Nat → Int} {N N' : Nat}
theorem rk_sub (h : ∀ z, nul A' N' z → nul A N z) {c : Nat} (hc : c < 7) (w : pz A N c = true) : pz A' N' c = true := by
  cases e : pz A' N' c with
  | true => rfl
  | false =>
    obtain ⟨z, a, b, d⟩ := (nul_pw A' N' _ hc).mp e
    have := (nul_pw A N (fun _ => 0) hc).mpr ⟨z, a, b, h z d⟩
    have w' : pw (av_E A N (fun _ => 0)) c = true := w
    rw [this] at w'; exact absurd w' (by decide)
theorem rk_le (h : ∀ z, nul A' N' z → nul A N z) : rk A N ≤ rk A' N' := by
  rw [rk_cnt, rk_cnt]; exact (cnt_le 7 (fun c hc => rk_sub h hc)).1
theorem rk_eq (h : ∀ z, nul A' N' z ↔ nul A N z) : rk A N = rk A' N' := Nat.le_antisymm (rk_le (fun z => (h z).mp)) (rk_le (fun z => (h z).mpr))
/-- as many pivots, and one within the other: the same -/
theorem rk_nul (h : ∀ z, nul A' N' z → nul A N z) (e : rk A N = rk A' N') : ∀ z, nul A N z → nul A' N' z := by
  rw [rk_cnt, rk_cnt] at e
  have hp := (cnt_le 7 (fun c hc => rk_sub h hc)).2 e
  have key : ∀ m, m ≤ 7 → ∀ z, (∀ j, m ≤ j → j < 7 → z j = 0) → nul A N z → nul A' N' z := by
    intro m
    induction m with
    | zero =>
      intro _ z hz _ q _
      exact dsum_zero 7 (fun i hi => by rw [hz i (by omega) hi]; omega)
    | succ m ih =>
      intro hm z hz hn
      by_cases z0 : z m = 0
      · exact ih (by omega) z (fun j a b => by by_cases q : j = m; (rw [q]; exact z0); (exact hz j (by omega) b)) hn
      · have w : pz A N m = false := (nul_pw A N _ (by omega)).mpr ⟨z, z0, fun j a b => hz j (by omega) b, hn⟩
        rw [hp m (by omega)] at w
        obtain ⟨y, y0, yt, yn⟩ := (nul_pw A' N' _ (by omega)).mp w
        have hx := ih (by omega) (fun i => y m * z i + (- z m) * y i) (fun j a b => by
          show y m * z j + (- z m) * y j = 0
          by_cases q : j = m
          · rw [q]; grind
          · rw [hz j (by omega) b, yt j (by omega) b]; grind) (nul_lin _ _ hn (h y yn))
        intro q hq
        have h2 := hx q hq
        have e4 := dsum_4 (f := fun i => A' q i * (y m * z i + (- z m) * y i)) (f1 := fun i => A' q i * z i) (f2 := fun i => A' q i * y i) (f3 := fun _ => 0) (f4 := fun _ => 0) (a := y m) (b := - z m) (c := 0) (e := 0) 7 (fun i _ => by grind)
        rw [e4, yn q hq] at h2
        have h3 : y m * dsum (fun i => A' q i * z i) 7 = 0 := by grind
        rcases Int.mul_eq_zero.mp h3 with q1 | q1
        · exact absurd q1 y0
        · exact q1
  exact fun z hz => key 7 (Nat.le_refl _) z (fun j a b => absurd b (by omega)) hz
theorem nul_x {v : Nat → Int} {z : Nat → Int} : nul (av_x A N v) (N + 1) z ↔ nul A N z ∧ dsum (fun i => v i * z i) 7 = 0 := by
  constructor
  · intro h
    refine ⟨fun q hq => ?_, ?_⟩
    · have := h q (by omega)
      unfold av_x at this; rw [if_neg (by omega)] at this; exact this
    · have := h N (by omega)
      unfold av_x at this; rw [if_pos rfl] at this; exact this
  · rintro ⟨h1, h2⟩ q hq
    unfold av_x
    by_cases e : q = N
    · rw [if_pos e]; exact h2
    · rw [if_neg e]; exact h1 q (by omega)
/-- a form that isn't known makes the rank one more -/
theorem rk_up {v : Nat → Int} (hv : ¬ ∀ z, nul A N z → dsum (fun i => v i * z i) 7 = 0) : rk (av_x A N v) (N + 1) = rk A N + 1 := by
  obtain ⟨bad, hbad⟩ : ∃ bad : Nat → Prop, bad = fun c => ∃ z, nul A N z ∧ (∀ j, c ≤ j → j < 7 → z j = 0) ∧ ¬ dsum (fun i => v i * z i) 7 = 0 := ⟨_, rfl⟩
  have b7 : bad 7 := by
    rw [hbad]
    refine Classical.byContradiction (fun hn => hv (fun z hz => ?_))
    refine Classical.byContradiction (fun e => hn ⟨z, hz, fun j a b => absurd b (by omega), e⟩)
  have b0 : ¬ bad 0 := by
    rw [hbad]; rintro ⟨z, _, hz, e⟩
    exact e (dsum_zero 7 (fun i hi => by rw [hz i (by omega) hi]; omega))
  obtain ⟨c0, hc0, hb, hnb⟩ : ∃ c0, c0 < 7 ∧ bad (c0 + 1) ∧ ¬ bad c0 := by
    refine Classical.byContradiction (fun hn => b0 ?_)
    have down : ∀ d, d ≤ 7 → bad (7 - d) := by
      intro d
      induction d with
      | zero => intro _; exact b7
      | succ d ih =>
        intro hd
        refine Classical.byContradiction (fun e => hn ⟨7 - (d + 1), by omega, ?_, e⟩)
        have := ih (by omega)
        rw [show 7 - d = 7 - (d + 1) + 1 by omega] at this
        exact this
    exact down 7 (Nat.le_refl _)
  have hnb' := hnb
  rw [hbad] at hb hnb
  obtain ⟨z, zn, zt, zv⟩ := hb
  have zc : ¬ z c0 = 0 := fun e => hnb ⟨z, zn, fun j a b => by by_cases q : j = c0; (rw [q]; exact e); (exact zt j (by omega) b), zv⟩
  have dl : ∀ (a b : Int) (x y : Nat → Int), dsum (fun i => v i * (a * x i + b * y i)) 7 = a * dsum (fun i => v i * x i) 7 + b * dsum (fun i => v i * y i) 7 := fun a b x y => by
    have e4 := dsum_4 (f := fun i => v i * (a * x i + b * y i)) (f1 := fun i => v i * x i) (f2 := fun i => v i * y i) (f3 := fun _ => 0) (f4 := fun _ => 0) (a := a) (b := b) (c := 0) (e := 0) 7 (fun i _ => by grind)
    rw [e4]; grind
  have w0 : pz A N c0 = false := (nul_pw A N _ hc0).mpr ⟨z, zc, fun j a b => zt j (by omega) b, zn⟩
  have w1 : pz (av_x A N v) (N + 1) c0 = true := by
    cases e : pz (av_x A N v) (N + 1) c0 with
    | true => rfl
    | false =>
      exfalso
      obtain ⟨y, y0, yt, yn⟩ := (nul_pw _ _ _ hc0).mp e
      have yn' := nul_x.mp yn
      refine hnb ⟨fun i => y c0 * z i + (- z c0) * y i, nul_lin _ _ zn yn'.1, fun j a b => ?_, ?_⟩
      · show y c0 * z j + (- z c0) * y j = 0
        by_cases q : j = c0
        · rw [q]; grind
        · rw [zt j (by omega) b, yt j (by omega) b]; grind
      · rw [dl, yn'.2]
        intro h
        have h3 : y c0 * dsum (fun i => v i * z i) 7 = 0 := by grind
        rcases Int.mul_eq_zero.mp h3 with q1 | q1
        · exact y0 q1
        · exact zv q1
  have wo : ∀ c, c < 7 → ¬ c = c0 → pz A N c = pz (av_x A N v) (N + 1) c := by
    intro c hc ne
    cases e : pz A N c with
    | true => exact (rk_sub (fun z hz => (nul_x.mp hz).1) hc e).symm
    | false =>
      symm
      obtain ⟨y, y0, yt, yn⟩ := (nul_pw A N _ hc).mp e
      by_cases lt : c < c0
      · refine (nul_pw _ _ _ hc).mpr ⟨y, y0, yt, nul_x.mpr ⟨yn, ?_⟩⟩
        exact Classical.byContradiction (fun q => hnb ⟨y, yn, fun j a b => yt j (by omega) b, q⟩)
      · refine (nul_pw _ _ _ hc).mpr ⟨fun i => dsum (fun i => v i * z i) 7 * y i + (- dsum (fun i => v i * y i) 7) * z i, ?_, fun j a b => ?_, nul_x.mpr ⟨nul_lin _ _ yn zn, ?_⟩⟩
        · show ¬ dsum (fun i => v i * z i) 7 * y c + (- dsum (fun i => v i * y i) 7) * z c = 0
          rw [zt c (by omega) hc]
          intro h
          have h3 : dsum (fun i => v i * z i) 7 * y c = 0 := by grind
          rcases Int.mul_eq_zero.mp h3 with q1 | q1
          · exact zv q1
          · exact y0 q1
        · show dsum (fun i => v i * z i) 7 * y j + (- dsum (fun i => v i * y i) 7) * z j = 0
          rw [zt j (by omega) b, yt j a b]; grind
        · rw [dl]; grind
  rw [rk_cnt, rk_cnt, cnt_one w0 w1 wo 7 (Nat.le_refl _), if_pos hc0]
end RK
