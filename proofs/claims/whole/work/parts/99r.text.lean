/-! ===== texts: tokens of the class, places of the model ===== -/
theorem by_255 {b : Nat → Int32} (hb : sr_bytes b) (s n : Nat) (hn : n < 128) : b s &&& nI 255 = nI n ↔ b s = nI n := by
  have h := hb s
  have key : ∀ m : Nat, m < 256 → ((Int8.ofInt ((m : Int) - 128)).toInt32 &&& nI 255 = nI n ↔ (Int8.ofInt ((m : Int) - 128)).toInt32 = nI n) := by
    have all : (List.range 256).all (fun m => (List.range 128).all (fun n => decide ((Int8.ofInt ((m : Int) - 128)).toInt32 &&& nI 255 = nI n) == decide ((Int8.ofInt ((m : Int) - 128)).toInt32 = nI n))) = true := by decide +kernel
    intro m hm
    rw [List.all_eq_true] at all
    have h1 := all m (List.mem_range.mpr hm)
    rw [List.all_eq_true] at h1
    have h2 := eq_of_beq (h1 n (List.mem_range.mpr hn))
    exact decide_eq_decide.mp h2
  rw [← h]
  have l1 := Int8.le_toInt (b s).toInt8
  have l2 := Int8.toInt_lt (b s).toInt8
  have e : (b s).toInt8 = Int8.ofInt ((((b s).toInt8.toInt + 128).toNat : Int) - 128) := by
    rw [show ((((b s).toInt8.toInt + 128).toNat : Int) - 128) = (b s).toInt8.toInt by omega, Int8.ofInt_toInt]
  rw [e]
  exact key _ (by omega)
section TXT
variable {b : Nat → Int32} {L : Nat}
/-- a letter as a natural -/
theorem lt_nat {v : Int32} (h : sr_letter v = true) : ∃ d, 1 ≤ d ∧ d ≤ 26 ∧ v = nI (96 + d) := by
  obtain ⟨x, h1, h2, e⟩ := isIn_n (k := v) (a := 97) (b := 122) (by decide) (by omega) h
  exact ⟨x - 96, by omega, by omega, by rw [e]; congr 1; omega⟩
theorem wd_run (b : Nat → Int32) (L s : Nat) : ∀ j, s + j < sr_wend b L s → sr_letter (b (s + j)) = true := by
  have key : ∀ d s, L - s = d → ∀ j, s + j < sr_wend b L s → sr_letter (b (s + j)) = true := by
    intro d
    induction d with
    | zero =>
      intro s hd j hj
      have : sr_wend b L s = s := sr_scan_f (by omega)
      omega
    | succ d ih =>
      intro s hd j hj
      by_cases e : s < L ∧ sr_letter (b s) = true
      · by_cases j0 : j = 0
        · rw [j0]; exact e.2
        · have e2 : sr_wend b L s = sr_wend b L (s + 1) := sr_scan_t e.1 e.2
          rw [e2] at hj
          have := ih (s + 1) (by omega) (j - 1) (by rw [show s + 1 + (j - 1) = s + j by omega]; exact hj)
          rw [show s + 1 + (j - 1) = s + j by omega] at this; exact this
      · have : sr_wend b L s = s := sr_scan_f e
        omega
  exact key _ s rfl
/-- the number of a word, over naturals -/
def hN (d : Nat → Nat) : Nat → Nat
  | 0 => 0
  | j + 1 => 32 * hN d j + d j
theorem hN_lt {d : Nat → Nat} : ∀ m, (∀ i, i < m → d i ≤ 26) → hN d m < 32 ^ m
  | 0, _ => by show 0 < 1; omega
  | m + 1, h => by
    have ih := hN_lt m (fun i hi => h i (by omega))
    have hd := h m (by omega)
    show 32 * hN d m + d m < 32 ^ (m + 1)
    rw [Nat.pow_succ]; omega
theorem hash_nat {p m : Nat} {d : Nat → Nat} (hd : ∀ i, i < m → b (p + i) = nI (96 + d i)) (hm : m ≤ 5) : sr_hash b p m = nI (hN d m) := by
  induction m with
  | zero => rfl
  | succ m ih =>
    show (if m < 5 then nI 32 * sr_hash b p m + b (p + m) - nI 96 else nI 0) = _
    rw [if_pos (by omega), ih (fun i hi => hd i (by omega)) (by omega), hd m (by omega), pk_mul, nI_add, pk_sub (by omega)]
    congr 1
    show 32 * hN d m + (96 + d m) - 96 = 32 * hN d m + d m
    omega
theorem hash_long {p : Nat} : ∀ m, 6 ≤ m → sr_hash b p m = nI 0
  | m + 1, h => by
    show (if m < 5 then _ else nI 0) = nI 0
    rw [if_neg (by omega)]
/-- a word is told by its number -/
theorem wd_is {s : Nat} {w : List Nat} {N : Nat} (hN0 : 0 < N) (hNl : N < 2 ^ 31) (key : ∀ (m : Nat) (d : Nat → Nat), m ≤ 5 → (∀ i, i < m → 1 ≤ d i ∧ d i ≤ 26) → (hN d m = N ↔ (m = w.length ∧ ∀ i, i < m → 96 + d i = w.getD i 0))) (hw5 : w.length ≤ 5) (hw : ∀ i, i < w.length → w.getD i 0 < 128) : tk_is b s (sr_wend b L s) w = true ↔ sr_word b L s = nI N := by
  have hge := sr_wend_ge b L s
  have run := wd_run b L s
  obtain ⟨d, hd⟩ : ∃ d : Nat → Nat, ∀ i, s + i < sr_wend b L s → 1 ≤ d i ∧ d i ≤ 26 ∧ b (s + i) = nI (96 + d i) := by
    refine ⟨fun i => if h : s + i < sr_wend b L s then Classical.choose (lt_nat (run i h)) else 0, fun i h => ?_⟩
    dsimp only
    rw [dif_pos h]; exact Classical.choose_spec (lt_nat (run i h))
  generalize hm : sr_wend b L s - s = m at *
  unfold sr_word
  rw [hm]
  unfold tk_is
  rw [hm, Bool.and_eq_true, decide_eq_true_iff, List.all_eq_true]
  by_cases h5 : m ≤ 5
  · rw [hash_nat (fun i hi => (hd i (by omega)).2.2) h5]
    have lt := hN_lt (d := d) m (fun i hi => (hd i (by omega)).2.1)
    have lt2 : 32 ^ m ≤ 32 ^ 5 := Nat.pow_le_pow_right (by omega) h5
    have e5 : (32 : Nat) ^ 5 = 33554432 := by decide
    rw [nI_eq (by omega) hNl, key m d h5 (fun i hi => ⟨(hd i (by omega)).1, (hd i (by omega)).2.1⟩)]
    constructor
    · rintro ⟨a, c⟩
      refine ⟨a, fun i hi => ?_⟩
      have := of_decide_eq_true (c i (List.mem_range.mpr (by omega)))
      rw [(hd i (by omega)).2.2] at this
      have hwi := hw i (by omega)
      have h26 := (hd i (by omega)).2.1
      exact (nI_eq (by omega) (by omega)).mp this
    · rintro ⟨a, c⟩
      refine ⟨a, fun i hi => decide_eq_true ?_⟩
      have hi' := List.mem_range.mp hi
      rw [(hd i (by omega)).2.2, c i (by omega)]
  · rw [hash_long m (by omega)]
    constructor
    · rintro ⟨a, _⟩; omega
    · intro h
      have := (nI_eq (a := 0) (b := N) (by omega) hNl).mp h
      omega
theorem wd_crew {s : Nat} : tk_is b s (sr_wend b L s) [99, 114, 101, 119] = true ↔ sr_word b L s = nI 116919 := by
  refine wd_is (N := 116919) (by decide) (by decide) (fun m d hm hd => ?_) (by decide) (by decide)
  have o : m = 0 ∨ m = 1 ∨ m = 2 ∨ m = 3 ∨ m = 4 ∨ m = 5 := by omega
  rcases o with rfl | rfl | rfl | rfl | rfl | rfl <;> simp only [hN, List.length_cons, List.length_nil]
  · omega
  · have a0 := hd 0 (by omega); omega
  · have a0 := hd 0 (by omega); have a1 := hd 1 (by omega); omega
  · have a0 := hd 0 (by omega); have a1 := hd 1 (by omega); have a2 := hd 2 (by omega); omega
  · have a0 := hd 0 (by omega); have a1 := hd 1 (by omega); have a2 := hd 2 (by omega); have a3 := hd 3 (by omega)
    constructor
    · intro e
      refine ⟨by trivial, fun i hi => ?_⟩
      have oi : i = 0 ∨ i = 1 ∨ i = 2 ∨ i = 3 := by omega
      rcases oi with rfl | rfl | rfl | rfl <;> simp <;> omega
    · rintro ⟨_, c⟩
      have c0 := c 0 (by omega); have c1 := c 1 (by omega); have c2 := c 2 (by omega); have c3 := c 3 (by omega)
      simp at c0 c1 c2 c3
      omega
  · have a0 := hd 0 (by omega); have a1 := hd 1 (by omega); have a2 := hd 2 (by omega); have a3 := hd 3 (by omega); have a4 := hd 4 (by omega); omega
theorem wd_limit {s : Nat} : tk_is b s (sr_wend b L s) [108, 105, 109, 105, 116] = true ↔ sr_word b L s = nI 12891444 := by
  refine wd_is (N := 12891444) (by decide) (by decide) (fun m d hm hd => ?_) (by decide) (by decide)
  have o : m = 0 ∨ m = 1 ∨ m = 2 ∨ m = 3 ∨ m = 4 ∨ m = 5 := by omega
  rcases o with rfl | rfl | rfl | rfl | rfl | rfl <;> simp only [hN, List.length_cons, List.length_nil]
  · omega
  · have a0 := hd 0 (by omega); omega
  · have a0 := hd 0 (by omega); have a1 := hd 1 (by omega); omega
  · have a0 := hd 0 (by omega); have a1 := hd 1 (by omega); have a2 := hd 2 (by omega); omega
  · have a0 := hd 0 (by omega); have a1 := hd 1 (by omega); have a2 := hd 2 (by omega); have a3 := hd 3 (by omega); omega
  · have a0 := hd 0 (by omega); have a1 := hd 1 (by omega); have a2 := hd 2 (by omega); have a3 := hd 3 (by omega); have a4 := hd 4 (by omega)
    constructor
    · intro e
      refine ⟨by trivial, fun i hi => ?_⟩
      have oi : i = 0 ∨ i = 1 ∨ i = 2 ∨ i = 3 ∨ i = 4 := by omega
      rcases oi with rfl | rfl | rfl | rfl | rfl <;> simp <;> omega
    · rintro ⟨_, c⟩
      have c0 := c 0 (by omega); have c1 := c 1 (by omega); have c2 := c 2 (by omega); have c3 := c 3 (by omega); have c4 := c 4 (by omega)
      simp at c0 c1 c2 c3 c4
      omega
theorem wd_race {s : Nat} : tk_is b s (sr_wend b L s) [114, 97, 99, 101] = true ↔ sr_word b L s = nI 590949 := by
  refine wd_is (N := 590949) (by decide) (by decide) (fun m d hm hd => ?_) (by decide) (by decide)
  have o : m = 0 ∨ m = 1 ∨ m = 2 ∨ m = 3 ∨ m = 4 ∨ m = 5 := by omega
  rcases o with rfl | rfl | rfl | rfl | rfl | rfl <;> simp only [hN, List.length_cons, List.length_nil]
  · omega
  · have a0 := hd 0 (by omega); omega
  · have a0 := hd 0 (by omega); have a1 := hd 1 (by omega); omega
  · have a0 := hd 0 (by omega); have a1 := hd 1 (by omega); have a2 := hd 2 (by omega); omega
  · have a0 := hd 0 (by omega); have a1 := hd 1 (by omega); have a2 := hd 2 (by omega); have a3 := hd 3 (by omega)
    constructor
    · intro e
      refine ⟨by trivial, fun i hi => ?_⟩
      have oi : i = 0 ∨ i = 1 ∨ i = 2 ∨ i = 3 := by omega
      rcases oi with rfl | rfl | rfl | rfl <;> simp <;> omega
    · rintro ⟨_, c⟩
      have c0 := c 0 (by omega); have c1 := c 1 (by omega); have c2 := c 2 (by omega); have c3 := c 3 (by omega)
      simp at c0 c1 c2 c3
      omega
  · have a0 := hd 0 (by omega); have a1 := hd 1 (by omega); have a2 := hd 2 (by omega); have a3 := hd 3 (by omega); have a4 := hd 4 (by omega); omega
theorem wd_by {s : Nat} : tk_is b s (sr_wend b L s) [98, 121] = true ↔ sr_word b L s = nI 89 := by
  refine wd_is (N := 89) (by decide) (by decide) (fun m d hm hd => ?_) (by decide) (by decide)
  have o : m = 0 ∨ m = 1 ∨ m = 2 ∨ m = 3 ∨ m = 4 ∨ m = 5 := by omega
  rcases o with rfl | rfl | rfl | rfl | rfl | rfl <;> simp only [hN, List.length_cons, List.length_nil]
  · omega
  · have a0 := hd 0 (by omega); omega
  · have a0 := hd 0 (by omega); have a1 := hd 1 (by omega)
    constructor
    · intro e
      refine ⟨by trivial, fun i hi => ?_⟩
      have oi : i = 0 ∨ i = 1 := by omega
      rcases oi with rfl | rfl <;> simp <;> omega
    · rintro ⟨_, c⟩
      have c0 := c 0 (by omega); have c1 := c 1 (by omega)
      simp at c0 c1
      omega
  · have a0 := hd 0 (by omega); have a1 := hd 1 (by omega); have a2 := hd 2 (by omega); omega
  · have a0 := hd 0 (by omega); have a1 := hd 1 (by omega); have a2 := hd 2 (by omega); have a3 := hd 3 (by omega); omega
  · have a0 := hd 0 (by omega); have a1 := hd 1 (by omega); have a2 := hd 2 (by omega); have a3 := hd 3 (by omega); have a4 := hd 4 (by omega); omega
theorem wd_up {s : Nat} : tk_is b s (sr_wend b L s) [117, 112] = true ↔ sr_word b L s = nI 688 := by
  refine wd_is (N := 688) (by decide) (by decide) (fun m d hm hd => ?_) (by decide) (by decide)
  have o : m = 0 ∨ m = 1 ∨ m = 2 ∨ m = 3 ∨ m = 4 ∨ m = 5 := by omega
  rcases o with rfl | rfl | rfl | rfl | rfl | rfl <;> simp only [hN, List.length_cons, List.length_nil]
  · omega
  · have a0 := hd 0 (by omega); omega
  · have a0 := hd 0 (by omega); have a1 := hd 1 (by omega)
    constructor
    · intro e
      refine ⟨by trivial, fun i hi => ?_⟩
      have oi : i = 0 ∨ i = 1 := by omega
      rcases oi with rfl | rfl <;> simp <;> omega
    · rintro ⟨_, c⟩
      have c0 := c 0 (by omega); have c1 := c 1 (by omega)
      simp at c0 c1
      omega
  · have a0 := hd 0 (by omega); have a1 := hd 1 (by omega); have a2 := hd 2 (by omega); omega
  · have a0 := hd 0 (by omega); have a1 := hd 1 (by omega); have a2 := hd 2 (by omega); have a3 := hd 3 (by omega); omega
  · have a0 := hd 0 (by omega); have a1 := hd 1 (by omega); have a2 := hd 2 (by omega); have a3 := hd 3 (by omega); have a4 := hd 4 (by omega); omega
theorem wd_down {s : Nat} : tk_is b s (sr_wend b L s) [100, 111, 119, 110] = true ↔ sr_word b L s = nI 147182 := by
  refine wd_is (N := 147182) (by decide) (by decide) (fun m d hm hd => ?_) (by decide) (by decide)
  have o : m = 0 ∨ m = 1 ∨ m = 2 ∨ m = 3 ∨ m = 4 ∨ m = 5 := by omega
  rcases o with rfl | rfl | rfl | rfl | rfl | rfl <;> simp only [hN, List.length_cons, List.length_nil]
  · omega
  · have a0 := hd 0 (by omega); omega
  · have a0 := hd 0 (by omega); have a1 := hd 1 (by omega); omega
  · have a0 := hd 0 (by omega); have a1 := hd 1 (by omega); have a2 := hd 2 (by omega); omega
  · have a0 := hd 0 (by omega); have a1 := hd 1 (by omega); have a2 := hd 2 (by omega); have a3 := hd 3 (by omega)
    constructor
    · intro e
      refine ⟨by trivial, fun i hi => ?_⟩
      have oi : i = 0 ∨ i = 1 ∨ i = 2 ∨ i = 3 := by omega
      rcases oi with rfl | rfl | rfl | rfl <;> simp <;> omega
    · rintro ⟨_, c⟩
      have c0 := c 0 (by omega); have c1 := c 1 (by omega); have c2 := c 2 (by omega); have c3 := c 3 (by omega)
      simp at c0 c1 c2 c3
      omega
  · have a0 := hd 0 (by omega); have a1 := hd 1 (by omega); have a2 := hd 2 (by omega); have a3 := hd 3 (by omega); have a4 := hd 4 (by omega); omega
end TXT
