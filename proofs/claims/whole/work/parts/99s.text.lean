/-! ===== tokens and places ===== -/
section TK
variable {b : Nat → Int32} {L : Nat}
theorem tk_w0 {s : Nat} (h : ¬ (s < L ∧ sr_letter (b s) = true)) : sr_word b L s = nI 0 := by
  have e : sr_wend b L s = s := sr_scan_f h
  unfold sr_word; rw [e, Nat.sub_self]; rfl
theorem tk_nk_or (b : Nat → Int32) (L s : Nat) : tk_nk b L s = 1 ∨ tk_nk b L s = 10 := by
  unfold tk_nk; split
  · exact Or.inl rfl
  · exact Or.inr rfl
/-- the kind of a word, by its number -/
theorem tk_wk_eq {s : Nat} : tk_wk b s (sr_wend b L s) = if sr_word b L s = nI 116919 then 4 else if sr_word b L s = nI 12891444 then 5 else if sr_word b L s = nI 590949 then 6 else if sr_word b L s = nI 89 then 7 else if sr_word b L s = nI 688 then 8 else if sr_word b L s = nI 147182 then 9 else 10 := by
  unfold tk_wk
  simp only [wd_crew, wd_limit, wd_race, wd_by, wd_up, wd_down]
theorem tk_word {s k c : Nat} (hc : (k = 4 ∧ c = 116919) ∨ (k = 5 ∧ c = 12891444) ∨ (k = 6 ∧ c = 590949) ∨ (k = 7 ∧ c = 89) ∨ (k = 8 ∧ c = 688) ∨ (k = 9 ∧ c = 147182)) : tk_k b L s = k ↔ sr_word b L s = nI c := by
  by_cases h : s < L ∧ sr_letter (b s) = true
  · have e : tk_k b L s = tk_wk b s (sr_wend b L s) := (if_neg (by omega)).trans (if_pos h.2)
    rw [e, tk_wk_eq]
    have ne : ∀ x y : Nat, x < 2 ^ 31 → y < 2 ^ 31 → ¬ x = y → ¬ nI x = nI y := fun x y hx hy q z => q ((nI_eq hx hy).mp z)
    generalize sr_word b L s = w
    rcases hc with ⟨rfl, rfl⟩ | ⟨rfl, rfl⟩ | ⟨rfl, rfl⟩ | ⟨rfl, rfl⟩ | ⟨rfl, rfl⟩ | ⟨rfl, rfl⟩ <;> (repeat' split) <;> simp_all <;> (try (exact fun z => absurd z (by decide))) <;> (try decide)
  · have e0 := tk_w0 h
    rw [e0]
    have n0 : ¬ nI 0 = nI c := fun z => by
      have := (nI_eq (a := 0) (b := c) (by decide) (by omega)).mp z
      omega
    refine ⟨fun z => ?_, fun z => absurd z n0⟩
    exfalso
    unfold tk_k at z
    have o := tk_nk_or b L s
    by_cases h1 : L ≤ s
    · rw [if_pos h1] at z; omega
    · rw [if_neg h1] at z
      have hl : ¬ sr_letter (b s) = true := fun y => h ⟨by omega, y⟩
      rw [if_neg hl] at z
      split at z
      · omega
      · split at z
        · omega
        · split at z <;> omega
theorem tk_wde {s k : Nat} (h4 : 4 ≤ k) (h9 : k ≤ 9) (h : tk_k b L s = k) (v : Int32) : s < L ∧ tk_e b L s = sr_wend b L s ∧ tk_v b L s v = v := by
  have o := tk_nk_or b L s
  by_cases h1 : L ≤ s
  · unfold tk_k at h; rw [if_pos h1] at h; omega
  · by_cases hl : sr_letter (b s) = true
    · exact ⟨by omega, (if_neg h1).trans (if_pos hl), (if_neg h1).trans (if_pos hl)⟩
    · exfalso
      unfold tk_k at h
      rw [if_neg h1, if_neg hl] at h
      split at h
      · omega
      · split at h
        · omega
        · split at h <;> omega
theorem dig_nl {v : Int32} (h : sr_digit v = true) : sr_letter v = false ∧ ¬ v = nI 59 ∧ ¬ v = nI 58 := by
  obtain ⟨x, h1, h2, e⟩ := isIn_n (k := v) (a := 48) (b := 57) (by decide) (by omega) h
  have all : ∀ x, x < 58 → 48 ≤ x → (sr_letter (nI x) = false ∧ ¬ nI x = nI 59 ∧ ¬ nI x = nI 58) := by decide +kernel
  rw [e]; exact all x (by omega) h1
theorem min_nl : sr_letter (nI 45) = false ∧ sr_digit (nI 45) = false := by decide
/-- numbers -/
theorem num_of {s : Nat} (h : sr_isnum b L s = true) : s < L ∧ sr_letter (b s) = false ∧ (sr_digit (b s) = true ∨ b s = nI 45) := by
  unfold sr_isnum sr_dig at h
  rw [Bool.and_eq_true, decide_eq_true_iff] at h
  by_cases m : s < L ∧ b s = nI 45
  · exact ⟨m.1, by rw [m.2]; exact min_nl.1, Or.inr m.2⟩
  · have e : sr_dfst b L s = s := if_neg m
    rw [e] at h
    exact ⟨h.1, (dig_nl h.2).1, Or.inl h.2⟩
theorem num_iff {s : Nat} : sr_isnum b L s = true ↔ 1 ≤ sr_numE b L s - sr_dfst b L s := by
  constructor
  · intro h; have := sr_numE_le h; omega
  · intro h
    unfold sr_isnum sr_dig
    by_cases e : sr_dfst b L s < L ∧ sr_digit (b (sr_dfst b L s)) = true
    · rw [decide_eq_true e.1, e.2]; rfl
    · exfalso
      have : sr_numE b L s = sr_dfst b L s := sr_scan_f e
      omega
theorem num_k {s : Nat} (h : sr_isnum b L s = true) (v : Int32) : tk_k b L s = tk_nk b L s ∧ tk_v b L s v = sr_numR b L s ∧ tk_e b L s = sr_numA b L s := by
  have n := num_of h
  have nl : ¬ sr_letter (b s) = true := by rw [n.2.1]; decide
  refine ⟨(if_neg (by omega)).trans ((if_neg nl).trans (if_pos n.2.2)), ?_, ?_⟩
  · have e : tk_v b L s v = tk_nv b L s := (if_neg (by omega)).trans ((if_neg nl).trans (if_pos n.2.2))
    rw [e]; unfold tk_nv sr_numR; rw [if_pos h]
  · have e : tk_e b L s = sr_numE b L s := (if_neg (by omega)).trans ((if_neg nl).trans (if_pos n.2.2))
    rw [e]; unfold sr_numA; rw [if_pos h]
theorem tk_num {s : Nat} : tk_k b L s = 1 ↔ sr_numF b L s = 0 := by
  by_cases h : sr_isnum b L s = true
  · rw [(num_k h (nI 0)).1]
    have i := num_iff.mp h
    unfold tk_nk sr_numF
    rw [if_pos h]
    by_cases c : 3 < sr_numE b L s - sr_dfst b L s
    · rw [if_neg (by omega), if_pos c]; omega
    · rw [if_pos (by omega), if_neg c]; exact ⟨fun _ => rfl, fun _ => rfl⟩
  · have e : sr_numF b L s = 1 + 8 * s := if_neg h
    rw [e]
    refine ⟨fun z => ?_, fun z => absurd z (by omega)⟩
    exfalso
    unfold tk_k at z
    by_cases h1 : L ≤ s
    · rw [if_pos h1] at z; omega
    · rw [if_neg h1] at z
      split at z
      · unfold tk_wk at z; (repeat' split at z) <;> omega
      · split at z
        · unfold tk_nk at z
          rw [if_neg (fun y => h (num_iff.mpr y.1))] at z; omega
        · split at z
          · omega
          · split at z <;> omega
theorem numF_or {s : Nat} (h : ¬ sr_numF b L s = 0) : sr_numF b L s = 1 + 8 * s := by
  unfold sr_numF at h ⊢
  split
  · rename_i q
    rw [if_pos q] at h
    split
    · rfl
    · rename_i q2; rw [if_neg q2] at h; exact absurd rfl h
  · rfl
theorem num_is {s : Nat} (h : sr_numF b L s = 0) : sr_isnum b L s = true := by
  unfold sr_numF at h
  by_cases q : sr_isnum b L s = true
  · exact q
  · rw [if_neg q] at h; omega
theorem num_10 {s : Nat} (h : sr_isnum b L s = true) (h1 : ¬ sr_numF b L s = 0) : tk_k b L s = 10 := by
  have a := (num_k h (nI 0)).1
  have o := tk_nk_or b L s
  have z : ¬ tk_k b L s = 1 := fun z => h1 (tk_num.mp z)
  omega
/-- signs -/
theorem tk_sg (hb : sr_bytes b) {s : Nat} : (tk_k b L s = 2 ↔ sr_at1 b L s = nI 59) ∧ (tk_k b L s = 3 ↔ sr_at1 b L s = nI 58) ∧ ((tk_k b L s = 2 ∨ tk_k b L s = 3) → tk_e b L s = s + 1) := by
  unfold sr_at1
  by_cases h1 : s < L
  · rw [if_pos h1, by_255 hb s 59 (by decide), by_255 hb s 58 (by decide)]
    unfold tk_k tk_e
    rw [if_neg (show ¬ L ≤ s by omega), if_neg (show ¬ L ≤ s by omega)]
    by_cases hl : sr_letter (b s) = true
    · have n1 : ¬ b s = nI 59 := fun z => by rw [z] at hl; exact absurd hl (by decide)
      have n2 : ¬ b s = nI 58 := fun z => by rw [z] at hl; exact absurd hl (by decide)
      have w : ∀ k, k < 4 → ¬ tk_wk b s (sr_wend b L s) = k := fun k hk z => by unfold tk_wk at z; (repeat' split at z) <;> omega
      rw [if_pos hl, if_pos hl]
      exact ⟨⟨fun z => absurd z (w 2 (by omega)), fun z => absurd z n1⟩, ⟨fun z => absurd z (w 3 (by omega)), fun z => absurd z n2⟩, fun z => z.elim (fun z => absurd z (w 2 (by omega))) (fun z => absurd z (w 3 (by omega)))⟩
    · rw [if_neg hl, if_neg hl]
      by_cases hd : sr_digit (b s) = true ∨ b s = nI 45
      · have o := tk_nk_or b L s
        have n1 : ¬ b s = nI 59 := fun z => hd.elim (fun y => (dig_nl y).2.1 z) (fun y => by rw [z] at y; exact absurd y (by decide))
        have n2 : ¬ b s = nI 58 := fun z => hd.elim (fun y => (dig_nl y).2.2 z) (fun y => by rw [z] at y; exact absurd y (by decide))
        rw [if_pos hd, if_pos hd]
        exact ⟨⟨fun z => by omega, fun z => absurd z n1⟩, ⟨fun z => by omega, fun z => absurd z n2⟩, fun z => by omega⟩
      · rw [if_neg hd, if_neg hd]
        by_cases a : b s = nI 59
        · rw [if_pos a]
          exact ⟨⟨fun _ => a, fun _ => rfl⟩, ⟨fun z => by omega, fun z => by rw [a] at z; exact absurd z (by decide)⟩, fun _ => rfl⟩
        · rw [if_neg a]
          by_cases c : b s = nI 58
          · rw [if_pos c]; exact ⟨⟨fun z => by omega, fun z => absurd z a⟩, ⟨fun _ => c, fun _ => rfl⟩, fun _ => rfl⟩
          · rw [if_neg c]; exact ⟨⟨fun z => by omega, fun z => absurd z a⟩, ⟨fun z => by omega, fun z => absurd z c⟩, fun _ => rfl⟩
  · have e : tk_k b L s = 0 := if_pos (by omega)
    rw [if_neg h1, e]
    exact ⟨⟨fun z => by omega, fun z => absurd z (by decide)⟩, ⟨fun z => by omega, fun z => absurd z (by decide)⟩, fun z => by omega⟩
theorem tk_0 {s : Nat} : tk_k b L s = 0 ↔ ¬ s < L := by
  constructor
  · intro z h1
    unfold tk_k at z
    rw [if_neg (by omega)] at z
    split at z
    · unfold tk_wk at z; (repeat' split at z) <;> omega
    · split at z
      · have o := tk_nk_or b L s; omega
      · split at z
        · omega
        · split at z <;> omega
  · intro h; exact if_pos (by omega)
/-! crews -/
theorem cr_f {n other sc : Nat} : ∀ k crew f a r, ¬ f = 0 → sr_crewL b L n other sc k crew f a r = (crew, f, a, r)
  | 0, _, _, _, _, _ => rfl
  | k + 1, crew, f, a, r, h => if_neg h
theorem cr_bit : ∀ x, x < 6 → ∀ y, y < 64 → (y &&& (1 * 2 ^ x) = 0 ↔ ¬ y.testBit x = true) ∧ (¬ y.testBit x = true → sr_bits (y ||| 1 * 2 ^ x) = sr_bits y + 1 ∧ y ||| 1 * 2 ^ x < 64) := by
  have all : (List.range 6).all (fun x => (List.range 64).all (fun y => (decide (y &&& (1 * 2 ^ x) = 0) == !y.testBit x) && (y.testBit x || (decide (sr_bits (y ||| 1 * 2 ^ x) = sr_bits y + 1) && decide (y ||| 1 * 2 ^ x < 64))))) = true := by decide +kernel
  intro x hx y hy
  rw [List.all_eq_true] at all
  have h1 := all x (List.mem_range.mpr hx)
  rw [List.all_eq_true] at h1
  have h2 := h1 y (List.mem_range.mpr hy)
  rw [Bool.and_eq_true] at h2
  have h3 := eq_of_beq h2.1
  cases q : y.testBit x with
  | true =>
    rw [q] at h3
    exact ⟨⟨fun z => absurd (decide_eq_true z) (by rw [h3]; decide), fun z => absurd rfl z⟩, fun z => absurd rfl z⟩
  | false =>
    rw [q] at h3
    have h4 := h2.2
    rw [q, Bool.false_or, Bool.and_eq_true] at h4
    exact ⟨⟨fun _ => by decide, fun _ => of_decide_eq_true h3⟩, fun _ => ⟨of_decide_eq_true h4.1, of_decide_eq_true h4.2⟩⟩
theorem or_64 : ∀ x, x < 64 → ∀ y, y < 64 → x ||| y < 64 := by
  intro x hx y hy
  exact Nat.or_lt_two_pow (n := 6) hx hy
theorem or_bit {x y k : Nat} (h : ¬ (x ||| y).testBit k = true) : ¬ x.testBit k = true ∧ ¬ y.testBit k = true := by
  rw [Nat.testBit_or, Bool.or_eq_true] at h
  exact ⟨fun z => h (Or.inl z), fun z => h (Or.inr z)⟩
theorem row_n {n : Nat} {v : Int32} (hn : n ≤ 6) (h : sr_isIn v (nI 0) (nI n - nI 1) = true) : v.toNatClampNeg < 6 := by
  obtain ⟨x, hx, rfl⟩ := (sr_row_n hn).mp h
  rw [nI_clamp (by omega)]; omega
/-- what a crew's telling leaves: class and model -/
def cr_R (b : Nat → Int32) (L : Nat) (C : ts_C) (Mo : Nat × Nat × Nat × Nat) (fl : Nat) (ca cb : Nat) : Prop :=
  (Mo.2.1 = 0 → C.1 = true ∧ (∃ v a, a ≤ L + 1 ∧ C.2.1 = tkn b L v a ∧ sr_skip b L a = Mo.2.2.1) ∧ C.2.2.1 = fl ∧ C.2.2.2.1 = ca ∧ C.2.2.2.2 = cb) ∧ (¬ Mo.2.1 = 0 → (C.1 = false ∧ C.2.2.1 = Mo.2.1) ∨ (C.1 = true ∧ C.2.1.1 = 10 ∧ Mo.2.1 = 1 + 8 * C.2.1.2.1))
theorem cr_A {n : Nat} (hn : n ≤ 6) : ∀ k d crew other v a r fl, L + 2 ≤ k + a → a ≤ L + 1 → crew < 64 → other < 64 → sr_bits crew + d = 3 → cr_R b L (ts_cl b L n 1 (d + 1) (tkn b L v a) fl crew other) (sr_crewL b L n other 0 k crew 0 a r) fl (sr_crewL b L n other 0 k crew 0 a r).1 other := by
  intro k
  induction k with
  | zero =>
    intro d crew other v a r fl h1 h2 _ _ _
    exact absurd h1 (by omega)
  | succ k ih =>
    intro d crew other v a r fl h1 h2 h3 h4 h5
    have sl := sr_skip_le1 b h2
    have sg := sr_skip_ge b L a
    have em : sr_crewL b L n other 0 (k + 1) crew 0 a r = if sr_isnum b L (sr_skip b L a) = true then sr_crewL b L n other 0 k (sr_rowC b L (sr_skip b L a) n crew other 0) (sr_rowF b L (sr_skip b L a) n crew other 0) (sr_numA b L (sr_skip b L a)) (sr_skip b L a) else (crew, 0, sr_skip b L a, r) := if_pos rfl
    have ec : ∀ (d : Nat), ts_cl b L n 1 (d + 1) (tkn b L v a) fl crew other = if tk_k b L (sr_skip b L a) = 1 then (if sr_row n (tk_v b L (sr_skip b L a) v) = true then (if (crew ||| other) &&& (1 * 2 ^ (tk_v b L (sr_skip b L a) v).toNatClampNeg) = 0 then (if d = 0 then (false, tkn b L v a, 4 + 8 * sr_skip b L a, crew, other) else ts_cl b L n 1 d (tkn b L (tk_v b L (sr_skip b L a) v) (tk_e b L (sr_skip b L a))) fl (if 1 = 1 then crew ||| 1 * 2 ^ (tk_v b L (sr_skip b L a) v).toNatClampNeg else crew) (if 1 = 1 then other else other ||| 1 * 2 ^ (tk_v b L (sr_skip b L a) v).toNatClampNeg)) else (false, tkn b L v a, 3 + 8 * sr_skip b L a, crew, other)) else (false, tkn b L v a, 2 + 8 * sr_skip b L a, crew, other)) else (true, tkn b L v a, fl, crew, other) := fun _ => rfl
    rw [em, ec]
    generalize hs : sr_skip b L a = s at *
    by_cases hnum : sr_isnum b L s = true
    · rw [if_pos hnum]
      have nk := num_k hnum v
      have nl := sr_numE_le hnum
      have nA : sr_numA b L s = sr_numE b L s := if_pos hnum
      have df : s ≤ sr_dfst b L s := by unfold sr_dfst; split <;> omega
      by_cases h0 : sr_numF b L s = 0
      · rw [if_pos (tk_num.mpr h0), nk.2.1, nk.2.2]
        unfold sr_rowC
        have rF : sr_rowF b L s n crew other 0 = if ¬ sr_isIn (sr_numR b L s) (nI 0) (nI n - nI 1) = true then 2 + 8 * s else if (crew ||| other).testBit (sr_rowX b L s) = true then 3 + 8 * s else if sr_bits crew = 3 then 4 + 8 * s else 0 := if_neg (fun z => z h0)
        by_cases hr : sr_isIn (sr_numR b L s) (nI 0) (nI n - nI 1) = true
        · have hr' : sr_row n (sr_numR b L s) = true := hr
          rw [if_pos hr']
          have x6 := row_n hn hr
          have o64 := or_64 crew h3 other h4
          have cb1 := cr_bit (sr_numR b L s).toNatClampNeg x6 (crew ||| other) o64
          by_cases ht : (crew ||| other).testBit (sr_rowX b L s) = true
          · have eF : sr_rowF b L s n crew other 0 = 3 + 8 * s := rF.trans ((if_neg (fun z => z hr)).trans (if_pos ht))
            rw [if_neg (fun z => by exact (cb1.1.mp z) ht), eF, cr_f _ _ _ _ _ (by omega)]
            exact ⟨fun z => absurd z (by show ¬ 3 + 8 * s = 0; omega), fun _ => Or.inl ⟨rfl, rfl⟩⟩
          · have hz : (crew ||| other) &&& (1 * 2 ^ (sr_numR b L s).toNatClampNeg) = 0 := by exact cb1.1.mpr ht
            rw [if_pos hz]
            by_cases hd : d = 0
            · have eF : sr_rowF b L s n crew other 0 = 4 + 8 * s := rF.trans ((if_neg (fun z => z hr)).trans ((if_neg ht).trans (if_pos (by omega))))
              rw [if_pos hd, eF, cr_f _ _ _ _ _ (by omega)]
              exact ⟨fun z => absurd z (by show ¬ 4 + 8 * s = 0; omega), fun _ => Or.inl ⟨rfl, rfl⟩⟩
            · have eF : sr_rowF b L s n crew other 0 = 0 := rF.trans ((if_neg (fun z => z hr)).trans ((if_neg ht).trans (if_neg (by omega))))
              obtain ⟨e, rfl⟩ : ∃ e, d = e + 1 := ⟨d - 1, by omega⟩
              rw [if_neg hd, eF, if_pos rfl, if_pos rfl, if_pos rfl, nA]
              have cb2 := (cr_bit (sr_numR b L s).toNatClampNeg x6 crew h3).2 (or_bit ht).1
              exact ih e (crew ||| 1 * 2 ^ (sr_numR b L s).toNatClampNeg) other (sr_numR b L s) (sr_numE b L s) s fl (by omega) (by omega) cb2.2 h4 (by rw [cb2.1]; omega)
        · have hr' : ¬ sr_row n (sr_numR b L s) = true := hr
          have eF : sr_rowF b L s n crew other 0 = 2 + 8 * s := rF.trans (if_pos hr)
          rw [if_neg hr', eF, cr_f _ _ _ _ _ (by omega)]
          exact ⟨fun z => absurd z (by show ¬ 2 + 8 * s = 0; omega), fun _ => Or.inl ⟨rfl, rfl⟩⟩
      · have nF := numF_or h0
        have eF : sr_rowF b L s n crew other 0 = 1 + 8 * s := (if_pos h0).trans nF
        rw [if_neg (fun z => h0 (tk_num.mp z)), eF, cr_f _ _ _ _ _ (by omega)]
        refine ⟨fun z => absurd z (by show ¬ 1 + 8 * s = 0; omega), fun _ => Or.inr ⟨rfl, ?_, ?_⟩⟩
        · show tk_k b L (sr_skip b L a) = 10
          rw [hs]; exact num_10 hnum h0
        · show 1 + 8 * s = 1 + 8 * sr_skip b L a
          rw [hs]
    · rw [if_neg hnum, if_neg (fun z => hnum (num_is (tk_num.mp z)))]
      exact ⟨fun _ => ⟨rfl, ⟨v, a, h2, rfl, hs⟩, rfl, rfl, rfl⟩, fun z => absurd rfl z⟩
theorem cr_B {n : Nat} (hn : n ≤ 6) : ∀ k d crew other v a r fl, L + 2 ≤ k + a → a ≤ L + 1 → crew < 64 → other < 64 → sr_bits crew + d = sr_bits other → cr_R b L (ts_cl b L n 0 (d + 1) (tkn b L v a) fl other crew) (sr_crewL b L n other 1 k crew 0 a r) fl other (sr_crewL b L n other 1 k crew 0 a r).1 := by
  intro k
  induction k with
  | zero =>
    intro d crew other v a r fl h1 h2 _ _ _
    exact absurd h1 (by omega)
  | succ k ih =>
    intro d crew other v a r fl h1 h2 h3 h4 h5
    have sl := sr_skip_le1 b h2
    have sg := sr_skip_ge b L a
    have em : sr_crewL b L n other 1 (k + 1) crew 0 a r = if sr_isnum b L (sr_skip b L a) = true then sr_crewL b L n other 1 k (sr_rowC b L (sr_skip b L a) n crew other 1) (sr_rowF b L (sr_skip b L a) n crew other 1) (sr_numA b L (sr_skip b L a)) (sr_skip b L a) else (crew, 0, sr_skip b L a, r) := if_pos rfl
    have ec : ∀ (d : Nat), ts_cl b L n 0 (d + 1) (tkn b L v a) fl other crew = if tk_k b L (sr_skip b L a) = 1 then (if sr_row n (tk_v b L (sr_skip b L a) v) = true then (if (other ||| crew) &&& (1 * 2 ^ (tk_v b L (sr_skip b L a) v).toNatClampNeg) = 0 then (if d = 0 then (false, tkn b L v a, 4 + 8 * sr_skip b L a, other, crew) else ts_cl b L n 0 d (tkn b L (tk_v b L (sr_skip b L a) v) (tk_e b L (sr_skip b L a))) fl (if 0 = 1 then other ||| 1 * 2 ^ (tk_v b L (sr_skip b L a) v).toNatClampNeg else other) (if 0 = 1 then crew else crew ||| 1 * 2 ^ (tk_v b L (sr_skip b L a) v).toNatClampNeg)) else (false, tkn b L v a, 3 + 8 * sr_skip b L a, other, crew)) else (false, tkn b L v a, 2 + 8 * sr_skip b L a, other, crew)) else (true, tkn b L v a, fl, other, crew) := fun _ => rfl
    rw [em, ec]
    generalize hs : sr_skip b L a = s at *
    by_cases hnum : sr_isnum b L s = true
    · rw [if_pos hnum]
      have nk := num_k hnum v
      have nl := sr_numE_le hnum
      have nA : sr_numA b L s = sr_numE b L s := if_pos hnum
      have df : s ≤ sr_dfst b L s := by unfold sr_dfst; split <;> omega
      by_cases h0 : sr_numF b L s = 0
      · rw [if_pos (tk_num.mpr h0), nk.2.1, nk.2.2]
        unfold sr_rowC
        have rF : sr_rowF b L s n crew other 1 = if ¬ sr_isIn (sr_numR b L s) (nI 0) (nI n - nI 1) = true then 2 + 8 * s else if (crew ||| other).testBit (sr_rowX b L s) = true then 3 + 8 * s else if sr_bits crew = sr_bits other then 4 + 8 * s else 0 := if_neg (fun z => z h0)
        by_cases hr : sr_isIn (sr_numR b L s) (nI 0) (nI n - nI 1) = true
        · have hr' : sr_row n (sr_numR b L s) = true := hr
          rw [if_pos hr']
          have x6 := row_n hn hr
          have o64 := or_64 crew h3 other h4
          have cb1 := cr_bit (sr_numR b L s).toNatClampNeg x6 (crew ||| other) o64
          by_cases ht : (crew ||| other).testBit (sr_rowX b L s) = true
          · have eF : sr_rowF b L s n crew other 1 = 3 + 8 * s := rF.trans ((if_neg (fun z => z hr)).trans (if_pos ht))
            rw [if_neg (fun z => by rw [Nat.or_comm] at z; exact (cb1.1.mp z) ht), eF, cr_f _ _ _ _ _ (by omega)]
            exact ⟨fun z => absurd z (by show ¬ 3 + 8 * s = 0; omega), fun _ => Or.inl ⟨rfl, rfl⟩⟩
          · have hz : (other ||| crew) &&& (1 * 2 ^ (sr_numR b L s).toNatClampNeg) = 0 := by rw [Nat.or_comm]; exact cb1.1.mpr ht
            rw [if_pos hz]
            by_cases hd : d = 0
            · have eF : sr_rowF b L s n crew other 1 = 4 + 8 * s := rF.trans ((if_neg (fun z => z hr)).trans ((if_neg ht).trans (if_pos (by omega))))
              rw [if_pos hd, eF, cr_f _ _ _ _ _ (by omega)]
              exact ⟨fun z => absurd z (by show ¬ 4 + 8 * s = 0; omega), fun _ => Or.inl ⟨rfl, rfl⟩⟩
            · have eF : sr_rowF b L s n crew other 1 = 0 := rF.trans ((if_neg (fun z => z hr)).trans ((if_neg ht).trans (if_neg (by omega))))
              obtain ⟨e, rfl⟩ : ∃ e, d = e + 1 := ⟨d - 1, by omega⟩
              rw [if_neg hd, eF, if_pos rfl, if_neg (by decide), if_neg (by decide), nA]
              have cb2 := (cr_bit (sr_numR b L s).toNatClampNeg x6 crew h3).2 (or_bit ht).1
              exact ih e (crew ||| 1 * 2 ^ (sr_numR b L s).toNatClampNeg) other (sr_numR b L s) (sr_numE b L s) s fl (by omega) (by omega) cb2.2 h4 (by rw [cb2.1]; omega)
        · have hr' : ¬ sr_row n (sr_numR b L s) = true := hr
          have eF : sr_rowF b L s n crew other 1 = 2 + 8 * s := rF.trans (if_pos hr)
          rw [if_neg hr', eF, cr_f _ _ _ _ _ (by omega)]
          exact ⟨fun z => absurd z (by show ¬ 2 + 8 * s = 0; omega), fun _ => Or.inl ⟨rfl, rfl⟩⟩
      · have nF := numF_or h0
        have eF : sr_rowF b L s n crew other 1 = 1 + 8 * s := (if_pos h0).trans nF
        rw [if_neg (fun z => h0 (tk_num.mp z)), eF, cr_f _ _ _ _ _ (by omega)]
        refine ⟨fun z => absurd z (by show ¬ 1 + 8 * s = 0; omega), fun _ => Or.inr ⟨rfl, ?_, ?_⟩⟩
        · show tk_k b L (sr_skip b L a) = 10
          rw [hs]; exact num_10 hnum h0
        · show 1 + 8 * s = 1 + 8 * sr_skip b L a
          rw [hs]
    · rw [if_neg hnum, if_neg (fun z => hnum (num_is (tk_num.mp z)))]
      exact ⟨fun _ => ⟨rfl, ⟨v, a, h2, rfl, hs⟩, rfl, rfl, rfl⟩, fun z => absurd rfl z⟩
end TK
