/-! ===== swaps: the class's count is the model's ===== -/
def swc (i j A : Nat) : Bool := (i == j) || (((A &&& (1 * 2 ^ i ||| 1 * 2 ^ j)) == 1 * 2 ^ i) == (A.testBit i && !A.testBit j)) && (!(A.testBit i && !A.testBit j) || ((A ^^^ (1 * 2 ^ i ||| 1 * 2 ^ j)) == A - 1 * 2 ^ i + 1 * 2 ^ j) && (A ^^^ (1 * 2 ^ i ||| 1 * 2 ^ j)).testBit j && decide (A ^^^ (1 * 2 ^ i ||| 1 * 2 ^ j) < 64))
theorem swc_all : ((List.range 6).all fun i => (List.range 6).all fun j => (List.range 64).all fun A => swc i j A) = true := by decide +kernel
theorem swc_t {i j A : Nat} (hi : i < 6) (hj : j < 6) (hA : A < 64) : swc i j A = true :=
  List.all_eq_true.mp (List.all_eq_true.mp (List.all_eq_true.mp swc_all i (List.mem_range.mpr hi)) j (List.mem_range.mpr hj)) A (List.mem_range.mpr hA)
theorem sw1' (i : Nat) (hi : i < 6) (j : Nat) (hj : j < 6) (A : Nat) (hA : A < 64) (hij : ¬ i = j) : (A &&& (1 * 2 ^ i ||| 1 * 2 ^ j) = 1 * 2 ^ i) ↔ (A.testBit i = true ∧ A.testBit j = false) := by
  have h := swc_t hi hj hA
  unfold swc at h
  rw [show (i == j) = false from by simp [hij], Bool.false_or, Bool.and_eq_true] at h
  have h1 := eq_of_beq h.1
  rw [← beq_iff_eq (a := A &&& (1 * 2 ^ i ||| 1 * 2 ^ j)), h1, Bool.and_eq_true, Bool.not_eq_true']
theorem sw2' (i : Nat) (hi : i < 6) (j : Nat) (hj : j < 6) (A : Nat) (hA : A < 64) (hij : ¬ i = j) (h1 : A.testBit i = true) (h2 : A.testBit j = false) : A ^^^ (1 * 2 ^ i ||| 1 * 2 ^ j) = A - 1 * 2 ^ i + 1 * 2 ^ j ∧ (A ^^^ (1 * 2 ^ i ||| 1 * 2 ^ j)).testBit j = true ∧ A ^^^ (1 * 2 ^ i ||| 1 * 2 ^ j) < 64 := by
  have h := swc_t hi hj hA
  unfold swc at h
  rw [show (i == j) = false from by simp [hij], Bool.false_or, Bool.and_eq_true] at h
  have h3 := h.2
  rw [h1, h2, show (!(true && !false)) = false from rfl, Bool.false_or, Bool.and_eq_true, Bool.and_eq_true] at h3
  exact ⟨eq_of_beq h3.1.1, h3.1.2, of_decide_eq_true h3.2⟩
theorem sw3 : ∀ j, j < 6 → ∀ A, A < 64 → A.testBit j = true → 1 * 2 ^ j ≤ A := by decide +kernel
theorem sr_nI_xor {x y : Nat} : nI x ^^^ nI y = nI (x ^^^ y) := by
  apply Int32.toBitVec_inj.mp
  show BitVec.ofNat 32 x ^^^ BitVec.ofNat 32 y = BitVec.ofNat 32 (x ^^^ y)
  rw [BitVec.ofNat_xor]
/-- one side of it -/
theorem sw_side {i j A B : Nat} (hi : i < 6) (hj : j < 6) (hij : ¬ i = j) (hA : A < 64) (hB : B < 64) : (A &&& (1 * 2 ^ i ||| 1 * 2 ^ j) = 1 * 2 ^ i ∧ B = A ^^^ (1 * 2 ^ i ||| 1 * 2 ^ j)) ↔ (A.testBit i = true ∧ A.testBit j = false ∧ B.testBit j = true ∧ A - 1 * 2 ^ i = B - 1 * 2 ^ j) := by
  rw [sw1' i hi j hj A hA hij]
  constructor
  · rintro ⟨⟨h1, h2⟩, h3⟩
    have h4 := sw2' i hi j hj A hA hij h1 h2
    have h5 := sw3 i hi A hA h1
    rw [h3]
    exact ⟨h1, h2, h4.2.1, by rw [h4.1]; omega⟩
  · rintro ⟨h1, h2, h3, h4⟩
    have h5 := sw2' i hi j hj A hA hij h1 h2
    have h6 := sw3 j hj B hB h3
    exact ⟨⟨h1, h2⟩, by rw [h5.1]; omega⟩
theorem sw_dis {n x y i : Nat} (h : sr_crewN n x y = true) (hx : x.testBit i = true) : y.testBit i = false := by
  unfold sr_crewN at h
  simp only [Bool.and_eq_true, decide_eq_true_eq] at h
  have h1 := congrArg (fun z => z.testBit i) h.1.1.2
  simp only [Nat.testBit_and, Nat.zero_testBit, hx, Bool.true_and] at h1
  exact h1
theorem sw_dis2 {n x y i : Nat} (h : sr_crewN n x y = true) (hy : y.testBit i = true) : x.testBit i = false := by
  unfold sr_crewN at h
  simp only [Bool.and_eq_true, decide_eq_true_eq] at h
  have h1 := congrArg (fun z => z.testBit i) h.1.1.2
  simp only [Nat.testBit_and, Nat.zero_testBit, hy, Bool.and_true] at h1
  exact h1
theorem sw_eq {now : Nat → Int32} {n r p q i j : Nat} (hlo : sr_logOk now n r) (hp : p < r) (hq : q < r) (hi : i < n) (hj : j < n) (hij : ¬ i = j) : cl_swq now p q i j = sr_swp now p q i j := by
  have hn := hlo.1.2.1
  obtain ⟨p1, p2, p3, _, _⟩ := hlo.2 p hp
  obtain ⟨q1, q2, q3, _, _⟩ := hlo.2 q hq
  have hpl := sr_lo64 hlo hp
  have hql := sr_lo64 hlo hq
  have hm : 1 * 2 ^ i ||| 1 * 2 ^ j < 64 := Nat.or_lt_two_pow (n := 6) (by have : 2 ^ i ≤ 2 ^ 5 := Nat.pow_le_pow_right (by decide) (by omega); omega) (by have : 2 ^ j ≤ 2 ^ 5 := Nat.pow_le_pow_right (by decide) (by omega); omega)
  have hpi : 1 * 2 ^ i < 64 := by have : 2 ^ i ≤ 2 ^ 5 := Nat.pow_le_pow_right (by decide) (by omega); omega
  have hpj : 1 * 2 ^ j < 64 := by have : 2 ^ j ≤ 2 ^ 5 := Nat.pow_le_pow_right (by decide) (by omega); omega
  rw [Bool.eq_iff_iff]
  unfold cl_swq sr_cswap sr_swp
  simp only [Bool.and_eq_true, decide_eq_true_eq]
  rw [p1, p2, q1, q2]
  generalize sr_ra now p = A at *; generalize sr_rb now p = B at *; generalize sr_ra now q = A' at *; generalize sr_rb now q = B' at *
  have sA := sw_side (i := i) (j := j) (by omega) (by omega) hij hpl.1 hql.1
  have sB := sw_side (i := j) (j := i) (by omega) (by omega) (fun z => hij z.symm) hpl.2 hql.2
  rw [Nat.or_comm (1 * 2 ^ j) (1 * 2 ^ i)] at sB
  have xl : ∀ z, z < 64 → z ^^^ (1 * 2 ^ i ||| 1 * 2 ^ j) < 64 := fun z hz => Nat.xor_lt_two_pow (n := 6) hz hm
  rw [sr_nI_and, sr_nI_and, sr_nI_xor, sr_nI_xor, sr_nI_inj (Nat.lt_of_le_of_lt Nat.and_le_left (by omega)) (by omega), sr_nI_inj (Nat.lt_of_le_of_lt Nat.and_le_left (by omega)) (by omega), sr_nI_inj (by omega) (by have := xl A hpl.1; omega), sr_nI_inj (by omega) (by have := xl B hpl.2; omega)]
  constructor
  · rintro ⟨h1, h2, h3, h4, h5⟩
    obtain ⟨a1, a2, a3, a4⟩ := sA.mp ⟨h2, h4⟩
    obtain ⟨b1, b2, b3, b4⟩ := sB.mp ⟨h3, h5⟩
    exact ⟨a1, b1, a3, b3, h1, a4, b4⟩
  · rintro ⟨h1, h2, h3, h4, h5, h6, h7⟩
    obtain ⟨a1, a2⟩ := sA.mpr ⟨h1, sw_dis2 p3 h2, h3, h6⟩
    obtain ⟨b1, b2⟩ := sB.mpr ⟨h2, sw_dis p3 h1, h4, h7⟩
    exact ⟨h5, a1, b1, a2, b2⟩
theorem sw_self {now : Nat → Int32} {n r p i j : Nat} (hlo : sr_logOk now n r) (hp : p < r) (hi : i < n) (hj : j < n) (hij : ¬ i = j) : sr_swp now p p i j = false := by
  refine Bool.eq_false_iff.mpr (fun h => ?_)
  unfold sr_swp at h
  simp only [Bool.and_eq_true, decide_eq_true_eq] at h
  have h3 := (hlo.2 p hp).2.2.1
  have := sw_dis h3 h.1
  rw [h.2.2.2.1] at this
  exact absurd this (by decide)
theorem sw_mar {now : Nat → Int32} {n r p : Nat} (hlo : sr_logOk now n r) (hp : p < r) : -999 ≤ (now (3 + 4 * p + 2)).toInt ∧ (now (3 + 4 * p + 2)).toInt ≤ 999 := by
  have h := (hlo.2 p hp).2.2.2.1
  unfold sr_isIn at h
  simp only [Bool.and_eq_true, decide_eq_true_eq, Int32.le_iff_toInt_le] at h
  have e1 : (-999 : Int32).toInt = -999 := rfl
  have e2 : (nI 999).toInt = 999 := rfl
  omega
theorem sr_i32sub {a b : Int32} (h1 : -(2 ^ 31 : Int) ≤ a.toInt - b.toInt) (h2 : a.toInt - b.toInt < 2 ^ 31) : (a - b).toInt = a.toInt - b.toInt := by
  rw [Int32.toInt_sub]; exact Int.bmod_eq_of_le (by omega) (by omega)
theorem sr_i32add {a b : Int32} (h1 : -(2 ^ 31 : Int) ≤ a.toInt + b.toInt) (h2 : a.toInt + b.toInt < 2 ^ 31) : (a + b).toInt = a.toInt + b.toInt := by
  rw [Int32.toInt_add]; exact Int.bmod_eq_of_le (by omega) (by omega)
theorem sr_i64add {a b : Int64} (h1 : -(2 ^ 63 : Int) ≤ a.toInt + b.toInt) (h2 : a.toInt + b.toInt < 2 ^ 63) : (a + b).toInt = a.toInt + b.toInt := by
  rw [Int64.toInt_add]; exact Int.bmod_eq_of_le (by omega) (by omega)
/-- the same count, the same sum, within its bound -/
def sw_rel (c : Nat × Int32) (m : Nat × Int64) : Prop := c.1 = m.1 ∧ c.2.toInt64 = m.2 ∧ -(1998 * c.1 : Int) ≤ c.2.toInt ∧ c.2.toInt ≤ 1998 * c.1
theorem sw_in {now : Nat → Int32} {n r p i j : Nat} (hlo : sr_logOk now n r) (hp : p < r) (hi : i < n) (hj : j < n) (hij : ¬ i = j) {c : Nat × Int32} {m : Nat × Int64} (h : sw_rel c m) (hc : c.1 ≤ 144) : ∀ q, q ≤ r → sw_rel (cl_wi now i j p q c) (sr_swIn now i j p q m) := by
  have hr := hlo.1.2.2.2
  intro q
  induction q with
  | zero => intro _; exact h
  | succ q ih =>
    intro hq
    obtain ⟨h1, h2, h3, h4⟩ := ih (by omega)
    have hle := cl_wi_le (now := now) (i := i) (j := j) (p := p) (s := c) q
    have he := sw_eq hlo hp (show q < r by omega) hi hj hij
    have m1 := sw_mar hlo hp
    have m2 := sw_mar hlo (show q < r by omega)
    unfold cl_wi sr_swIn
    rw [he]
    by_cases e : sr_swp now p q i j = true
    · have hpq : ¬ p = q := fun z => by rw [← z, sw_self hlo hp hi hj hij] at e; exact absurd e (by decide)
      rw [if_pos e, if_pos ⟨hpq, e⟩]
      have d1 : (now (3 + 4 * p + 2) - now (3 + 4 * q + 2)).toInt = (now (3 + 4 * p + 2)).toInt - (now (3 + 4 * q + 2)).toInt := sr_i32sub (by omega) (by omega)
      have d2 : ((cl_wi now i j p q c).2 + (now (3 + 4 * p + 2) - now (3 + 4 * q + 2))).toInt = (cl_wi now i j p q c).2.toInt + (now (3 + 4 * p + 2) - now (3 + 4 * q + 2)).toInt := sr_i32add (by omega) (by omega)
      refine ⟨by show _ + 1 = _ + 1; rw [h1], ?_, ?_, ?_⟩
      · show ((cl_wi now i j p q c).2 + _).toInt64 = (sr_swIn now i j p q m).2 + _
        rw [← h2]
        apply Int64.toInt_inj.mp
        rw [Int32.toInt_toInt64, d2, sr_i64add (by rw [Int32.toInt_toInt64, Int32.toInt_toInt64]; omega) (by rw [Int32.toInt_toInt64, Int32.toInt_toInt64]; omega), Int32.toInt_toInt64, Int32.toInt_toInt64]
      · show -(1998 * (((cl_wi now i j p q c).1 + 1 : Nat) : Int)) ≤ ((cl_wi now i j p q c).2 + _).toInt
        omega
      · show ((cl_wi now i j p q c).2 + _).toInt ≤ 1998 * (((cl_wi now i j p q c).1 + 1 : Nat) : Int)
        omega
    · rw [if_neg e, if_neg (fun z => e z.2)]
      exact ⟨h1, h2, h3, h4⟩
theorem sw_out {now : Nat → Int32} {n r i j : Nat} (hlo : sr_logOk now n r) (hi : i < n) (hj : j < n) (hij : ¬ i = j) : ∀ p, p ≤ r → sw_rel (cl_wo now r i j p) (sr_swOut now r i j p) := by
  have hr := hlo.1.2.2.2
  intro p
  induction p with
  | zero => intro _; exact ⟨rfl, rfl, (show -(1998 * ((0 : Nat) : Int)) ≤ (0 : Int32).toInt by decide), (show (0 : Int32).toInt ≤ 1998 * ((0 : Nat) : Int) by decide)⟩
  | succ p ih =>
    intro hp
    have h1 := cl_wo_le (now := now) (r := r) (i := i) (j := j) p
    have h2 : p * r ≤ 12 * 12 := Nat.mul_le_mul (by omega) hr
    exact sw_in hlo (by omega) hi hj hij (ih (by omega)) (by omega) r (Nat.le_refl _)
/-- the answers are the same -/
theorem sw_ans {now : Nat → Int32} {n r i j k : Nat} (hlo : sr_logOk now n r) (hi : i < n) (hj : j < n) (hij : ¬ i = j) : cl_swa now r i j k = md_swa now r i j k := by
  obtain ⟨h1, h2, h3, h4⟩ := sw_out hlo hi hj hij r (Nat.le_refl _)
  unfold cl_swa md_swa
  rw [h1, h2]
theorem sw_bnd {now : Nat → Int32} {n r i j : Nat} (hlo : sr_logOk now n r) (hi : i < n) (hj : j < n) (hij : ¬ i = j) : -(2 ^ 63 : Int) < (sr_swOut now r i j r).2.toInt := by
  obtain ⟨h1, h2, h3, h4⟩ := sw_out hlo hi hj hij r (Nat.le_refl _)
  rw [← h2]; exact sr_i64lo
