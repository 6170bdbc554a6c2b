/-! ===== the log's races as vectors ===== -/
theorem fo_bit : ∀ a k, a < 64 → k < 6 → a / 2 ^ k &&& 1 = if a.testBit k = true then 1 else 0 := by
  have h : (List.range 64).all (fun a => (List.range 6).all (fun k => decide (a / 2 ^ k &&& 1 = if a.testBit k = true then 1 else 0))) = true := by decide +kernel
  intro a k ha hk
  rw [List.all_eq_true] at h
  have h1 := h a (List.mem_range.mpr ha)
  rw [List.all_eq_true] at h1
  exact of_decide_eq_true (h1 k (List.mem_range.mpr hk))
theorem fo_cnt : ∀ a, a < 64 → dsum (fun k => ((a / 2 ^ k &&& 1 : Nat) : Int)) 6 = (sr_bits a : Int) := by
  have h : (List.range 64).all (fun a => decide (dsum (fun k => ((a / 2 ^ k &&& 1 : Nat) : Int)) 6 = (sr_bits a : Int))) = true := by decide +kernel
  intro a ha
  rw [List.all_eq_true] at h
  exact of_decide_eq_true (h a (List.mem_range.mpr ha))
theorem fo_le {a k : Nat} (ha : a < 64) (hk : k < 6) : a / 2 ^ k &&& 1 ≤ 1 := by
  rw [fo_bit a k ha hk]; split <;> omega
theorem fo_int {a b k : Nat} (ha : a < 64) (hb : b < 64) (hk : k < 6) : (nI (a / 2 ^ k &&& 1) - nI (b / 2 ^ k &&& 1)).toInt = ((a / 2 ^ k &&& 1 : Nat) : Int) - ((b / 2 ^ k &&& 1 : Nat) : Int) := by
  have h1 := fo_le ha hk
  have h2 := fo_le hb hk
  generalize a / 2 ^ k &&& 1 = x at *
  generalize b / 2 ^ k &&& 1 = y at *
  have o1 : x = 0 ∨ x = 1 := by omega
  have o2 : y = 0 ∨ y = 1 := by omega
  rcases o1 with rfl | rfl <;> rcases o2 with rfl | rfl <;> decide
theorem fo_hi {a n k : Nat} (ha : a < 2 ^ n) (hk : n ≤ k) : a / 2 ^ k &&& 1 = 0 := by
  have : 2 ^ n ≤ 2 ^ k := Nat.pow_le_pow_right (by omega) hk
  rw [Nat.div_eq_of_lt (by omega)]; rfl
theorem fo_dis {a b k : Nat} (h : a &&& b = 0) : ¬ (a.testBit k = true ∧ b.testBit k = true) := by
  intro z
  have h1 : (a &&& b).testBit k = true := by rw [Nat.testBit_and, z.1, z.2]; rfl
  rw [h, Nat.zero_testBit] at h1
  exact absurd h1 (by decide)
/-- forms of matches and races: class and model -/
theorem fo_l {n a b : Nat} {t m : Int32} (hn : n ≤ 6) (ha : a < 2 ^ n) (hb : b < 2 ^ n) (hab : a &&& b = 0) (ht : -1 ≤ t.toInt ∧ t.toInt ≤ 1) : fr_l n (cl_form a b t m) (sr_form n a b t) := by
  have h64 := sr_pw hn
  refine ⟨fun i hi => ?_, fun i h1 h2 => ?_, fun i hi => ?_⟩
  · by_cases e : i = n
    · have ek : kp n i = 6 := if_pos e
      rw [ek]
      unfold sr_form cl_form
      rw [if_neg (by omega), if_pos e, if_neg (by omega), if_pos rfl]
    · have ek : kp n i = i := if_neg e
      rw [ek]
      have l : sr_form n a b t i = (if a.testBit i = true then nI 1 else if b.testBit i = true then -1 else nI 0) := if_pos (by omega)
      have r : cl_form a b t m i = nI (a / 2 ^ i &&& 1) - nI (b / 2 ^ i &&& 1) := if_pos (by omega)
      have d := fo_dis (k := i) hab
      rw [l, r, fo_bit a i (by omega) (by omega), fo_bit b i (by omega) (by omega)]
      cases x : a.testBit i <;> cases y : b.testBit i <;> first | decide | exact absurd ⟨x, y⟩ d
  · unfold cl_form
    rw [if_pos h2, fo_hi ha h1, fo_hi hb h1]; decide
  · unfold cl_form
    by_cases e : i < 6
    · rw [if_pos e, fo_int (by omega) (by omega) e]
      have := fo_le (a := a) (k := i) (by omega) e
      have := fo_le (a := b) (k := i) (by omega) e
      omega
    · rw [if_neg e, if_pos (by omega)]; exact ht
theorem fo_d {n i j : Nat} (hn : n ≤ 6) (hi : i < n) (hj : j < n) : fr_l n (cl_cf i j) (sr_dform i j) := by
  have h : (List.range 7).all (fun n => (List.range n).all (fun i => (List.range n).all (fun j => (List.range (n + 1)).all (fun k => decide (sr_dform i j k = cl_cf i j (kp n k))) && (List.range 6).all (fun k => decide (n ≤ k → cl_cf i j k = 0)) && (List.range 7).all (fun k => decide (-1 ≤ (cl_cf i j k).toInt ∧ (cl_cf i j k).toInt ≤ 1))))) = true := by decide +kernel
  rw [List.all_eq_true] at h
  have h1 := h n (List.mem_range.mpr (by omega))
  rw [List.all_eq_true] at h1
  have h2 := h1 i (List.mem_range.mpr hi)
  rw [List.all_eq_true] at h2
  have h3 := h2 j (List.mem_range.mpr hj)
  rw [Bool.and_eq_true, Bool.and_eq_true, List.all_eq_true, List.all_eq_true, List.all_eq_true] at h3
  exact ⟨fun k hk => of_decide_eq_true (h3.1.1 k (List.mem_range.mpr hk)), fun k a b => of_decide_eq_true (h3.1.2 k (List.mem_range.mpr b)) a, fun k hk => of_decide_eq_true (h3.2 k (List.mem_range.mpr hk))⟩
theorem fo_dr {n : Nat} (hn : n ≤ 6) : fr_l n (cl_form 0 0 (nI 1) (nI 0)) (sr_drform n) := by
  have h : (List.range 7).all (fun n => (List.range (n + 1)).all (fun k => decide (sr_drform n k = cl_form 0 0 (nI 1) (nI 0) (kp n k))) && (List.range 6).all (fun k => decide (n ≤ k → cl_form 0 0 (nI 1) (nI 0) k = 0)) && (List.range 7).all (fun k => decide (-1 ≤ (cl_form 0 0 (nI 1) (nI 0) k).toInt ∧ (cl_form 0 0 (nI 1) (nI 0) k).toInt ≤ 1))) = true := by decide +kernel
  rw [List.all_eq_true] at h
  have h3 := h n (List.mem_range.mpr (by omega))
  rw [Bool.and_eq_true, Bool.and_eq_true, List.all_eq_true, List.all_eq_true, List.all_eq_true] at h3
  exact ⟨fun k hk => of_decide_eq_true (h3.1.1 k (List.mem_range.mpr hk)), fun k a b => of_decide_eq_true (h3.1.2 k (List.mem_range.mpr b)) a, fun k hk => of_decide_eq_true (h3.2 k (List.mem_range.mpr hk))⟩
/-- the rowers of a form add up to 0 -/
theorem fo_sum {a b : Nat} {t m : Int32} (ha : a < 64) (hb : b < 64) (h : sr_bits a = sr_bits b) : dsum (fun i => (cl_form a b t m i).toInt) 6 = 0 := by
  have e := dsum_lin (f := fun i => (cl_form a b t m i).toInt) (g := fun k => ((b / 2 ^ k &&& 1 : Nat) : Int)) (h := fun k => ((a / 2 ^ k &&& 1 : Nat) : Int)) (x := -1) 6 (fun i hi => by
    show (cl_form a b t m i).toInt = _
    unfold cl_form
    rw [if_pos hi, fo_int ha hb hi]; omega)
  rw [e, fo_cnt a ha, fo_cnt b hb, h]; omega
def lA (now : Nat → Int32) : Nat → Nat → Int := fun q i => (cl_rf now q i).toInt
theorem sr_isIn_b {v lo hi : Int32} (h : sr_isIn v lo hi = true) : lo.toInt ≤ v.toInt ∧ v.toInt ≤ hi.toInt := by
  unfold sr_isIn at h
  rw [Bool.and_eq_true, decide_eq_true_iff, decide_eq_true_iff, Int32.le_iff_toInt_le, Int32.le_iff_toInt_le] at h
  exact h
section LG
variable {now : Nat → Int32} {n r : Nat} (h : sr_logOk now n r)
theorem lg_q (h : sr_logOk now n r) {q : Nat} (hq : q < r) : sr_ra now q < 2 ^ n ∧ sr_rb now q < 2 ^ n ∧ sr_ra now q &&& sr_rb now q = 0 ∧ sr_bits (sr_ra now q) = sr_bits (sr_rb now q) ∧ (-1 ≤ (now (3 + 4 * q + 3)).toInt ∧ (now (3 + 4 * q + 3)).toInt ≤ 1) ∧ -999 ≤ (now (3 + 4 * q + 2)).toInt ∧ (now (3 + 4 * q + 2)).toInt ≤ 999 := by
  obtain ⟨_, _, c, m, t⟩ := h.2 q hq
  have m' := sr_isIn_b m
  have t' := sr_isIn_b t
  simp only [sr_crewN, Bool.and_eq_true, decide_eq_true_eq] at c
  have e1 : (-999 : Int32).toInt = -999 := rfl
  have e2 : (nI 999).toInt = 999 := rfl
  have e3 : (-1 : Int32).toInt = -1 := rfl
  have e4 : (nI 1).toInt = 1 := rfl
  rw [e1, e2] at m'
  rw [e3, e4] at t'
  exact ⟨by omega, by omega, by omega, by omega, t', m'⟩
theorem lg_fr (h : sr_logOk now n r) {q : Nat} (hq : q < r) : fr_l n (cl_rf now q) (sr_rform now n q) := by
  have a := lg_q h hq
  exact fo_l h.1.2.1 a.1 a.2.1 a.2.2.1 a.2.2.2.2.1
theorem lg_fr0 (h : sr_logOk now n r) {q : Nat} (hq : q < r) : fr_l n (cl_r0 now q) (sr_rform now n q) := by
  have a := lg_q h hq
  exact fo_l h.1.2.1 a.1 a.2.1 a.2.2.1 a.2.2.2.2.1
theorem lA_7 {q i : Nat} (hi : 7 ≤ i) : lA now q i = (now (3 + 4 * q + 2)).toInt := by
  unfold lA cl_rf cl_form
  rw [if_neg (by omega), if_neg (by omega)]
theorem lA_b (h : sr_logOk now n r) {q : Nat} (hq : q < r) (i : Nat) : -999 ≤ lA now q i ∧ lA now q i ≤ 999 := by
  by_cases e : i < 7
  · have := (lg_fr h hq).2.2 i e
    unfold lA; omega
  · rw [lA_7 (by omega)]
    exact (lg_q h hq).2.2.2.2.2
theorem lA_1 (h : sr_logOk now n r) {q : Nat} (hq : q < r) {i : Nat} (hi : i < 7) : -1 ≤ lA now q i ∧ lA now q i ≤ 1 := (lg_fr h hq).2.2 i hi
theorem pr_bd {x y a b : Int} (hx : -a ≤ x ∧ x ≤ a) (hy : -b ≤ y ∧ y ≤ b) (ha : 0 ≤ a) (hb : 0 ≤ b) : -(a * b) ≤ x * y ∧ x * y ≤ a * b := by
  refine sq_le (Int.mul_nonneg ha hb) ?_
  have s1 : x * x ≤ a * a := by
    by_cases z : 0 ≤ x
    · exact ml_le z z (by omega) (by omega)
    · have := ml_le (show 0 ≤ -x by omega) (show 0 ≤ -x by omega) (show -x ≤ a by omega) (show -x ≤ a by omega)
      rw [Int.neg_mul_neg] at this; exact this
  have s2 : y * y ≤ b * b := by
    by_cases z : 0 ≤ y
    · exact ml_le z z (by omega) (by omega)
    · have := ml_le (show 0 ≤ -y by omega) (show 0 ≤ -y by omega) (show -y ≤ b by omega) (show -y ≤ b by omega)
      rw [Int.neg_mul_neg] at this; exact this
  have s3 := ml_le (sqn x) (sqn y) s1 s2
  have e1 : x * y * (x * y) = x * x * (y * y) := by grind
  have e2 : a * a * (b * b) = a * b * (a * b) := by grind
  omega
theorem av_bd {A : Nat → Nat → Int} {N i j : Nat} {a b : Int} (ha : 0 ≤ a) (hb : 0 ≤ b) (h1 : ∀ q, q < N → -a ≤ A q i ∧ A q i ≤ a) (h2 : ∀ q, q < N → -b ≤ A q j ∧ A q j ≤ b) : -((N : Int) * (a * b)) ≤ av_G A N i j ∧ av_G A N i j ≤ (N : Int) * (a * b) := dsum_bd N (fun q hq => pr_bd (h1 q hq) (h2 q hq) ha hb)
theorem cl_G_of (now : Nat → Int32) (i j : Nat) : ∀ r, cl_G now r i j = Int64.ofInt (av_G (lA now) r i j)
  | 0 => rfl
  | r + 1 => by
    show cl_G now r i j + (nI 1).toInt64 * (cl_rf now r i).toInt64 * (cl_rf now r j).toInt64 = Int64.ofInt (dsum (fun q => lA now q i * lA now q j) r + lA now r i * lA now r j)
    rw [cl_G_of now i j r, Int64.ofInt_add, Int64.ofInt_mul, i32_of (cl_rf now r i), i32_of (cl_rf now r j)]
    have e : (nI 1).toInt64 = 1 := rfl
    rw [e, Int64.one_mul]; rfl
theorem lg_12 (h : sr_logOk now n r) : (r : Int) * (999 * 999) ≤ 12 * (999 * 999) := by
  have := h.1.2.2.2
  omega
theorem lg_Y (h : sr_logOk now n r) : ag_Y (lA now) r (cl_G now r) := by
  intro i j
  rw [cl_G_of]
  have b := av_bd (A := lA now) (N := r) (i := i) (j := j) (a := 999) (b := 999) (by omega) (by omega) (fun q hq => lA_b h hq i) (fun q hq => lA_b h hq j)
  have := lg_12 h
  exact i64_small (by omega) (by omega)
theorem i32_mul {x y : Int32} (hx : -1 ≤ x.toInt ∧ x.toInt ≤ 1) (hy : -1 ≤ y.toInt ∧ y.toInt ≤ 1) : (x * y).toInt64 = Int64.ofInt (x.toInt * y.toInt) := by
  rw [i32_of, Int32.toInt_mul]
  congr 1
  have b := pr_bd (a := 1) (b := 1) hx hy (by omega) (by omega)
  exact Int.bmod_eq_of_le (by omega) (by omega)
theorem md_P_of (h : sr_logOk now n r) {i j : Nat} (hi : i < n + 1) (hj : j < n + 1) : ∀ m, m ≤ r → md_P now n m (7 * i + j) = Int64.ofInt (av_G (lA now) m (kp n i) (kp n j))
  | 0, _ => rfl
  | m + 1, hm => by
    have hn := h.1.2.1
    show sr_comesP (n + 1) (sr_rform now n m) (md_P now n m) (7 * i + j) = Int64.ofInt (dsum (fun q => lA now q (kp n i) * lA now q (kp n j)) m + lA now m (kp n i) * lA now m (kp n j))
    unfold sr_comesP
    have e1 : (7 * i + j) / 7 = i := by omega
    have e2 : (7 * i + j) % 7 = j := by omega
    have k7 : ∀ x, x < n + 1 → kp n x < 7 := fun x hx => by unfold kp; by_cases e : x = n; (rw [if_pos e]; omega); (rw [if_neg e]; omega)
    have fr := lg_fr h (q := m) (by omega)
    rw [e1, e2, if_pos ⟨hi, hj⟩, md_P_of h hi hj m (by omega), Int64.ofInt_add, fr.1 i hi, fr.1 j hj, i32_mul (fr.2.2 _ (k7 i hi)) (fr.2.2 _ (k7 j hj))]
    rfl
theorem lg_fs (h : sr_logOk now n r) : fs (lA now) r n (cl_G now r) (md_P now n r) := by
  refine ⟨h.1.2.1, fun q hq i a b => ?_, lg_Y h, fun i j hi hj => ?_⟩
  · unfold lA; rw [(lg_fr h hq).2.1 i a b]; rfl
  · rw [md_P_of h hi hj r (Nat.le_refl _)]
    have b := av_bd (A := lA now) (N := r) (i := kp n i) (j := kp n j) (a := 999) (b := 999) (by omega) (by omega) (fun q hq => lA_b h hq _) (fun q hq => lA_b h hq _)
    have := lg_12 h
    exact i64_small (by omega) (by omega)
theorem lg_B (h : sr_logOk now n r) : av_B (lA now) r 12 12 (12 * (999 * 999)) := by
  have r12 := h.1.2.2.2
  refine ⟨fun c hc => ?_, ?_, ?_, by omega, by omega, by omega, by omega, fun q hq => ?_⟩
  · have b := av_bd (A := lA now) (N := r) (i := c) (j := c) (a := 1) (b := 1) (by omega) (by omega) (fun q hq => lA_1 h hq (by omega)) (fun q hq => lA_1 h hq (by omega))
    omega
  · have b := av_bd (A := lA now) (N := r) (i := 6) (j := 6) (a := 1) (b := 1) (by omega) (by omega) (fun q hq => lA_1 h hq (by omega)) (fun q hq => lA_1 h hq (by omega))
    omega
  · have b := av_bd (A := lA now) (N := r) (i := 7) (j := 7) (a := 999) (b := 999) (by omega) (by omega) (fun q hq => lA_b h hq _) (fun q hq => lA_b h hq _)
    have := lg_12 h
    omega
  · have a := lg_q h hq
    have := sr_pw h.1.2.1
    exact fo_sum (by omega) (by omega) a.2.2.2.1
theorem lg_n : fs_n 12 (12 * (999 * 999)) := ⟨by decide, by decide, by decide⟩
theorem md_S_of (h : sr_logOk now n r) {k : Nat} (hk : k < n + 1) : ∀ m, m ≤ r → md_S1 now n m k = Int64.ofInt (av_G (lA now) m (kp n k) 7)
  | 0, _ => rfl
  | m + 1, hm => by
    show sr_comesS (n + 1) (sr_rform now n m) (now (3 + 4 * m + 2)) (md_S1 now n m) k = Int64.ofInt (dsum (fun q => lA now q (kp n k) * lA now q 7) m + lA now m (kp n k) * lA now m 7)
    unfold sr_comesS
    rw [if_pos hk, md_S_of h hk m (by omega), Int64.ofInt_add, (lg_fr h (q := m) (by omega)).1 k hk, i32_of, i32_of, ← Int64.ofInt_mul, lA_7 (q := m) (Nat.le_refl 7)]
    rfl
theorem lg_S (h : sr_logOk now n r) : ∀ k, k < n + 1 → (md_S1 now n r k).toInt = av_G (lA now) r (kp n k) 7 := fun k hk => by
  rw [md_S_of h hk r (Nat.le_refl _)]
  have b := av_bd (A := lA now) (N := r) (i := kp n k) (j := 7) (a := 999) (b := 999) (by omega) (by omega) (fun q hq => lA_b h hq _) (fun q hq => lA_b h hq _)
  have := lg_12 h
  exact i64_small (by omega) (by omega)
theorem lg_sq (h : sr_logOk now n r) : (md_sq now r).toInt = av_G (lA now) r 7 7 := by
  have e : md_sq now r = Int64.ofInt (av_G (lA now) r 7 7) := by
    unfold md_sq
    exact sumL_of r (fun q hq => by rw [i32_of, ← Int64.ofInt_mul, lA_7 (Nat.le_refl 7)])
  rw [e]
  have b := av_bd (A := lA now) (N := r) (i := 7) (j := 7) (a := 999) (b := 999) (by omega) (by omega) (fun q hq => lA_b h hq _) (fun q hq => lA_b h hq _)
  have := lg_12 h
  exact i64_small (by omega) (by omega)
/-- the answers of the log's fit: class and model -/
theorem lq_kn (h : sr_logOk now n r) {F fm : Nat → Int32} (hf : fr_l n F fm) : cl_kn (cl_G now r) F = md_kn (n + 1) (md_P now n r) (sr_l fm) := fs_kn _ _ n (lg_fs h) (lg_B h) lg_n hf
theorem lq_val (h : sr_logOk now n r) {F fm : Nat → Int32} (hf : fr_l n F fm) : cl_val (cl_G now r) F = md_val (n + 1) (md_P now n r) (md_S1 now n r) (sr_l fm) := fs_val _ _ n (lg_fs h) (lg_B h) lg_n hf (lg_S h)
theorem lq_dou (h : sr_logOk now n r) {F fm : Nat → Int32} (hf : fr_l n F fm) : cl_dou (cl_G now r) F = md_dou (n + 1) (md_P now n r) (sr_l fm) := fs_dou _ _ n (lg_fs h) (lg_B h) lg_n hf
theorem lq_b (h : sr_logOk now n r) : cl_by (cl_G now r) = md_b (n + 1) (md_P now n r) := fs_b _ _ n (lg_fs h) (lg_B h) lg_n
theorem lq_r (h : sr_logOk now n r) : (cl_go (cl_G now r) 7).2.2 = md_r (n + 1) (md_P now n r) := fs_r _ _ n (lg_fs h) (lg_B h) lg_n
theorem lq_bpos (h : sr_logOk now n r) : 0 < (cl_by (cl_G now r)).toInt ∧ (cl_by (cl_G now r)).toInt ≤ 2985984 := by
  have := fs_bpos _ _ n (lg_fs h) (lg_B h) lg_n
  exact ⟨this.1, by have e : (12 : Int) ^ 5 * 12 = 2985984 := by decide
                    rw [e] at this; exact this.2⟩
theorem lq_dou0 (h : sr_logOk now n r) {F : Nat → Int32} (hf : ∀ i, i < 7 → -1 ≤ (F i).toInt ∧ (F i).toInt ≤ 1) : 0 ≤ (cl_dou (cl_G now r) F).toInt ∧ (cl_dou (cl_G now r) F).toInt ≤ 146313216 := by
  have := fs_dou0 _ _ n (lg_fs h) (lg_B h) lg_n hf (by decide)
  have e : (49 : Int) * 12 ^ 6 = 146313216 := by decide
  rw [e] at this; exact this
theorem lq_val0 (h : sr_logOk now n r) {F : Nat → Int32} (hf : ∀ i, i < 7 → -1 ≤ (F i).toInt ∧ (F i).toInt ≤ 1) : -(21000000000 : Int) ≤ (cl_val (cl_G now r) F).toInt ∧ (cl_val (cl_G now r) F).toInt ≤ 21000000000 := fs_val0 _ _ n (lg_fs h) (lg_B h) lg_n hf (K := 3000000000) (by decide) (by decide) (by decide)
theorem lq_su (h : sr_logOk now n r) : cl_sum (cl_G now r) = md_su n r now := by
  have e := fs_su _ _ n (lg_fs h) (lg_B h) lg_n (lg_S h) (Φ := 12 * 999) (by decide) (fun i hi => by
    have b := av_bd (A := lA now) (N := r) (i := i) (j := 7) (a := 1) (b := 999) (by omega) (by omega) (fun q hq => lA_1 h hq hi) (fun q hq => lA_b h hq _)
    have := h.1.2.2.2
    omega) (by decide) (lg_sq h)
  unfold md_su
  rw [e.1, if_pos rfl]; exact e.2
theorem lq_su0 (h : sr_logOk now n r) : 0 ≤ (cl_sum (cl_G now r)).toInt := fs_sum0 _ _ n (lg_fs h) (lg_B h) lg_n
end LG
