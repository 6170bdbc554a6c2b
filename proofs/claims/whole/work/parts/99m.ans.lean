/-! ===== the answers: class and model ===== -/
section AN
variable {now : Nat → Int32} {n r : Nat}
theorem an_w (h : sr_logOk now n r) : n + 1 ≤ 7 := by have := h.1.2.1; omega
theorem an_bpos (h : sr_logOk now n r) : 0 < md_b (n + 1) (md_P now n r) := by
  rw [← lq_b h, Int64.lt_iff_toInt_lt]; exact (lq_bpos h).1
theorem an_good (h : sr_logOk now n r) : md_good (n + 1) (md_P now n r) := md_good_b (an_w h) (an_bpos h)
theorem fo_1 {a b : Nat} {s m : Int32} (ha : a < 64) (hb : b < 64) (hs : sr_isIn s (-1) (nI 1) = true) : ∀ i, i < 7 → -1 ≤ (cl_form a b s m i).toInt ∧ (cl_form a b s m i).toInt ≤ 1 := by
  intro i hi
  have t' := sr_isIn_b hs
  have e3 : (-1 : Int32).toInt = -1 := rfl
  have e4 : (nI 1).toInt = 1 := rfl
  rw [e3, e4] at t'
  unfold cl_form
  by_cases e : i < 6
  · rw [if_pos e, fo_int ha hb e]
    have := fo_le (a := a) (k := i) ha e
    have := fo_le (a := b) (k := i) hb e
    omega
  · rw [if_neg e, if_pos (by omega)]; exact t'
theorem an_bd1 (h : sr_logOk now n r) {F : Nat → Int32} (hf : ∀ i, i < 7 → -1 ≤ (F i).toInt ∧ (F i).toInt ≤ 1) : cl_bd (cl_G now r) F := by
  have a := lq_val0 h hf
  have b := lq_dou0 h hf
  exact ⟨by omega, by omega⟩
theorem an_bd (h : sr_logOk now n r) : ∀ a b s, a < 64 → b < 64 → sr_isIn s (-1) (nI 1) = true → cl_bd (cl_G now r) (cl_form a b s (nI 0)) := fun _ _ _ ha hb hs => an_bd1 h (fo_1 ha hb hs)
theorem an_bnd (h : sr_logOk now n r) {F fm : Nat → Int32} (hf : fr_l n F fm) : md_bnd n r now fm := by
  have a := an_bd1 h hf.2.2
  unfold md_bnd
  rw [← lq_val h hf, ← lq_dou h hf]
  exact a
theorem an_tf (h : sr_logOk now n r) {F fm : Nat → Int32} (hf : fr_l n F fm) (d u : Int32) (db : Bool) (hd : db = !decide (d = 0)) : cl_tf (cl_G now r) F d u = md_ans n r now fm db u := by
  unfold cl_tf md_ans
  rw [lq_kn h hf, lq_val h hf, lq_dou h hf, lq_b h, (md_by_b (an_w h)).1]
  by_cases e : d = 0
  · have : db = false := by rw [hd, decide_eq_true e]; rfl
    rw [if_pos e, this, if_neg (c := false = true) (by decide)]
  · have : db = true := by rw [hd, decide_eq_false e]; rfl
    rw [if_neg e, this, if_pos (c := true = true) rfl]
/-- a race that was rowed is known -/
theorem fs_race {A : Nat → Nat → Int} {N : Nat} {f : Nat → Int} {q : Nat} (hq : q < N) (hf : ∀ i, i < 7 → f i = A q i) (h7 : f 7 = 0) {c : Nat} (hc : c < 7) (w : pw (av_E A N f) c = false) : tx (av_E A N f) 7 c 16 = 0 := by
  have e : tx (av_E A N f) 7 c 16 = dsum (fun i => (- f i) * tx (av_E A N f) 7 c (i + 8)) 7 + (- f 7) * tx (av_E A N f) 7 c 15 := ax_f A N f (by omega)
  have e1 : tx (av_E A N f) 7 c (17 + q) = dsum (fun i => (- tx (av_E A N f) 7 c (i + 8)) * av_E A N f i (17 + q)) 7 + (- tx (av_E A N f) 7 c 15) * av_E A N f 7 (17 + q) := ax_r A N f (x := c) (by omega) 7 (by omega) (17 + q)
  have e2 : tx (av_E A N f) 7 c 15 = 0 := by
    have := ax_vc A N f 7 7 (by omega) (by omega) (fun z => absurd z (by omega)) c
    have e3 : av_E A N f c (7 + 8) = 0 := by unfold av_E; rw [exE_vc (by omega) (by omega), if_neg (by omega)]
    rw [e3] at this
    have e4 : tx (av_E A N f) 7 c 15 = tx (av_E A N f) 7 c (7 + 8) := rfl
    omega
  have e5 : dsum (fun i => (- f i) * tx (av_E A N f) 7 c (i + 8)) 7 = dsum (fun i => (- tx (av_E A N f) 7 c (i + 8)) * av_E A N f i (17 + q)) 7 := dsum_congr 7 (fun i hi => by
    rw [av_q A N f (by omega), hf i hi]; grind)
  have z := ax_n A N f 7 c (by omega) hc w c (by omega)
  have g := ax_gram A N f (c := 7) (i := c) (j := c) (by omega) (by omega) (by omega)
  rw [z, Int.mul_zero] at g
  have u := (dsum_sq (f := fun q => tx (av_E A N f) 7 c (17 + q)) N).2 g q hq
  have u' : tx (av_E A N f) 7 c (17 + q) = 0 := u
  rw [e2] at e1
  rw [h7] at e
  omega
theorem an_race (h : sr_logOk now n r) {q : Nat} (hq : q < r) : md_kn (n + 1) (md_P now n r) (sr_l (sr_rform now n q)) = true := by
  have hf := lg_fr0 h hq
  have hH := fs_H _ _ n (lg_fs h) hf
  obtain ⟨τ, hI⟩ := mp_all (lA now) r (fr_f (cl_r0 now q)) n (lg_B h) lg_n.1 lg_n.2.1 (show (0 : Int) ≤ 1 by omega) (fs_f1 hf.2.2) lg_n.2.2 hH
  refine (mp_kn _ _ _ n hH hI).mpr (fun c hc w => fs_race hq (fun i hi => ?_) (if_neg (by omega)) hc w)
  unfold fr_f
  rw [if_pos hi]
  unfold lA cl_r0 cl_rf cl_form
  by_cases e : i < 6
  · rw [if_pos e, if_pos e]
  · rw [if_neg e, if_neg e, if_pos (by omega), if_pos (by omega)]
theorem an_rs (h : sr_logOk now n r) {q : Nat} (hq : q < r) : cl_rs now r q = md_rest n (md_P now n r) (md_S1 now n r) now q := by
  unfold cl_rs md_rest
  rw [an_race h hq, if_pos rfl, lq_b h, lq_val h (lg_fr0 h hq)]
theorem an_rs0 (h : sr_logOk now n r) {q : Nat} (hq : q < r) : -(24000000000 : Int) ≤ (cl_rs now r q).toInt ∧ (cl_rs now r q).toInt ≤ 24000000000 := by
  have v := lq_val0 h (lg_fr0 h hq).2.2
  have b := lq_bpos h
  have m := (lg_q h hq).2.2.2.2.2
  have p := pr_bd (x := (now (3 + 4 * q + 2)).toInt) (y := (cl_by (cl_G now r)).toInt) (a := 999) (b := 2985984) m ⟨by omega, b.2⟩ (by omega) (by omega)
  have e : cl_rs now r q = Int64.ofInt ((now (3 + 4 * q + 2)).toInt * (cl_by (cl_G now r)).toInt - (cl_val (cl_G now r) (cl_r0 now q)).toInt) := by
    unfold cl_rs
    rw [Int64.ofInt_sub, Int64.ofInt_mul, Int64.ofInt_toInt, Int64.ofInt_toInt, i32_of]
  rw [e, i64_small (by omega) (by omega)]
  omega
theorem an_su0 (h : sr_logOk now n r) (m : Nat) : ∀ q, q ≤ r → -((q : Int) * 24000000000) ≤ (cl_su now r m q).toInt ∧ (cl_su now r m q).toInt ≤ (q : Int) * 24000000000
  | 0, _ => by
    have e : (cl_su now r m 0).toInt = 0 := rfl
    rw [e]; omega
  | q + 1, hq => by
    have ih := an_su0 h m q (by omega)
    have rs := an_rs0 h (q := q) (by omega)
    have r12 := h.1.2.2.2
    unfold cl_su
    split
    · have e := sr_i64add (a := cl_su now r m q) (b := cl_rs now r q) (by omega) (by omega)
      rw [e]; omega
    · split
      · have e : (cl_su now r m q - cl_rs now r q).toInt = (cl_su now r m q).toInt - (cl_rs now r q).toInt := by
          rw [← Int64.ofInt_toInt (cl_su now r m q), ← Int64.ofInt_toInt (cl_rs now r q), ← Int64.ofInt_sub, Int64.ofInt_toInt, Int64.ofInt_toInt, i64_small (by omega) (by omega)]
        rw [e]; omega
      · omega
theorem an_su (h : sr_logOk now n r) (m : Nat) : -(2 ^ 63 : Int) < (cl_su now r m r).toInt := by
  have := an_su0 h m r (Nat.le_refl _)
  have r12 := h.1.2.2.2
  omega
theorem an_sui (h : sr_logOk now n r) {x y : Nat} (hx : x < n) (hy : y < n) : cl_su now r (cl_m2 x y) r = md_sui n r now x y r := su_eq h hx hy (fun _ hq => an_rs h hq) r (Nat.le_refl _)
/-- swaps of a rower with himself -/
theorem an_sw0 (h : sr_logOk now n r) {x : Nat} : (sr_swOut now r x x r).2 = 0 := by
  have hin : ∀ q, q < r → ∀ t a, t ≤ r → sr_swIn now x x q t a = a := by
    intro q hq t a
    induction t with
    | zero => intro _; rfl
    | succ t ih =>
      intro ht
      unfold sr_swIn
      rw [ih (by omega), if_neg (fun z => ?_)]
      have z2 := z.2
      unfold sr_swp at z2
      rw [Bool.and_eq_true, Bool.and_eq_true] at z2
      have c := (h.2 q hq).2.2.1
      rw [sw_dis c z2.1] at z2
      exact absurd z2.2.1 (by decide)
  have hout : ∀ q, q ≤ r → (sr_swOut now r x x q).2 = 0 := by
    intro q
    induction q with
    | zero => intro _; rfl
    | succ q ih => intro hq; unfold sr_swOut; rw [hin q (by omega) r _ (Nat.le_refl _)]; exact ih (by omega)
  exact hout r (Nat.le_refl _)
theorem an_swb (h : sr_logOk now n r) : ∀ x y, x < n → y < n → -(2 ^ 63 : Int) < (sr_swOut now r x y r).2.toInt := fun x y hx hy => by
  by_cases e : x = y
  · subst e; rw [an_sw0 h]; decide
  · exact sw_bnd h hx hy e
/-! rank, groups, couples -/
theorem an_z {Y : cl_T} {F : Nat → Int32} (hF : ∀ i, i < 7 → F i = 0) : cl_val Y F = 0 ∧ cl_dou Y F = 0 := by
  have st : ∀ c m, m ≤ 7 → cl_st (cl_s Y) F (cl_go Y 7).1 c m = 0 := by
    intro c m
    induction m with
    | zero => intro _; rfl
    | succ m ih =>
      intro hm
      unfold cl_st
      rw [ih (by omega), hF m (by omega)]
      split
      · have : (0 : Int32).toInt64 = 0 := rfl
        rw [this, Int64.zero_mul]; rfl
      · rfl
  refine ⟨st 7 7 (Nat.le_refl _), ?_⟩
  have db : ∀ m, m ≤ 7 → cl_db (cl_s Y) F (cl_go Y 7).1 m = 0 := by
    intro m
    induction m with
    | zero => intro _; rfl
    | succ m ih =>
      intro hm
      unfold cl_db
      rw [if_neg (fun z => z.2 (hF m (by omega)))]
      exact ih (by omega)
  exact db 7 (Nat.le_refl _)
theorem an_cf0 : ∀ i, i < 6 → ∀ k, k < 7 → cl_cf i i k = 0 := by decide +kernel
theorem an_ah0 {Y : cl_T} {i : Nat} (hi : i < 6) (t : Int32) : cl_ah Y i i t = false := by
  unfold cl_ah
  rw [(an_z (an_cf0 i hi)).1, (an_z (an_cf0 i hi)).2, Int64.mul_zero, decide_eq_true (Int64.le_refl 0)]
  cases cl_kn Y (cl_cf i i) <;> rfl
theorem an_lim (h : sr_logOk now n r) {F : Nat → Int32} (hf : ∀ i, i < 7 → -1 ≤ (F i).toInt ∧ (F i).toInt ≤ 1) {t : Int32} (ht : 0 ≤ t.toInt) : 0 ≤ (t.toInt64 * cl_dou (cl_G now r) F).toInt := by
  have d := lq_dou0 h hf
  have t2 := Int32.toInt_lt t
  have e : t.toInt64 * cl_dou (cl_G now r) F = Int64.ofInt (t.toInt * (cl_dou (cl_G now r) F).toInt) := by rw [Int64.ofInt_mul, Int64.ofInt_toInt, i32_of]
  have p := ml_le ht d.1 (show t.toInt ≤ 2 ^ 31 by omega) d.2
  have q := Int.mul_nonneg ht d.1
  rw [e, i64_small (by omega) (by omega)]
  exact q
theorem an_ah (h : sr_logOk now n r) {i j : Nat} (hi : i < n) (hj : j < n) (hl : 0 ≤ (now 1).toInt) : (cl_ah (cl_G now r) i j (nI 0) = true ↔ 0 < md_ah n (md_P now n r) (md_S1 now n r) (now 1) i j) ∧ (cl_ah (cl_G now r) i j (now 1) = true ↔ 1 < md_ah n (md_P now n r) (md_S1 now n r) (now 1) i j) := by
  have hf := fo_d h.1.2.1 hi hj
  have l := an_lim h hf.2.2 hl
  unfold cl_ah md_ah
  rw [lq_kn h hf, lq_val h hf, lq_dou h hf]
  rw [lq_dou h hf] at l
  have e0 : (nI 0).toInt64 = 0 := rfl
  rw [e0, Int64.zero_mul]
  generalize md_kn (n + 1) (md_P now n r) (sr_l (sr_dform i j)) = kn at *
  generalize md_val (n + 1) (md_P now n r) (md_S1 now n r) (sr_l (sr_dform i j)) = v at *
  generalize (now 1).toInt64 * md_dou (n + 1) (md_P now n r) (sr_l (sr_dform i j)) = w at *
  have z0 : (0 : Int64).toInt = 0 := rfl
  cases kn with
  | false =>
    rw [Bool.false_and, Bool.false_and, if_neg (fun z => absurd z.1 (by decide))]
    exact ⟨⟨fun z => absurd z (by decide), fun z => absurd z (by omega)⟩, ⟨fun z => absurd z (by decide), fun z => absurd z (by omega)⟩⟩
  | true =>
    rw [Bool.true_and, Bool.true_and]
    by_cases c : 0 < v
    · rw [if_pos ⟨rfl, c⟩]
      have c' := Int64.lt_iff_toInt_lt.mp c
      have n1 : ¬ v ≤ 0 := fun z => by have := Int64.le_iff_toInt_le.mp z; omega
      rw [decide_eq_false n1]
      refine ⟨⟨fun _ => by split <;> omega, fun _ => rfl⟩, ?_⟩
      by_cases d : w < v
      · have n2 : ¬ v ≤ w := fun z => by have := Int64.le_iff_toInt_le.mp z; have := Int64.lt_iff_toInt_lt.mp d; omega
        rw [if_pos d, decide_eq_false n2]; exact ⟨fun _ => by omega, fun _ => rfl⟩
      · have n2 : v ≤ w := by
          rw [Int64.le_iff_toInt_le]; rw [Int64.lt_iff_toInt_lt] at d; omega
        rw [if_neg d, decide_eq_true n2]; exact ⟨fun z => absurd z (by decide), fun z => absurd z (by omega)⟩
    · have n1 : v ≤ 0 := by rw [Int64.le_iff_toInt_le]; rw [Int64.lt_iff_toInt_lt] at c; omega
      have n2 : v ≤ w := by rw [Int64.le_iff_toInt_le] at n1 ⊢; omega
      rw [if_neg (fun z => c z.2), decide_eq_true n1, decide_eq_true n2]
      exact ⟨⟨fun z => absurd z (by decide), fun z => absurd z (by omega)⟩, ⟨fun z => absurd z (by decide), fun z => absurd z (by omega)⟩⟩
theorem an_bits : ∀ j, j < 6 → ∀ x, x < 2 ^ j → sr_bits (x ||| 1 * 2 ^ j) = sr_bits x + 1 := by decide +kernel
theorem an_th (h : sr_logOk now n r) {i : Nat} (hi : i < n) (hl : 0 ≤ (now 1).toInt) {k : Nat} (hk : k < 2) : ∀ m, m ≤ n → sr_bits (cl_th (cl_G now r) i (if k = 0 then nI 0 else now 1) m) = md_rc n (md_P now n r) (md_S1 now n r) (now 1) i k m
  | 0, _ => by show sr_bits 0 = 0; decide
  | m + 1, hm => by
    have ih := an_th h hi hl hk m (by omega)
    have hn := h.1.2.1
    have lt := cl_th_lt (Y := cl_G now r) (i := i) (t := if k = 0 then nI 0 else now 1) m
    have key : cl_ah (cl_G now r) m i (if k = 0 then nI 0 else now 1) = true ↔ (if k = 0 then 0 else 1) < (if m = i then 0 else if k = 2 then md_ah n (md_P now n r) (md_S1 now n r) (now 1) i m else md_ah n (md_P now n r) (md_S1 now n r) (now 1) m i) := by
      by_cases e : m = i
      · rw [if_pos e, e, an_ah0 (by omega)]
        exact ⟨fun z => absurd z (by decide), fun z => absurd z (by omega)⟩
      · rw [if_neg e, if_neg (show ¬ k = 2 by omega)]
        have a := an_ah h (i := m) (j := i) (by omega) hi hl
        by_cases e0 : k = 0
        · rw [if_pos e0, if_pos e0]; exact a.1
        · rw [if_neg e0, if_neg e0]; exact a.2
    unfold cl_th md_rc
    by_cases c : cl_ah (cl_G now r) m i (if k = 0 then nI 0 else now 1) = true
    · rw [if_pos c, if_pos (key.mp c), an_bits m (by omega) _ lt, ih]
    · rw [if_neg c, if_neg (fun z => c (key.mpr z)), ih, Nat.add_zero]
theorem an_be (h : sr_logOk now n r) {i : Nat} (hi : i < n) (hl : 0 ≤ (now 1).toInt) : ∀ m, m ≤ n → cl_be (cl_G now r) i (now 1) m = md_rc n (md_P now n r) (md_S1 now n r) (now 1) i 2 m
  | 0, _ => rfl
  | m + 1, hm => by
    have ih := an_be h hi hl m (by omega)
    have hn := h.1.2.1
    have key : cl_ah (cl_G now r) i m (now 1) = true ↔ (if 2 = 0 then 0 else 1) < (if m = i then 0 else if 2 = 2 then md_ah n (md_P now n r) (md_S1 now n r) (now 1) i m else md_ah n (md_P now n r) (md_S1 now n r) (now 1) m i) := by
      by_cases e : m = i
      · rw [if_pos e, e, an_ah0 (by omega)]
        exact ⟨fun z => absurd z (by decide), fun z => absurd z (by omega)⟩
      · rw [if_neg e, if_pos rfl]
        exact (an_ah h (i := i) (j := m) hi (by omega) hl).2
    unfold cl_be md_rc
    by_cases c : cl_ah (cl_G now r) i m (now 1) = true
    · rw [if_pos c, if_pos (key.mp c), ih]
    · rw [if_neg c, if_neg (fun z => c (key.mpr z)), ih, Nat.add_zero]
theorem an_gr (h : sr_logOk now n r) {i : Nat} (hi : i < n) : ∀ m, m ≤ n → cl_gr (cl_G now r) i m = md_gr n (md_P now n r) i m
  | 0, _ => rfl
  | m + 1, hm => by
    unfold cl_gr md_gr
    rw [an_gr h hi m (by omega), lq_kn h (fo_d h.1.2.1 hi (show m < n by omega))]
    split
    · rfl
    · rw [Nat.or_zero]
theorem an_gs (h : sr_logOk now n r) : ∀ m, m ≤ n → cl_gs (cl_G now r) n m = md_gs n (md_P now n r) m
  | 0, _ => rfl
  | m + 1, hm => by
    unfold cl_gs md_gs
    rw [an_gs h m (by omega), an_gr h (show m < n by omega) n (Nat.le_refl _), Nat.one_mul, Nat.and_two_pow_sub_one_eq_mod]
    split <;> rfl
/-- couples, over any races -/
theorem fs_cp {A : Nat → Nat → Int} {N n : Nat} {B M : Int} {Y : cl_T} {p : Nat → Int64} (hs : fs A N n Y p) (hB : av_B A N B 12 M) (hn : fs_n B M) {i : Nat} (hi : i < n) {a : Nat × Int64} : ∀ k, i + 1 + k ≤ n → cl_cp Y i k a = md_cp n p i k a
  | 0, _ => rfl
  | k + 1, hk => by
    have hf := fo_d hs.1 hi (show i + 1 + k < n by omega)
    unfold cl_cp md_cp
    rw [fs_cp hs hB hn hi k (by omega), fs_kn A N n hs hB hn hf, fs_dou A N n hs hB hn hf]
theorem fs_cs {A : Nat → Nat → Int} {N n : Nat} {B M : Int} {Y : cl_T} {p : Nat → Int64} (hs : fs A N n Y p) (hB : av_B A N B 12 M) (hn : fs_n B M) : ∀ i, i ≤ n → cl_cs Y n i = md_cs n p i
  | 0, _ => rfl
  | i + 1, hi => by
    unfold cl_cs md_cs
    rw [fs_cs hs hB hn i (by omega)]
    exact fs_cp hs hB hn (by omega) _ (by omega)
theorem an_z0 (h : sr_logOk now n r) : md_kn (n + 1) (md_P now n r) (sr_l (fun _ => nI 0)) = true := by
  rw [← lq_kn h (F := fun _ => nI 0) (fm := fun _ => nI 0) (fs_0 n)]
  have hb : ∀ c m, m ≤ 7 → cl_st (cl_s (cl_G now r)) (fun _ => nI 0) (cl_go (cl_G now r) 7).1 c m = 0 := by
    intro c m
    induction m with
    | zero => intro _; rfl
    | succ m ih =>
      intro hm
      unfold cl_st
      rw [ih (by omega)]
      split
      · have : (nI 0).toInt64 = 0 := rfl
        rw [this, Int64.zero_mul]; rfl
      · rfl
  unfold cl_kn
  have kb : ∀ m, cl_kb (cl_s (cl_G now r)) (fun _ => nI 0) (cl_go (cl_G now r) 7).1 (cl_go (cl_G now r) 7).2.1 m = true := by
    intro m
    induction m with
    | zero => rfl
    | succ m ih =>
      unfold cl_kb
      rw [ih, hb m 7 (Nat.le_refl _)]
      have : (nI 0).toInt64 = 0 := rfl
      rw [this, Int64.mul_zero, decide_eq_true (rfl : (0 : Int64) = 0)]
      cases cl_s (cl_G now r) m <;> rfl
  exact kb 7
theorem an_count (h : sr_logOk now n r) {D : sr_St} (hD : D.1 64 = now) {len : Int32} (hl : len = D.1 63 4) (w : Int32) : cl_count (cl_G now r) now n r len w = md_cnt n r D w := by
  unfold cl_count md_cnt
  rw [hD, hl, an_z0 h, fs_cs (lg_fs h) (lg_B h) lg_n n (Nat.le_refl _), an_gs h n (Nat.le_refl _), lq_r h, (md_by_b (an_w h)).2]
  rfl
theorem an_rank (h : sr_logOk now n r) (hl : 0 ≤ (now 1).toInt) {x : Nat} (hx : x < n) (w : Int32) : cl_rank (cl_G now r) now n x w = if sr_isIn w (nI 0) (nI 3) = true then (if w = nI 3 then nI (md_gr n (md_P now n r) x n) else nI (md_rc n (md_P now n r) (md_S1 now n r) (now 1) x w.toNatClampNeg n)) else -1 := by
  have hn := h.1.2.1
  have p2 := sr_pw hn
  have lt : ∀ t, cl_th (cl_G now r) x t n < 64 := fun t => by have := cl_th_lt (Y := cl_G now r) (i := x) (t := t) n; omega
  unfold cl_rank
  by_cases c0 : w = nI 0
  · rw [if_pos c0, c0, if_pos (by decide), if_neg (by decide), sr_bc_n _ (lt _)]
    have := an_th h hx hl (k := 0) (by omega) n (Nat.le_refl _)
    rw [if_pos rfl] at this
    rw [this]; rfl
  · rw [if_neg c0]
    by_cases c1 : w = nI 1
    · rw [if_pos c1, c1, if_pos (by decide), if_neg (by decide), sr_bc_n _ (lt _)]
      have := an_th h hx hl (k := 1) (by omega) n (Nat.le_refl _)
      rw [if_neg (by decide)] at this
      rw [this]; rfl
    · rw [if_neg c1]
      by_cases c2 : w = nI 2
      · rw [if_pos c2, c2, if_pos (by decide), if_neg (by decide), an_be h hx hl n (Nat.le_refl _)]; rfl
      · rw [if_neg c2]
        by_cases c3 : w = nI 3
        · rw [if_pos c3, c3, if_pos (by decide), if_pos rfl, an_gr h hx n (Nat.le_refl _)]
        · rw [if_neg c3]
          have hin : ¬ sr_isIn w (nI 0) (nI 3) = true := fun z => by
            have b := sr_isIn_b z
            have e0 : (nI 0).toInt = 0 := rfl
            have e3 : (nI 3).toInt = 3 := rfl
            have ne : ∀ k : Nat, k < 4 → ¬ w = nI k → ¬ w.toInt = k := fun k hk q e => q (Int32.toInt_inj.mp (by rw [e, nI_toInt (by omega)]))
            have := ne 0 (by omega) c0
            have := ne 1 (by omega) c1
            have := ne 2 (by omega) c2
            have := ne 3 (by omega) c3
            omega
          rw [if_neg hin]
end AN
