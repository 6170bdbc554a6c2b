/-! ===== races that are only thought of ===== -/
def av_x (A : Nat → Nat → Int) (N : Nat) (v : Nat → Int) : Nat → Nat → Int := fun q => if q = N then v else A q
theorem av_xG (A : Nat → Nat → Int) (N : Nat) (v : Nat → Int) (i j : Nat) : av_G (av_x A N v) (N + 1) i j = av_G A N i j + v i * v j := by
  show dsum (fun q => av_x A N v q i * av_x A N v q j) N + av_x A N v N i * av_x A N v N j = _
  have e : dsum (fun q => av_x A N v q i * av_x A N v q j) N = av_G A N i j := dsum_congr N (fun q hq => by unfold av_x; rw [if_neg (by omega)])
  have e2 : av_x A N v N = v := if_pos rfl
  rw [e, e2]
def sys (A : Nat → Nat → Int) (N n : Nat) (Y : cl_T) (p : Nat → Int64) (B : Int) : Prop := fs A N n Y p ∧ av_B A N B 12 0 ∧ ∀ q, q < N → ∀ i, -1 ≤ A q i ∧ A q i ≤ 1
/-- a form without margin and stream -/
def fz (n : Nat) (F fm : Nat → Int32) : Prop := fr_l n F fm ∧ (∀ i, 6 ≤ i → F i = 0) ∧ dsum (fun i => (F i).toInt) 6 = 0
theorem fz_b {n : Nat} {F fm : Nat → Int32} (h : fz n F fm) (i : Nat) : -1 ≤ (F i).toInt ∧ (F i).toInt ≤ 1 := by
  by_cases e : i < 7
  · exact h.1.2.2 i e
  · rw [h.2.1 i (by omega)]; decide
theorem sys_x {A : Nat → Nat → Int} {N n : Nat} {Y : cl_T} {p : Nat → Int64} {B : Int} (hs : sys A N n Y p B) (hN : N < 100) {F fm : Nat → Int32} (hf : fz n F fm) : sys (av_x A N (fun i => (F i).toInt)) (N + 1) n (cl_inc (nI 1) F Y) (sr_comesP (n + 1) fm p) (B + 1) := by
  obtain ⟨⟨a1, a2, a3, a4⟩, ⟨b1, b2, b3, b4, b5, b6, b7, b8⟩, c⟩ := hs
  have ct : ∀ q, q < N + 1 → ∀ i, -1 ≤ av_x A N (fun i => (F i).toInt) q i ∧ av_x A N (fun i => (F i).toInt) q i ≤ 1 := by
    intro q hq i
    unfold av_x
    by_cases e : q = N
    · rw [if_pos e]; exact fz_b hf i
    · rw [if_neg e]; exact c q (by omega) i
  have bd : ∀ i j, -((N + 1 : Nat) : Int) ≤ av_G (av_x A N (fun i => (F i).toInt)) (N + 1) i j ∧ av_G (av_x A N (fun i => (F i).toInt)) (N + 1) i j ≤ ((N + 1 : Nat) : Int) := fun i j => by
    have := av_bd (A := av_x A N (fun i => (F i).toInt)) (N := N + 1) (i := i) (j := j) (a := 1) (b := 1) (by omega) (by omega) (fun q hq => ct q hq i) (fun q hq => ct q hq j)
    omega
  have k7 : ∀ x, x < n + 1 → kp n x < 7 := fun x hx => by unfold kp; by_cases e : x = n; (rw [if_pos e]; omega); (rw [if_neg e]; omega)
  refine ⟨⟨a1, fun q hq i h1 h2 => ?_, fun i j => ?_, fun i j hi hj => ?_⟩, ⟨fun i hi => ?_, ?_, ?_, by omega, b5, by omega, b7, fun q hq => ?_⟩, ct⟩
  · unfold av_x
    by_cases e : q = N
    · rw [if_pos e, hf.1.2.1 i h1 h2]; rfl
    · rw [if_neg e]; exact a2 q (by omega) i h1 h2
  · have b := bd i j
    have e : cl_inc (nI 1) F Y i j = Int64.ofInt (av_G (av_x A N (fun i => (F i).toInt)) (N + 1) i j) := by
      show Y i j + (nI 1).toInt64 * (F i).toInt64 * (F j).toInt64 = _
      have e1 : (nI 1).toInt64 = 1 := rfl
      rw [av_xG, Int64.ofInt_add, ← a3 i j, Int64.ofInt_toInt, e1, Int64.one_mul, i32_of, i32_of, ← Int64.ofInt_mul]
    rw [e, i64_small (by omega) (by omega)]
  · have b := bd (kp n i) (kp n j)
    have e : sr_comesP (n + 1) fm p (7 * i + j) = Int64.ofInt (av_G (av_x A N (fun i => (F i).toInt)) (N + 1) (kp n i) (kp n j)) := by
      unfold sr_comesP
      have e1 : (7 * i + j) / 7 = i := by omega
      have e2 : (7 * i + j) % 7 = j := by omega
      rw [e1, e2, if_pos ⟨hi, hj⟩, av_xG, Int64.ofInt_add, ← a4 i j hi hj, Int64.ofInt_toInt, hf.1.1 i hi, hf.1.1 j hj, i32_mul (hf.1.2.2 _ (k7 i hi)) (hf.1.2.2 _ (k7 j hj))]
    rw [e, i64_small (by omega) (by omega)]
  · rw [av_xG]
    have := pr_bd (fz_b hf i) (fz_b hf i) (by omega) (by omega)
    have := b1 i hi
    omega
  · rw [av_xG, hf.2.1 6 (by omega)]
    have e : (0 : Int32).toInt = 0 := rfl
    rw [e]; omega
  · rw [av_xG, hf.2.1 7 (by omega)]
    have e : (0 : Int32).toInt = 0 := rfl
    rw [e]; omega
  · unfold av_x
    by_cases e : q = N
    · rw [if_pos e]; exact hf.2.2
    · rw [if_neg e]; exact b8 q (by omega)
theorem mt_fz {n k a b : Nat} (hn : n ≤ 6) (h : sr_mt k a b = true) (ha : a < 2 ^ n) (hb : b < 2 ^ n) : fz n (cl_form a b (nI 0) (nI 0)) (sr_form n a b (nI 0)) := by
  have m := mt_fr hn h ha hb
  have := sr_pw hn
  refine ⟨m.1, fun i hi => ?_, fo_sum (by omega) (by omega) m.2⟩
  unfold cl_form
  rw [if_neg (by omega)]
  split <;> rfl
section SY0
variable {now : Nat → Int32} {n r : Nat}
def lA0 (now : Nat → Int32) : Nat → Nat → Int := fun q i => if i < 7 then lA now q i else 0
theorem sys_0 (h : sr_logOk now n r) : sys (lA0 now) r n (cl_f0 (cl_G now r)) (md_P now n r) 12 := by
  have f := lg_fs h
  have b := lg_B h
  have g : ∀ i j, i < 7 → j < 7 → av_G (lA0 now) r i j = av_G (lA now) r i j := fun i j hi hj => dsum_congr r (fun q _ => by unfold lA0; rw [if_pos hi, if_pos hj])
  have k7 : ∀ x, x < n + 1 → kp n x < 7 := fun x hx => by have := h.1.2.1; unfold kp; by_cases e : x = n; (rw [if_pos e]; omega); (rw [if_neg e]; omega)
  refine ⟨⟨f.1, fun q hq i h1 h2 => ?_, fun i j => ?_, fun i j hi hj => ?_⟩, ⟨fun c hc => ?_, ?_, ?_, by omega, by omega, by omega, by omega, fun q hq => ?_⟩, fun q hq i => ?_⟩
  · unfold lA0; rw [if_pos (by omega)]; exact f.2.1 q hq i h1 h2
  · unfold cl_f0
    by_cases e : i < 7 ∧ j < 7
    · rw [if_pos e, g i j e.1 e.2]; exact f.2.2.1 i j
    · rw [if_neg e]
      have z : av_G (lA0 now) r i j = 0 := dsum_zero r (fun q _ => by
        unfold lA0
        by_cases e1 : i < 7
        · rw [if_neg (c := j < 7) (fun z => e ⟨e1, z⟩)]; omega
        · rw [if_neg e1]; omega)
      rw [z]; rfl
  · rw [g _ _ (k7 i hi) (k7 j hj)]; exact f.2.2.2 i j hi hj
  · rw [g c c (by omega) (by omega)]; exact b.1 c hc
  · rw [g 6 6 (by omega) (by omega)]; exact b.2.1
  · have z : av_G (lA0 now) r 7 7 = 0 := dsum_zero r (fun q _ => by unfold lA0; rw [if_neg (by omega)]; omega)
    omega
  · have := b.2.2.2.2.2.2.2 q hq
    rw [dsum_congr 6 (g := fun i => lA now q i) (fun i hi => by unfold lA0; rw [if_pos (by omega)])]; exact this
  · unfold lA0
    by_cases e : i < 7
    · rw [if_pos e]; exact lA_1 h hq e
    · rw [if_neg e]; omega
theorem sys_n {B : Int} (h1 : 1 ≤ B) (h2 : B ≤ 20) : fs_n B 0 := by
  have m : ∀ k : Nat, B ^ k ≤ 20 ^ k := fun k => by
    induction k with
    | zero => rw [Int.pow_zero, Int.pow_zero]; omega
    | succ k ih =>
      rw [Int.pow_succ, Int.pow_succ]
      have := ipow_pos h1 k
      exact ml_le (by omega) (by omega) ih h2
  have m10 := m 10
  have m5 := m 5
  have m6 := m 6
  have p5 := ipow_pos h1 5
  have p6 := ipow_pos h1 6
  have e10 : (20 : Int) ^ 10 = 10240000000000 := by decide
  have e5 : (20 : Int) ^ 5 = 3200000 := by decide
  have e6 : (20 : Int) ^ 6 = 64000000 := by decide
  rw [e10] at m10
  rw [e5] at m5
  rw [e6] at m6
  refine ⟨by omega, by omega, ?_⟩
  have := ml_le (show 0 ≤ B ^ 5 by omega) (show 0 ≤ 8 * (1 * B ^ 6) by omega) m5 (show 8 * (1 * B ^ 6) ≤ 512000000 by omega)
  omega
theorem sys_d {A : Nat → Nat → Int} {N n : Nat} {Y : cl_T} {p : Nat → Int64} (hs : sys A N n Y p 13) {F fm : Nat → Int32} (h : fr_l n F fm) : 0 ≤ (cl_dou Y F).toInt ∧ (cl_dou Y F).toInt ≤ 236513641 := by
  have := fs_dou0 A N n hs.1 hs.2.1 (sys_n (by omega) (by omega)) h.2.2 (by decide)
  have e : (49 : Int) * 13 ^ 6 = 236513641 := by decide
  rw [e] at this; exact this
theorem sys_cp {A : Nat → Nat → Int} {N n : Nat} {Y : cl_T} {p : Nat → Int64} (hs : sys A N n Y p 13) {i : Nat} (hi : i < n) {a : Nat × Int64} {K : Int} (ha : 0 ≤ a.2.toInt ∧ a.2.toInt ≤ K) (hK : K ≤ 100000000000) : ∀ k : Nat, i + 1 + k ≤ n → 0 ≤ (cl_cp Y i k a).2.toInt ∧ (cl_cp Y i k a).2.toInt ≤ K + (k : Int) * 236513641
  | 0, _ => by
    have e : cl_cp Y i 0 a = a := rfl
    rw [e]; omega
  | k + 1, hk => by
    have ih := sys_cp hs hi ha hK k (by omega)
    have d := sys_d hs (fo_d hs.1.1 hi (show i + 1 + k < n by omega))
    have n6 := hs.1.1
    unfold cl_cp
    by_cases c : cl_kn Y (cl_cf i (i + 1 + k)) = true
    · rw [if_pos c]
      show 0 ≤ ((cl_cp Y i k a).2 + cl_dou Y (cl_cf i (i + 1 + k))).toInt ∧ ((cl_cp Y i k a).2 + cl_dou Y (cl_cf i (i + 1 + k))).toInt ≤ _
      rw [sr_i64add (by omega) (by omega)]; omega
    · rw [if_neg c]; omega
theorem sys_cs {A : Nat → Nat → Int} {N n : Nat} {Y : cl_T} {p : Nat → Int64} (hs : sys A N n Y p 13) : ∀ i : Nat, i ≤ n → 0 ≤ (cl_cs Y n i).2.toInt ∧ (cl_cs Y n i).2.toInt ≤ (i : Int) * 1500000000
  | 0, _ => by
    have e : (cl_cs Y n 0).2.toInt = 0 := rfl
    rw [e]; omega
  | i + 1, hi => by
    have ih := sys_cs hs i (by omega)
    have n6 := hs.1.1
    unfold cl_cs
    have := sys_cp hs (i := i) (by omega) ih (by omega) (n - (i + 1)) (by omega)
    omega
/-- what next needs of a match -/
theorem an_nx1 (h : sr_logOk now n r) {k a b : Nat} (hm : sr_mt k a b = true) (ha : a < 2 ^ n) (hb : b < 2 ^ n) : sys (av_x (lA0 now) r (fun i => (cl_form a b (nI 0) (nI 0) i).toInt)) (r + 1) n (cl_inc (nI 1) (cl_form a b (nI 0) (nI 0)) (cl_f0 (cl_G now r))) (md_PM now n r a b) 13 := sys_x (sys_0 h) (by have := h.1.2.2.2; omega) (mt_fz h.1.2.1 hm ha hb)
theorem an_mok (h : sr_logOk now n r) {k a b : Nat} (hm : sr_mt k a b = true) (ha : a < 2 ^ n) (hb : b < 2 ^ n) : md_mok now n r a b ∧ cl_sm (cl_cs (cl_inc (nI 1) (cl_form a b (nI 0) (nI 0)) (cl_f0 (cl_G now r))) n n).2 (cl_by (cl_inc (nI 1) (cl_form a b (nI 0) (nI 0)) (cl_f0 (cl_G now r)))) ∧ (cl_cs (cl_inc (nI 1) (cl_form a b (nI 0) (nI 0)) (cl_f0 (cl_G now r))) n n) = md_cs n (md_PM now n r a b) n ∧ cl_by (cl_inc (nI 1) (cl_form a b (nI 0) (nI 0)) (cl_f0 (cl_G now r))) = md_b (n + 1) (md_PM now n r a b) := by
  have s := an_nx1 h hm ha hb
  have hn := sys_n (B := 13) (by omega) (by omega)
  have e1 := fs_cs s.1 s.2.1 hn n (Nat.le_refl _)
  have e2 := fs_b _ _ n s.1 s.2.1 hn
  have bp := fs_bpos _ _ n s.1 s.2.1 hn
  have e13 : (13 : Int) ^ 5 * 12 = 4455516 := by decide
  rw [e13] at bp
  have c := sys_cs s n (Nat.le_refl _)
  refine ⟨⟨?_, by rw [← e1]; exact c.1⟩, ⟨c.1, by omega⟩, e1, e2⟩
  rw [← e2, Int64.lt_iff_toInt_lt]; exact bp.1
def nx_R (c : Nat × cl_N) (m : md_B) : Prop := (c.1 = 0 ∧ m = (0, 0, 0, 0, 0)) ∨ (¬ c.1 = 0 ∧ ¬ m.1 = 0 ∧ 0 < m.2.2.2.2 ∧ m.2.2.2.1 < 2 ^ 63 ∧ m.2.2.2.2 < 2 ^ 63 ∧ c.2.1 = m.1 ∧ c.2.2.1 = m.2.1 ∧ c.2.2.2.1 = m.2.2.1 ∧ c.2.2.2.2.1 = m.2.2.2.1 / Nat.gcd m.2.2.2.1 m.2.2.2.2 ∧ c.2.2.2.2.2 = m.2.2.2.2 / Nat.gcd m.2.2.2.1 m.2.2.2.2)
theorem an_nx (h : sr_logOk now n r) {k : Nat} (hk : k < 4) : nx_R ((cl_ml n (nI k)).length, cl_nx (cl_G now r) n (cl_ml n (nI k)) (cl_ml n (nI k)).length) (md_nx now n r k) := by
  have hn := h.1.2.1
  have e : md_nx now n r k = (cl_ml n (nI k)).foldl (fun t p => md_ms now n r p.1 p.2 t) (0, 0, 0, 0, 0) := ml_all (k := k) (f := fun a b s => md_ms now n r a b s) hn hk (0, 0, 0, 0, 0)
  rw [e]
  refine ix_fold (R := nx_R) (fun t p => md_ms now n r p.1 p.2 t) (cl_ml n (nI k)) (fun m => (m, cl_nx (cl_G now r) n (cl_ml n (nI k)) m)) (0, 0, 0, 0, 0) (fun m t hm hr => ?_) (Or.inl ⟨rfl, rfl⟩)
  have at_ := ml_at hn hk hm
  obtain ⟨mk, sm, ecs, eby⟩ := an_mok h at_.1 at_.2.2.1 at_.2.2.2.2
  have ek : cl_nk (cl_G now r) n (cl_ml n (nI k)) m = (md_cs n (md_PM now n r ((cl_ml n (nI k)).getD m (0, 0)).1 ((cl_ml n (nI k)).getD m (0, 0)).2) n).1 := by
    rw [← ecs]; rfl
  have eu : cl_nu (cl_G now r) n (cl_ml n (nI k)) m = cl_fu (md_cs n (md_PM now n r ((cl_ml n (nI k)).getD m (0, 0)).1 ((cl_ml n (nI k)).getD m (0, 0)).2) n).2 (md_b (n + 1) (md_PM now n r ((cl_ml n (nI k)).getD m (0, 0)).1 ((cl_ml n (nI k)).getD m (0, 0)).2)) := by
    rw [← ecs, ← eby]; rfl
  have ed : cl_nb (cl_G now r) n (cl_ml n (nI k)) m = cl_fd (md_cs n (md_PM now n r ((cl_ml n (nI k)).getD m (0, 0)).1 ((cl_ml n (nI k)).getD m (0, 0)).2) n).2 (md_b (n + 1) (md_PM now n r ((cl_ml n (nI k)).getD m (0, 0)).1 ((cl_ml n (nI k)).getD m (0, 0)).2)) := by
    rw [← ecs, ← eby]; rfl
  have ec : cl_nx (cl_G now r) n (cl_ml n (nI k)) (m + 1) = if m = 0 ∨ (cl_nx (cl_G now r) n (cl_ml n (nI k)) m).2.2.1 < cl_nk (cl_G now r) n (cl_ml n (nI k)) m ∨ (cl_nk (cl_G now r) n (cl_ml n (nI k)) m = (cl_nx (cl_G now r) n (cl_ml n (nI k)) m).2.2.1 ∧ cl_nu (cl_G now r) n (cl_ml n (nI k)) m * (cl_nx (cl_G now r) n (cl_ml n (nI k)) m).2.2.2.2 < (cl_nx (cl_G now r) n (cl_ml n (nI k)) m).2.2.2.1 * cl_nb (cl_G now r) n (cl_ml n (nI k)) m) then (((cl_ml n (nI k)).getD m (0, 0)).1, ((cl_ml n (nI k)).getD m (0, 0)).2, cl_nk (cl_G now r) n (cl_ml n (nI k)) m, cl_nu (cl_G now r) n (cl_ml n (nI k)) m, cl_nb (cl_G now r) n (cl_ml n (nI k)) m) else cl_nx (cl_G now r) n (cl_ml n (nI k)) m := rfl
  show nx_R (m + 1, cl_nx (cl_G now r) n (cl_ml n (nI k)) (m + 1)) _
  rw [ec, ek, eu, ed]
  have hr' : nx_R (m, cl_nx (cl_G now r) n (cl_ml n (nI k)) m) t := hr
  unfold md_ms
  generalize cl_nx (cl_G now r) n (cl_ml n (nI k)) m = c at *
  generalize (cl_ml n (nI k)).getD m (0, 0) = p at *
  have bp := Int64.lt_iff_toInt_lt.mp mk.1
  have e0 : (0 : Int64).toInt = 0 := rfl
  have c0 := mk.2
  generalize md_cs n (md_PM now n r p.1 p.2) n = cs at *
  generalize md_b (n + 1) (md_PM now n r p.1 p.2) = by_ at *
  have l1 := (sr_lN_of c0).2
  have l2 := (sr_lN_of (x := by_) (by omega)).2
  have bpn : 0 < by_.toInt.toNat := by omega
  have iff : (m = 0 ∨ c.2.2.1 < cs.1 ∨ (cs.1 = c.2.2.1 ∧ cl_fu cs.2 by_ * c.2.2.2.2 < c.2.2.2.1 * cl_fd cs.2 by_)) ↔ (t.1 = 0 ∨ t.2.2.1 < cs.1 ∨ (cs.1 = t.2.2.1 ∧ cs.2.toInt.toNat * t.2.2.2.2 < t.2.2.2.1 * by_.toInt.toNat)) := by
    rcases hr' with ⟨a, b⟩ | ⟨a, b, d0, d1, d2, d3, d4, d5, d6, d7⟩
    · have a' : m = 0 := a
      exact ⟨fun _ => Or.inl (by rw [b]), fun _ => Or.inl a'⟩
    · have a' : ¬ m = 0 := a
      have d5' : c.2.2.1 = t.2.2.1 := d5
      have d6' : c.2.2.2.1 = t.2.2.2.1 / Nat.gcd t.2.2.2.1 t.2.2.2.2 := d6
      have d7' : c.2.2.2.2 = t.2.2.2.2 / Nat.gcd t.2.2.2.1 t.2.2.2.2 := d7
      rw [d5', d6', d7']
      unfold cl_fu cl_fd
      rw [fr_cmp bpn d0]
      exact ⟨fun z => z.elim (fun y => absurd y a') Or.inr, fun z => z.elim (fun y => absurd y b) Or.inr⟩
  by_cases q : t.1 = 0 ∨ t.2.2.1 < cs.1 ∨ (cs.1 = t.2.2.1 ∧ cs.2.toInt.toNat * t.2.2.2.2 < t.2.2.2.1 * by_.toInt.toNat)
  · rw [if_pos q, if_pos (iff.mpr q)]
    exact Or.inr ⟨by show ¬ m + 1 = 0; omega, by show ¬ p.1 = 0; omega, bpn, l1, l2, rfl, rfl, rfl, rfl, rfl⟩
  · rw [if_neg q, if_neg (fun z => q (iff.mp z))]
    rcases hr' with ⟨a, b⟩ | ⟨a, b⟩
    · exact absurd (Or.inl (by rw [b])) q
    · exact Or.inr ⟨by show ¬ m + 1 = 0; omega, b⟩
theorem an_nok (h : sr_logOk now n r) (k : Int32) : cl_nok (cl_G now r) n (cl_ml n k) := by
  cases hk : sr_isIn k (nI 1) (nI 3) with
  | false => rw [ml_none h.1.2.1 hk]; exact fun m hm => absurd hm (Nat.not_lt_zero m)
  | true =>
    obtain ⟨x, _, hx, rfl⟩ := isIn_n (by decide) (by omega) hk
    intro m hm
    have at_ := ml_at h.1.2.1 (show x < 4 by omega) hm
    exact (an_mok h at_.1 at_.2.2.1 at_.2.2.2.2).2.1
theorem an_next (h : sr_logOk now n r) (k w : Int32) : (if (sr_isIn w (nI 0) (nI 4) && decide (0 < (cl_ml n k).length)) = true then cl_nxa (cl_G now r) n (cl_ml n k) w.toNatClampNeg else -1) = if (sr_isIn k (nI 1) (nI 3) && sr_isIn w (nI 0) (nI 4)) = true then md_nxa now n r k.toNatClampNeg w.toNatClampNeg else -1 := by
  cases hk : sr_isIn k (nI 1) (nI 3) with
  | false =>
    rw [ml_none h.1.2.1 hk, Bool.false_and, if_neg (c := false = true) (by decide)]
    have e : decide (0 < ([] : cl_L).length) = false := rfl
    rw [e, Bool.and_false, if_neg (by decide)]
  | true =>
    obtain ⟨x, _, hx, rfl⟩ := isIn_n (by decide) (by omega) hk
    rw [Bool.true_and, nI_clamp (show x < 2 ^ 31 by omega)]
    cases hw : sr_isIn w (nI 0) (nI 4) with
    | false => rw [Bool.false_and, if_neg (by decide), if_neg (by decide)]
    | true =>
      obtain ⟨y, _, hy, rfl⟩ := isIn_n (by decide) (by omega) hw
      rw [Bool.true_and, nI_clamp (show y < 2 ^ 31 by omega), if_pos (c := true = true) rfl]
      have hR := an_nx h (k := x) (by omega)
      unfold md_nxa cl_nxa
      rcases hR with ⟨a, b⟩ | ⟨a, b, d0, d1, d2, d3, d4, d5, d6, d7⟩
      · have a' : (cl_ml n (nI x)).length = 0 := a
        rw [a', b, decide_eq_false (by omega), if_neg (by decide), if_pos rfl]
      · have a' : ¬ (cl_ml n (nI x)).length = 0 := a
        dsimp only at d3 d4 d5 d6 d7
        have t := sr_told_n d1 d2 d0
        rw [decide_eq_true (show 0 < (cl_ml n (nI x)).length by omega), if_pos (c := true = true) rfl, if_neg b, d3, d4, d5, d6, d7]
        have o : y = 0 ∨ y = 1 ∨ y = 2 ∨ y = 3 ∨ y = 4 := by omega
        rcases o with rfl | rfl | rfl | rfl | rfl
        · rfl
        · rfl
        · rfl
        · exact t.1.symm
        · exact t.2.symm
end SY0
