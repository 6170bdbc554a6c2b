/-! ===== fewest ===== -/
theorem sys_pow {B : Int} (h1 : 1 ≤ B) (h2 : B ≤ 57) : B ^ 10 * 12 < 2 ^ 63 := by
  have m : ∀ k : Nat, B ^ k ≤ 57 ^ k := fun k => by
    induction k with
    | zero => rw [Int.pow_zero, Int.pow_zero]; omega
    | succ k ih =>
      rw [Int.pow_succ, Int.pow_succ]
      have := ipow_pos h1 k
      exact ml_le (by omega) (by omega) ih h2
  have m10 := m 10
  have e10 : (57 : Int) ^ 10 = 362033331456891249 := by decide
  rw [e10] at m10
  omega
theorem fr_f0 : fr_f (fun _ => 0) = fun _ => 0 := by
  funext i; unfold fr_f; split <;> rfl
theorem sys_r {A : Nat → Nat → Int} {N n : Nat} {Y : cl_T} {p : Nat → Int64} {B : Int} (hs : sys A N n Y p B) (h57 : B ≤ 57) : md_r (n + 1) p = rk A N ∧ 0 < md_b (n + 1) p := by
  have b1 := hs.2.1.2.2.2.1
  have hH : mp_H A N (fun _ => 0) n p (fun _ => 0) := ⟨hs.1.1, hs.1.2.1, fun _ _ _ => rfl, rfl, hs.1.2.2.2, fun _ _ => rfl⟩
  have e0 : B ^ 5 * (8 * (0 * B ^ 6)) = 0 := by grind
  obtain ⟨τ, hI⟩ := mp_all A N (fun _ => 0) n hs.2.1 (sys_pow b1 h57) (by rw [Int.mul_zero]; decide) (show (0 : Int) ≤ 0 by omega) (fun _ _ => by omega) (by rw [e0]; decide) hH
  refine ⟨mp_rk A N _ n hI, ?_⟩
  have e := mp_by A N (fun _ => 0) n hI
  have hd := td_pos (av_E A N (fun _ => 0)) 7
  rw [Int64.lt_iff_toInt_lt]
  show 0 < (md_by (n + 1) p (fun _ => 0)).toInt
  omega
theorem sys_kn {A : Nat → Nat → Int} {N n : Nat} {Y : cl_T} {p : Nat → Int64} {B : Int} (hs : sys A N n Y p B) (h20 : B ≤ 20) {F fm : Nat → Int32} (hf : fr_l n F fm) : cl_kn Y F = true ↔ ∀ z, nul A N z → dsum (fun i => (F i).toInt * z i) 7 = 0 := by
  have hn := sys_n hs.2.1.2.2.2.1 h20
  have e2 := ah_kn A N (fr_f F) hs.2.1 hn.1 hn.2.1 hs.1.2.2.1 (F := F) (fun i hi => (if_pos hi).symm) (if_neg (by omega)) (show (0 : Int) ≤ 1 by omega) (fs_f1 hf.2.2) (pw_mono8 hs.2.1.2.2.2.1 hn.2.2)
  rw [e2, nul_kn A N (fr_f F) (if_neg (by omega))]
  have e : ∀ z : Nat → Int, dsum (fun i => fr_f F i * z i) 7 = dsum (fun i => (F i).toInt * z i) 7 := fun z => dsum_congr 7 (fun i hi => by unfold fr_f; rw [if_pos hi])
  exact ⟨fun h z hz => by rw [← e]; exact h z hz, fun h z hz => by rw [e]; exact h z hz⟩
theorem sys_6 {A : Nat → Nat → Int} {N n : Nat} {Y : cl_T} {p : Nat → Int64} {B : Int} (hs : sys A N n Y p B) : rk A N ≤ 6 := by
  have h := ab_five A N (fun _ => 0) hs.2.1
  have := pv_le (av_E A N (fun _ => 0)) 6 1
  unfold rk
  have e : pv (av_E A N (fun _ => 0)) 7 = pv (av_E A N (fun _ => 0)) (6 + 1) := rfl
  rw [e]; omega
/-- z sees no difference of rowers -/
def eqv (n : Nat) (z : Nat → Int) : Prop := ∀ i, i < n → z i = z 0
theorem fz_eqv {n : Nat} {F fm : Nat → Int32} (hn : n ≤ 6) (hf : fz n F fm) {z : Nat → Int} (hz : eqv n z) : dsum (fun i => (F i).toInt * z i) 7 = 0 := by
  have e0 : (0 : Int32).toInt = 0 := rfl
  show dsum (fun i => (F i).toInt * z i) 6 + (F 6).toInt * z 6 = 0
  rw [hf.2.1 6 (by omega), e0]
  have e : dsum (fun i => (F i).toInt * z i) 6 = dsum (fun i => z 0 * (F i).toInt) 6 := dsum_congr 6 (fun i hi => by
    by_cases q : i < n
    · rw [hz i q]; grind
    · rw [hf.1.2.1 i (by omega) hi, e0]; omega)
  rw [e, dsum_mul, hf.2.2]; omega
section FE
variable {now : Nat → Int32} {n r : Nat}
/-- class: what was added so far; model: all matches so far -/
def fe_R (now : Nat → Int32) (n r : Nat) (c : Nat × cl_T × Nat) (t : Nat → Int64) : Prop :=
  ∃ (A : Nat → Nat → Int) (p : Nat → Int64) (A' : Nat → Nat → Int) (Y' : cl_T), sys A (r + c.2.2) n c.2.1 p (12 + c.2.2) ∧ rk A (r + c.2.2) = rk (lA0 now) r + c.2.2 ∧ sys A' (r + c.1) n Y' t (12 + c.1) ∧ (∀ z, nul A (r + c.2.2) z ↔ nul A' (r + c.1) z) ∧ (∀ z, nul A' (r + c.1) z → nul (lA0 now) r z) ∧ ∀ z, nul (lA0 now) r z → eqv n z → nul A' (r + c.1) z
theorem fe_all (h : sr_logOk now n r) {k : Nat} (hk : k < 4) : fe_R now n r ((cl_ml n (nI k)).length, cl_fw (cl_G now r) (cl_ml n (nI k)) (cl_ml n (nI k)).length) (md_aP now n r k) := by
  have hn := h.1.2.1
  have r12 := h.1.2.2.2
  have l45 : (cl_ml n (nI k)).length ≤ 45 := by
    have e : cl_ml n (nI k) = sr_fa (ml_F k) (2 ^ n) (2 ^ n - 1) [] := ml_eq hn hk _ (Nat.le_refl _)
    rw [e, ml_len]; exact ml_c_45 n (by omega) k hk
  have e : md_aP now n r k = (cl_ml n (nI k)).foldl (fun t p => (fun a b (s : Nat → Int64) => sr_comesP (n + 1) (sr_form n a b (nI 0)) s) p.1 p.2 t) (md_P now n r) := ml_all (k := k) (f := fun a b (s : Nat → Int64) => sr_comesP (n + 1) (sr_form n a b (nI 0)) s) hn hk (md_P now n r)
  rw [e]
  refine ix_fold (R := fe_R now n r) (fun t p => (fun a b (s : Nat → Int64) => sr_comesP (n + 1) (sr_form n a b (nI 0)) s) p.1 p.2 t) (cl_ml n (nI k)) (fun m => (m, cl_fw (cl_G now r) (cl_ml n (nI k)) m)) (md_P now n r) (fun m t hm hr => ?_) ⟨lA0 now, md_P now n r, lA0 now, cl_f0 (cl_G now r), sys_0 h, rfl, sys_0 h, fun _ => Iff.rfl, fun _ hz => hz, fun _ hz _ => hz⟩
  have at_ := ml_at hn hk hm
  have hf := mt_fz hn at_.1 at_.2.2.1 at_.2.2.2.2
  obtain ⟨A, p, A', Y', s1, s2, s3, s4, s5, s6⟩ := hr
  dsimp only at s1 s2 s3 s4 s5 s6
  have ef : cl_mf (cl_ml n (nI k)) m = cl_form ((cl_ml n (nI k)).getD m (0, 0)).1 ((cl_ml n (nI k)).getD m (0, 0)).2 (nI 0) (nI 0) := rfl
  have ec : cl_fw (cl_G now r) (cl_ml n (nI k)) (m + 1) = if cl_kn (cl_fw (cl_G now r) (cl_ml n (nI k)) m).1 (cl_mf (cl_ml n (nI k)) m) = true then cl_fw (cl_G now r) (cl_ml n (nI k)) m else (cl_inc (nI 1) (cl_mf (cl_ml n (nI k)) m) (cl_fw (cl_G now r) (cl_ml n (nI k)) m).1, (cl_fw (cl_G now r) (cl_ml n (nI k)) m).2 + 1) := rfl
  show fe_R now n r (m + 1, cl_fw (cl_G now r) (cl_ml n (nI k)) (m + 1)) (sr_comesP (n + 1) (sr_form n ((cl_ml n (nI k)).getD m (0, 0)).1 ((cl_ml n (nI k)).getD m (0, 0)).2 (nI 0)) t)
  rw [ec, ef]
  generalize cl_fw (cl_G now r) (cl_ml n (nI k)) m = c at *
  generalize cl_form ((cl_ml n (nI k)).getD m (0, 0)).1 ((cl_ml n (nI k)).getD m (0, 0)).2 (nI 0) (nI 0) = F at *
  generalize sr_form n ((cl_ml n (nI k)).getD m (0, 0)).1 ((cl_ml n (nI k)).getD m (0, 0)).2 (nI 0) = fm at *
  have r6 := sys_6 s1
  have kn := sys_kn s1 (by omega) hf.1
  have s3' := sys_x s3 (by omega) hf
  have s5' : ∀ z, nul (av_x A' (r + m) (fun i => (F i).toInt)) (r + m + 1) z → nul (lA0 now) r z := fun z hz => s5 z (nul_x.mp hz).1
  have s6' : ∀ z, nul (lA0 now) r z → eqv n z → nul (av_x A' (r + m) (fun i => (F i).toInt)) (r + m + 1) z := fun z hz he => nul_x.mpr ⟨s6 z hz he, fz_eqv hn hf he⟩
  have cast : (12 : Int) + ((m + 1 : Nat) : Int) = 12 + (m : Int) + 1 := by omega
  by_cases q : cl_kn c.1 F = true
  · rw [if_pos q]
    refine ⟨A, p, av_x A' (r + m) (fun i => (F i).toInt), cl_inc (nI 1) F Y', s1, s2, ?_, fun z => ?_, s5', s6'⟩
    · show sys _ (r + m + 1) n _ _ (12 + ((m + 1 : Nat) : Int))
      rw [cast]; exact s3'
    · show nul A (r + c.2) z ↔ nul (av_x A' (r + m) (fun i => (F i).toInt)) (r + m + 1) z
      rw [nul_x, ← s4 z]
      exact ⟨fun hz => ⟨hz, kn.mp q z hz⟩, fun hz => hz.1⟩
  · rw [if_neg q]
    have up := rk_up (A := A) (N := r + c.2) (v := fun i => (F i).toInt) (fun z => q (kn.mpr z))
    have cast2 : (12 : Int) + ((c.2 + 1 : Nat) : Int) = 12 + (c.2 : Int) + 1 := by omega
    refine ⟨av_x A (r + c.2) (fun i => (F i).toInt), sr_comesP (n + 1) fm p, av_x A' (r + m) (fun i => (F i).toInt), cl_inc (nI 1) F Y', ?_, ?_, ?_, fun z => ?_, s5', s6'⟩
    · show sys _ (r + c.2 + 1) n _ _ (12 + ((c.2 + 1 : Nat) : Int))
      rw [cast2]; exact sys_x s1 (by omega) hf
    · show rk _ (r + c.2 + 1) = rk (lA0 now) r + (c.2 + 1)
      rw [s2] at up; omega
    · show sys _ (r + m + 1) n _ _ (12 + ((m + 1 : Nat) : Int))
      rw [cast]; exact s3'
    · show nul (av_x A (r + c.2) (fun i => (F i).toInt)) (r + c.2 + 1) z ↔ nul (av_x A' (r + m) (fun i => (F i).toInt)) (r + m + 1) z
      rw [nul_x, nul_x, s4 z]
/-! all differences -/
theorem df_bits : ∀ j, j < 6 → sr_bits (1 * 2 ^ j) = 1 ∧ 1 * 2 ^ j < 64 := by decide +kernel
theorem df_fz {i j : Nat} (hn : n ≤ 6) (hi : i < n) (hj : j < n) : fz n (cl_cf i j) (sr_dform i j) := by
  have b1 := df_bits i (by omega)
  have b2 := df_bits j (by omega)
  refine ⟨fo_d hn hi hj, fun k hk => ?_, fo_sum b1.2 b2.2 (by rw [b1.1, b2.1])⟩
  unfold cl_cf cl_form
  rw [if_neg (by omega)]
  split <;> rfl
theorem df_z : ∀ i, i < 6 → ∀ j, j < 6 → ∀ k, k < 7 → (cl_cf i j k).toInt = (if k = i then 1 else 0) - (if k = j then 1 else 0) := by decide +kernel
theorem df_dot {i j : Nat} (hi : i < 6) (hj : j < 6) (z : Nat → Int) : dsum (fun k => (cl_cf i j k).toInt * z k) 7 = z i - z j := by
  have e := dsum_lin (f := fun k => (cl_cf i j k).toInt * z k) (g := fun k => if k = j then z k else 0) (h := fun k => if k = i then z k else 0) (x := -1) 7 (fun k hk => by
    show (cl_cf i j k).toInt * z k = _
    rw [df_z i hi j hj k hk]
    by_cases a : k = i <;> by_cases b : k = j <;> simp only [a, b, if_true, if_false] <;> (try rw [if_pos a]) <;> (try rw [if_neg a]) <;> (try rw [if_pos b]) <;> (try rw [if_neg b]) <;> grind)
  rw [e, dsum_one (k := j) 7 (by omega) (fun k _ ne => if_neg ne), dsum_one (k := i) 7 (by omega) (fun k _ ne => if_neg ne), if_pos rfl, if_pos rfl]; omega
def fd_R (now : Nat → Int32) (n r m : Nat) (t : Nat → Int64) : Prop := ∃ (A : Nat → Nat → Int) (Y : cl_T), sys A (r + m) n Y t (12 + m) ∧ ∀ z, nul A (r + m) z ↔ nul (lA0 now) r z ∧ ∀ i, i < m → z (1 + i) = z 0
theorem fd_all (h : sr_logOk now n r) : ∀ m, m ≤ n - 1 → fd_R now n r m (md_dP now n r m)
  | 0, _ => ⟨lA0 now, cl_f0 (cl_G now r), sys_0 h, fun z => ⟨fun hz => ⟨hz, fun i hi => absurd hi (by omega)⟩, fun hz => hz.1⟩⟩
  | m + 1, hm => by
    have hn := h.1.2.1
    have r12 := h.1.2.2.2
    obtain ⟨A, Y, s, hz⟩ := fd_all h m (by omega)
    have hf := df_fz (n := n) (i := 0) (j := 1 + m) hn (by omega) (by omega)
    refine ⟨av_x A (r + m) (fun i => (cl_cf 0 (1 + m) i).toInt), cl_inc (nI 1) (cl_cf 0 (1 + m)) Y, ?_, fun z => ?_⟩
    · have cast : (12 : Int) + ((m + 1 : Nat) : Int) = 12 + (m : Int) + 1 := by omega
      show sys _ (r + m + 1) n _ _ (12 + ((m + 1 : Nat) : Int))
      rw [cast]; exact sys_x s (by omega) hf
    · show nul _ (r + m + 1) z ↔ _
      rw [nul_x, hz z, df_dot (by omega) (by omega)]
      constructor
      · rintro ⟨⟨a, b⟩, c⟩
        exact ⟨a, fun i hi => by by_cases q : i = m; (rw [q]; omega); (exact b i (by omega))⟩
      · rintro ⟨a, b⟩
        have := b m (by omega)
        exact ⟨⟨a, fun i hi => b i (by omega)⟩, by omega⟩
/-- all couples are known just when there are as many as can be -/
theorem cp_all {Y : cl_T} {i : Nat} {a : Nat × Int64} : ∀ k, (cl_cp Y i k a).1 = a.1 + k ↔ ∀ d, d < k → cl_kn Y (cl_cf i (i + 1 + d)) = true
  | 0 => ⟨fun _ d hd => absurd hd (by omega), fun _ => rfl⟩
  | k + 1 => by
    have ih := cp_all (Y := Y) (i := i) (a := a) k
    have le := cl_cp_le (Y := Y) (i := i) (a := a) k
    unfold cl_cp
    by_cases c : cl_kn Y (cl_cf i (i + 1 + k)) = true
    · rw [if_pos c]
      show (cl_cp Y i k a).1 + 1 = a.1 + (k + 1) ↔ _
      constructor
      · intro e d hd
        by_cases q : d = k
        · rw [q]; exact c
        · exact ih.mp (by omega) d (by omega)
      · intro e
        have := ih.mpr (fun d hd => e d (by omega))
        omega
    · rw [if_neg c]
      exact ⟨fun e => by omega, fun e => absurd (e k (by omega)) c⟩
def cs_T (n : Nat) : Nat → Nat
  | 0 => 0
  | i + 1 => cs_T n i + (n - (i + 1))
theorem cs_all {Y : cl_T} {n : Nat} : ∀ i, (cl_cs Y n i).1 ≤ cs_T n i ∧ ((cl_cs Y n i).1 = cs_T n i ↔ ∀ x, x < i → ∀ d, d < n - (x + 1) → cl_kn Y (cl_cf x (x + 1 + d)) = true)
  | 0 => ⟨Nat.le_refl _, fun _ x hx => absurd hx (by omega), fun _ => rfl⟩
  | i + 1 => by
    obtain ⟨i1, i2⟩ := cs_all (Y := Y) (n := n) i
    have le := cl_cp_le (Y := Y) (i := i) (a := cl_cs Y n i) (n - (i + 1))
    have al := cp_all (Y := Y) (i := i) (a := cl_cs Y n i) (n - (i + 1))
    unfold cl_cs cs_T
    refine ⟨by omega, ?_⟩
    constructor
    · intro e x hx d hd
      by_cases q : x = i
      · rw [q] at hd ⊢; exact al.mp (by omega) d hd
      · exact i2.mp (by omega) x (by omega) d hd
    · intro e
      have := al.mpr (e i (by omega))
      have := i2.mpr (fun x hx => e x (by omega))
      omega
theorem cs_Tn : ∀ n, n < 7 → cs_T n n = n * (n - 1) / 2 := by decide +kernel
theorem an_few (h : sr_logOk now n r) {k : Nat} (hk : k < 4) : cl_few (cl_G now r) n (cl_ml n (nI k)) = md_few now n r k ∧ 0 < md_b (n + 1) (md_aP now n r k) ∧ 0 < md_b (n + 1) (md_dP now n r (n - 1)) := by
  have hn := h.1.2.1
  have r12 := h.1.2.2.2
  have l45 : (cl_ml n (nI k)).length ≤ 45 := by
    have e : cl_ml n (nI k) = sr_fa (ml_F k) (2 ^ n) (2 ^ n - 1) [] := ml_eq hn hk _ (Nat.le_refl _)
    rw [e, ml_len]; exact ml_c_45 n (by omega) k hk
  obtain ⟨A, p, A', Y', s1, s2, s3, s4, s5, s6⟩ := fe_all h hk
  dsimp only at s1 s2 s3 s4 s5 s6
  obtain ⟨Ad, Yd, d1, d2⟩ := fd_all h (n - 1) (Nat.le_refl _)
  have ra := sys_r s3 (by omega)
  have rd := sys_r d1 (by omega)
  have r0 := sys_r (sys_0 h) (by omega)
  have r6 := sys_6 s1
  refine ⟨?_, ra.2, rd.2⟩
  have rkA : rk A (r + (cl_fw (cl_G now r) (cl_ml n (nI k)) (cl_ml n (nI k)).length).2) = rk A' (r + (cl_ml n (nI k)).length) := rk_eq (fun z => (s4 z).symm)
  -- what the differences' races do not see
  have dz : ∀ z, nul Ad (r + (n - 1)) z ↔ nul (lA0 now) r z ∧ eqv n z := fun z => by
    rw [d2 z]
    constructor
    · rintro ⟨a, b⟩
      exact ⟨a, fun i hi => by by_cases q : i = 0; (rw [q]); (have := b (i - 1) (by omega); rw [show 1 + (i - 1) = i by omega] at this; exact this)⟩
    · rintro ⟨a, b⟩
      exact ⟨a, fun i hi => b (1 + i) (by omega)⟩
  have sub : ∀ z, nul Ad (r + (n - 1)) z → nul A' (r + (cl_ml n (nI k)).length) z := fun z hz => s6 z ((dz z).mp hz).1 ((dz z).mp hz).2
  have all : (cl_cs (cl_fw (cl_G now r) (cl_ml n (nI k)) (cl_ml n (nI k)).length).1 n n).1 = n * (n - 1) / 2 ↔ ∀ z, nul A' (r + (cl_ml n (nI k)).length) z → eqv n z := by
    rw [← cs_Tn n (by omega), (cs_all n).2]
    have kn : ∀ x d, x < n → d < n - (x + 1) → (cl_kn (cl_fw (cl_G now r) (cl_ml n (nI k)) (cl_ml n (nI k)).length).1 (cl_cf x (x + 1 + d)) = true ↔ ∀ z, nul A' (r + (cl_ml n (nI k)).length) z → z x - z (x + 1 + d) = 0) := fun x d hx hd => by
      rw [sys_kn s1 (by omega) (fo_d hn hx (by omega))]
      constructor
      · intro a z hz
        rw [← df_dot (by omega) (by omega)]; exact a z ((s4 z).mpr hz)
      · intro a z hz
        rw [df_dot (by omega) (by omega)]; exact a z ((s4 z).mp hz)
    constructor
    · intro a z hz i hi
      by_cases q : i = 0
      · rw [q]
      · have := (kn 0 (i - 1) (by omega) (by omega)).mp (a 0 (by omega) (i - 1) (by omega)) z hz
        rw [show 0 + 1 + (i - 1) = i by omega] at this
        omega
    · intro a x hx d hd
      refine (kn x d hx hd).mpr (fun z hz => ?_)
      have e1 := a z hz x hx
      have e2 := a z hz (x + 1 + d) (by omega)
      omega
  have iff : (cl_cs (cl_fw (cl_G now r) (cl_ml n (nI k)) (cl_ml n (nI k)).length).1 n n).1 = n * (n - 1) / 2 ↔ rk A' (r + (cl_ml n (nI k)).length) = rk Ad (r + (n - 1)) := by
    rw [all]
    constructor
    · intro a
      exact rk_eq (fun z => ⟨fun hz => sub z hz, fun hz => (dz z).mpr ⟨s5 z hz, a z hz⟩⟩)
    · intro e z hz
      exact ((dz z).mp (rk_nul sub e z hz)).2
  unfold cl_few md_few
  rw [ra.1, rd.1, r0.1]
  by_cases q : rk A' (r + (cl_ml n (nI k)).length) = rk Ad (r + (n - 1))
  · rw [if_pos (iff.mpr q), if_pos (Or.inl q), ← q, ← rkA, s2, pk_sub (by omega), Nat.add_sub_cancel_left]
  · rw [if_neg (fun z => q (iff.mp z)), if_neg]
    rintro (z | z)
    · exact q z
    · have nn := rk_nul (A := lA0 now) (N := r) (A' := Ad) (N' := r + (n - 1)) (fun z hz => ((dz z).mp hz).1) z
      exact q (rk_eq (fun z => ⟨fun hz => sub z hz, fun hz => nn z (s5 z hz)⟩))
end FE
