/-! ===== class and model over the same races ===== -/
section FS
variable (A : Nat → Nat → Int) (N n : Nat) {B M : Int} {Y : cl_T} {p : Nat → Int64}
def fs (Y : cl_T) (p : Nat → Int64) : Prop := n ≤ 6 ∧ (∀ q, q < N → ∀ i, n ≤ i → i < 6 → A q i = 0) ∧ ag_Y A N Y ∧ ∀ i j, i < n + 1 → j < n + 1 → (p (7 * i + j)).toInt = av_G A N (kp n i) (kp n j)
/-- a form of the class and the model's -/
def fr_l (F fm : Nat → Int32) : Prop := (∀ i, i < n + 1 → fm i = F (kp n i)) ∧ (∀ i, n ≤ i → i < 6 → F i = 0) ∧ ∀ i, i < 7 → -1 ≤ (F i).toInt ∧ (F i).toInt ≤ 1
def fr_f (F : Nat → Int32) : Nat → Int := fun i => if i < 7 then (F i).toInt else 0
/-- what must fit, for a form -/
def fs_n (B M : Int) : Prop := B ^ 10 * 12 < 2 ^ 63 ∧ B ^ 10 * 12 * M < 2 ^ 63 ∧ B ^ 5 * (8 * (1 * B ^ 6)) < 2 ^ 63
variable {F fm : Nat → Int32}
theorem fs_f1 (h : ∀ i, i < 7 → -1 ≤ (F i).toInt ∧ (F i).toInt ≤ 1) : ∀ i, i < 8 → -1 ≤ fr_f F i ∧ fr_f F i ≤ 1 := fun i _ => by
  unfold fr_f
  by_cases e : i < 7
  · rw [if_pos e]; exact h i e
  · rw [if_neg e]; omega
theorem fs_H (hn7 : fs A N n Y p) (h : fr_l n F fm) : mp_H A N (fr_f F) n p (sr_l fm) := by
  obtain ⟨a1, a2, a3, a4⟩ := hn7
  refine ⟨a1, a2, fun i h1 h2 => ?_, if_neg (by omega), a4, fun i hi => ?_⟩
  · unfold fr_f; rw [if_pos (by omega), h.2.1 i h1 h2]; rfl
  · have hk : kp n i < 7 := by unfold kp; by_cases e : i = n; (rw [if_pos e]; omega); (rw [if_neg e]; omega)
    show ((fm i).toInt64).toInt = fr_f F (kp n i)
    unfold fr_f
    rw [Int32.toInt_toInt64, h.1 i hi, if_pos hk]
theorem pw_mono8 {B : Int} (hB : 1 ≤ B) (h : B ^ 5 * (8 * (1 * B ^ 6)) < 2 ^ 63) : 8 * (1 * B ^ 6) < 2 ^ 63 := by
  have p5 := ipow_pos hB 5
  have p6 := ipow_pos hB 6
  have := ml_le (show (0 : Int) ≤ 1 by omega) (show 0 ≤ 8 * (1 * B ^ 6) by omega) p5 (Int.le_refl (8 * (1 * B ^ 6)))
  omega
theorem fs_kn (hs : fs A N n Y p) (hB : av_B A N B 12 M) (hn : fs_n B M) (h : fr_l n F fm) : cl_kn Y F = md_kn (n + 1) p (sr_l fm) := by
  have hH := fs_H A N n hs h
  obtain ⟨τ, hI⟩ := mp_all A N (fr_f F) n hB hn.1 hn.2.1 (show (0 : Int) ≤ 1 by omega) (fs_f1 h.2.2) hn.2.2 hH
  have e1 := mp_kn A N (fr_f F) n hH hI
  have e2 := ah_kn A N (fr_f F) hB hn.1 hn.2.1 hs.2.2.1 (F := F) (fun i hi => (if_pos hi).symm) (if_neg (by omega)) (show (0 : Int) ≤ 1 by omega) (fs_f1 h.2.2) (pw_mono8 hB.2.2.2.1 hn.2.2)
  have e3 := e2.trans e1.symm
  cases a : cl_kn Y F <;> cases b : md_kn (n + 1) p (sr_l fm) <;> simp_all
theorem fs_val (hs : fs A N n Y p) (hB : av_B A N B 12 M) (hn : fs_n B M) (h : fr_l n F fm) {s : Nat → Int64} (hss : ∀ k, k < n + 1 → (s k).toInt = av_G A N (kp n k) 7) : cl_val Y F = md_val (n + 1) p s (sr_l fm) := by
  have hH := fs_H A N n hs h
  obtain ⟨τ, hI⟩ := mp_all A N (fr_f F) n hB hn.1 hn.2.1 (show (0 : Int) ≤ 1 by omega) (fs_f1 h.2.2) hn.2.2 hH
  rw [mp_val A N (fr_f F) n hH hI hss, ah_cval A N (fr_f F) hB hn.1 hn.2.1 hs.2.2.1 (F := F) (fun i hi => (if_pos hi).symm)]
theorem fs_dou (hs : fs A N n Y p) (hB : av_B A N B 12 M) (hn : fs_n B M) (h : fr_l n F fm) : cl_dou Y F = md_dou (n + 1) p (sr_l fm) := by
  have hH := fs_H A N n hs h
  obtain ⟨τ, hI⟩ := mp_all A N (fr_f F) n hB hn.1 hn.2.1 (show (0 : Int) ≤ 1 by omega) (fs_f1 h.2.2) hn.2.2 hH
  rw [mp_dou A N (fr_f F) n hH hI, ah_cdou A N (fr_f F) hB hn.1 hn.2.1 hs.2.2.1 (F := F) (fun i hi => (if_pos hi).symm)]
theorem fs_0 : fr_l n (fun _ => 0) (fun _ => 0) := ⟨fun _ _ => rfl, fun _ _ _ => rfl, fun _ _ => by show -1 ≤ (0 : Int32).toInt ∧ (0 : Int32).toInt ≤ 1; decide⟩
theorem fs_b (hs : fs A N n Y p) (hB : av_B A N B 12 M) (hn : fs_n B M) : cl_by Y = md_b (n + 1) p := by
  have hH := fs_H A N n hs (fs_0 n)
  obtain ⟨τ, hI⟩ := mp_all A N (fr_f (fun _ => 0)) n hB hn.1 hn.2.1 (show (0 : Int) ≤ 1 by omega) (fs_f1 (fs_0 n).2.2) hn.2.2 hH
  have e1 := mp_by A N (fr_f (fun _ => 0)) n hI
  have e2 := ah_cby A N (fr_f (fun _ => 0)) hB hn.1 hn.2.1 hs.2.2.1
  exact Int64.toInt_inj.mp (by rw [e2]; exact e1.symm)
theorem fs_bpos (hs : fs A N n Y p) (hB : av_B A N B 12 M) (hn : fs_n B M) : 0 < (cl_by Y).toInt ∧ (cl_by Y).toInt ≤ B ^ 5 * 12 := by
  have e2 := ah_cby A N (fr_f (fun _ => 0)) hB hn.1 hn.2.1 hs.2.2.1
  rw [e2]
  exact ⟨td_pos _ 7, ab_td7 A N _ hB⟩
theorem fs_r (hs : fs A N n Y p) (hB : av_B A N B 12 M) (hn : fs_n B M) : (cl_go Y 7).2.2 = md_r (n + 1) p := by
  have hH := fs_H A N n hs (fs_0 n)
  obtain ⟨τ, hI⟩ := mp_all A N (fr_f (fun _ => 0)) n hB hn.1 hn.2.1 (show (0 : Int) ≤ 1 by omega) (fs_f1 (fs_0 n).2.2) hn.2.2 hH
  have e1 := mp_rk A N (fr_f (fun _ => 0)) n hI
  have e2 := (ag_go A N (fr_f (fun _ => 0)) hB hn.1 hn.2.1 hs.2.2.1 7 (by omega)).2.2
  rw [e2]; exact e1.symm
/-- the doubt: never below 0, and small -/
theorem fs_d0 (f : Nat → Int) : 0 ≤ ah_dou A N f := by
  have hd := td_pos (av_E A N f) 7
  refine Int.not_lt.mp (fun z => ?_)
  have hsq := dsum_nn (f := fun q => dsum (fun i => if pw (av_E A N f) i = true then f i * tx (av_E A N f) 7 (i + 8) (17 + q) else 0) 7) N
  have e : dsum (fun q => dsum (fun i => if pw (av_E A N f) i = true then f i * tx (av_E A N f) 7 (i + 8) (17 + q) else 0) 7 * dsum (fun i => if pw (av_E A N f) i = true then f i * tx (av_E A N f) 7 (i + 8) (17 + q) else 0) 7) N = td (av_E A N f) 7 * ah_dou A N f := by
    have e1 : dsum (fun q => dsum (fun i => if pw (av_E A N f) i = true then f i * tx (av_E A N f) 7 (i + 8) (17 + q) else 0) 7 * dsum (fun i => if pw (av_E A N f) i = true then f i * tx (av_E A N f) 7 (i + 8) (17 + q) else 0) 7) N = dsum (fun q => dsum (fun c => dsum (fun i => if pw (av_E A N f) c = true then (if pw (av_E A N f) i = true then f c * (f i * (tx (av_E A N f) 7 (i + 8) (17 + q) * tx (av_E A N f) 7 (c + 8) (17 + q))) else 0) else 0) 7) 7) N := dsum_congr N (fun q _ => by
      rw [← dsum_mul]
      refine dsum_congr 7 (fun c _ => ?_)
      cases w : pw (av_E A N f) c with
      | false =>
        have z : dsum (fun i => if false = true then (if pw (av_E A N f) i = true then f c * (f i * (tx (av_E A N f) 7 (i + 8) (17 + q) * tx (av_E A N f) 7 (c + 8) (17 + q))) else 0) else 0) 7 = 0 := dsum_zero 7 (fun i _ => if_neg (by decide))
        rw [if_neg (by decide), Int.mul_zero]; exact z.symm
      | true =>
        rw [if_pos rfl, Int.mul_comm, ← dsum_mul]
        refine dsum_congr 7 (fun i _ => ?_)
        rw [if_pos rfl]
        cases w2 : pw (av_E A N f) i with
        | false => rw [if_neg (by decide), if_neg (by decide)]; omega
        | true => rw [if_pos rfl, if_pos rfl]; grind)
    rw [e1, dsum_swap]
    unfold ah_dou
    rw [← dsum_mul]
    refine dsum_congr 7 (fun c hc => ?_)
    rw [dsum_swap]
    cases w : pw (av_E A N f) c with
    | false => rw [if_neg (by decide), dsum_zero 7 (fun i _ => dsum_zero N (fun q _ => if_neg (by decide)))]; omega
    | true =>
      rw [if_pos rfl]
      unfold ah_st
      have e2 : dsum (fun l => dsum (fun q => if true = true then (if pw (av_E A N f) l = true then f c * (f l * (tx (av_E A N f) 7 (l + 8) (17 + q) * tx (av_E A N f) 7 (c + 8) (17 + q))) else 0) else 0) N) 7 = dsum (fun i => (- (td (av_E A N f) 7 * f c)) * (if pw (av_E A N f) i = true then f i * tx (av_E A N f) 7 (i + 8) (c + 8) else 0)) 7 := dsum_congr 7 (fun i hi => by
        show dsum (fun q => if true = true then (if pw (av_E A N f) i = true then f c * (f i * (tx (av_E A N f) 7 (i + 8) (17 + q) * tx (av_E A N f) 7 (c + 8) (17 + q))) else 0) else 0) N = _
        cases w2 : pw (av_E A N f) i with
        | false => rw [if_neg (by decide), dsum_zero N (fun q _ => by rw [if_pos rfl, if_neg (by decide)])]; omega
        | true =>
          have e3 : dsum (fun q => if true = true then (if true = true then f c * (f i * (tx (av_E A N f) 7 (i + 8) (17 + q) * tx (av_E A N f) 7 (c + 8) (17 + q))) else 0) else 0) N = dsum (fun q => (f c * f i) * (tx (av_E A N f) 7 (i + 8) (17 + q) * tx (av_E A N f) 7 (c + 8) (17 + q))) N := dsum_congr N (fun q _ => by rw [if_pos rfl, if_pos rfl]; grind)
          rw [e3, dsum_mul, au_vv A N f (by omega) (by omega) (by omega), if_pos rfl]; grind)
      rw [e2, dsum_mul]; grind
  rw [e] at hsq
  have := Int.mul_pos hd (show 0 < - ah_dou A N f by omega)
  rw [Int.mul_neg] at this
  omega
theorem fs_st1 (hB : av_B A N B 12 M) (f : Nat → Int) (hf : ∀ i, i < 8 → -1 ≤ f i ∧ f i ≤ 1) {c : Nat} {K : Int} (hK : 0 ≤ K) (hc : ∀ i, i < 7 → pw (av_E A N f) i = true → -K ≤ tx (av_E A N f) 7 (i + 8) c ∧ tx (av_E A N f) 7 (i + 8) c ≤ K) : -(7 * K) ≤ ah_st A N f c ∧ ah_st A N f c ≤ 7 * K := by
  unfold ah_st
  have q := dsum_bd (h := fun i => if pw (av_E A N f) i = true then f i * tx (av_E A N f) 7 (i + 8) c else 0) (K := K) 7 (fun i hi => by
    show -K ≤ (if pw (av_E A N f) i = true then f i * tx (av_E A N f) 7 (i + 8) c else 0) ∧ (if pw (av_E A N f) i = true then f i * tx (av_E A N f) 7 (i + 8) c else 0) ≤ K
    cases w : pw (av_E A N f) i with
    | false => rw [if_neg (by decide)]; omega
    | true =>
      rw [if_pos rfl]
      have a := hf i (by omega)
      have b := hc i hi w
      have o : f i = -1 ∨ f i = 0 ∨ f i = 1 := by omega
      rcases o with o | o | o <;> rw [o] <;> omega)
  exact q
theorem fs_d1 (hB : av_B A N B 12 M) (f : Nat → Int) (hf : ∀ i, i < 8 → -1 ≤ f i ∧ f i ≤ 1) : ah_dou A N f ≤ 49 * B ^ 6 := by
  have p6 := ipow_pos hB.2.2.2.1 6
  unfold ah_dou
  have q := dsum_bd (h := fun c => if pw (av_E A N f) c = true then - (f c * ah_st A N f (c + 8)) else 0) (K := 7 * B ^ 6) 7 (fun c hc => by
    show -(7 * B ^ 6) ≤ (if pw (av_E A N f) c = true then - (f c * ah_st A N f (c + 8)) else 0) ∧ (if pw (av_E A N f) c = true then - (f c * ah_st A N f (c + 8)) else 0) ≤ 7 * B ^ 6
    have s := fs_st1 A N hB f hf (c := c + 8) (K := B ^ 6) (by omega) (fun i hi w => ag_w A N f hB (c := 7) (x := i + 8) (by omega) (Or.inr ⟨by omega, by omega, by rw [show i + 8 - 8 = i by omega]; exact w⟩) (by omega))
    have a := hf c (by omega)
    cases w : pw (av_E A N f) c with
    | false => rw [if_neg (by decide)]; omega
    | true =>
      rw [if_pos rfl]
      have o : f c = -1 ∨ f c = 0 ∨ f c = 1 := by omega
      rcases o with o | o | o <;> rw [o] <;> omega)
  have e : ((7 : Nat) : Int) * (7 * B ^ 6) = 49 * B ^ 6 := by
    have : ((7 : Nat) : Int) = 7 := rfl
    rw [this]; omega
  omega
theorem fs_dou0 (hs : fs A N n Y p) (hB : av_B A N B 12 M) (hn : fs_n B M) (h : ∀ i, i < 7 → -1 ≤ (F i).toInt ∧ (F i).toInt ≤ 1) (hd : 49 * B ^ 6 < 2 ^ 63) : 0 ≤ (cl_dou Y F).toInt ∧ (cl_dou Y F).toInt ≤ 49 * B ^ 6 := by
  rw [ah_cdou A N (fr_f F) hB hn.1 hn.2.1 hs.2.2.1 (F := F) (fun i hi => (if_pos hi).symm)]
  have a := fs_d0 A N (fr_f F)
  have b := fs_d1 A N hB (fr_f F) (fs_f1 h)
  rw [i64_small (by omega) (by omega)]
  exact ⟨a, b⟩
theorem fs_v1 (hB : av_B A N B 12 M) (f : Nat → Int) (hf : ∀ i, i < 8 → -1 ≤ f i ∧ f i ≤ 1) {K : Int} (hK : 0 ≤ K) (hKK : B ^ 11 * M ≤ K * K) : -(7 * K) ≤ ah_st A N f 7 ∧ ah_st A N f 7 ≤ 7 * K := by
  have b1 := hB.2.2.2.1
  refine fs_st1 A N hB f hf hK (fun i hi w => ?_)
  have cs := au_cs A N f (c := 7) (x := i + 8) (y := 7) (by omega) (by omega) (by omega) (fun _ => by rw [show i + 8 - 8 = i by omega]; exact ⟨hi, w⟩) (fun z => absurd (show 7 < 8 by omega) z)
  have z1 := ag_zv A N f hB (c := 7) (by omega) hi w
  have z2 : au_z A N f 7 7 ≤ B ^ 6 * M := by
    have hd := td_pos (av_E A N f) 7
    unfold au_z; rw [if_pos (by omega)]
    exact ml_le (by omega) (av_nn A N 7) (ag_td A N f hB (by omega)) hB.2.2.1
  have n1 := au_zn A N f (c := 7) (x := i + 8) (by omega) (by omega)
  have n2 := au_zn A N f (c := 7) (x := 7) (by omega) (by omega)
  have q := ml_le n1 n2 z1 z2
  have e : B ^ 5 * (B ^ 6 * M) = B ^ 11 * M := by rw [← Int.mul_assoc, ← Int.pow_add]
  exact sq_le hK (by omega)
theorem fs_val0 (hs : fs A N n Y p) (hB : av_B A N B 12 M) (hn : fs_n B M) (h : ∀ i, i < 7 → -1 ≤ (F i).toInt ∧ (F i).toInt ≤ 1) {K : Int} (hK : 0 ≤ K) (hKK : B ^ 11 * M ≤ K * K) (hK2 : 7 * K < 2 ^ 63) : -(7 * K) ≤ (cl_val Y F).toInt ∧ (cl_val Y F).toInt ≤ 7 * K := by
  rw [ah_cval A N (fr_f F) hB hn.1 hn.2.1 hs.2.2.1 (F := F) (fun i hi => (if_pos hi).symm)]
  have b := fs_v1 A N hB (fr_f F) (fs_f1 h) hK hKK
  rw [i64_small (by omega) (by omega)]
  exact b
theorem fs_sum0 (hs : fs A N n Y p) (hB : av_B A N B 12 M) (hn : fs_n B M) : 0 ≤ (cl_sum Y).toInt := by
  rw [ah_csum A N (fun _ => 0) hB hn.1 hn.2.1 hs.2.2.1]
  exact (ax_psd A N _ (c := 7) (i := 7) (by omega) (by omega)).1
/-- the sum that is left: class and model -/
theorem fs_su (hs : fs A N n Y p) (hB : av_B A N B 12 M) (hn : fs_n B M) {s : Nat → Int64} (hss : ∀ k, k < n + 1 → (s k).toInt = av_G A N (kp n k) 7) {Φ : Int} (hΦ : 0 ≤ Φ) (hg : ∀ i, i < 7 → -Φ ≤ av_G A N i 7 ∧ av_G A N i 7 ≤ Φ) (h3 : B ^ 5 * (8 * (Φ * B ^ 6)) < 2 ^ 63) {sq : Int64} (hsq : sq.toInt = av_G A N 7 7) : md_kn (n + 1) p s = true ∧ cl_sum Y = sq * md_b (n + 1) p - md_val (n + 1) p s s := by
  obtain ⟨f, hf⟩ : ∃ f : Nat → Int, f = fun i => if i < 7 then av_G A N i 7 else 0 := ⟨_, rfl⟩
  have f7 : f 7 = 0 := by rw [hf]; exact if_neg (by omega)
  have fi : ∀ i, i < 7 → f i = av_G A N i 7 := fun i hi => by rw [hf]; exact if_pos hi
  have hb : ∀ i, i < 8 → -Φ ≤ f i ∧ f i ≤ Φ := fun i hi => by
    by_cases e : i = 7
    · rw [e, f7]; omega
    · rw [fi i (by omega)]; exact hg i (by omega)
  have hH : mp_H A N f n p s := by
    obtain ⟨a1, a2, a3, a4⟩ := hs
    refine ⟨a1, a2, fun i h1 h2 => ?_, f7, a4, fun i hi => ?_⟩
    · rw [fi i (by omega)]
      exact dsum_zero N (fun q hq => by rw [a2 q hq i h1 h2]; omega)
    · have hk : kp n i < 7 := by unfold kp; by_cases e : i = n; (rw [if_pos e]; omega); (rw [if_neg e]; omega)
      rw [fi _ hk]; exact hss i hi
  obtain ⟨τ, hI⟩ := mp_all A N f n hB hn.1 hn.2.1 hΦ hb h3 hH
  refine ⟨(mp_kn A N f n hH hI).mpr (fun c hc w => ah_sk A N f fi f7 hc w), ?_⟩
  have e1 := ah_csum A N f hB hn.1 hn.2.1 hs.2.2.1
  have e2 := ah_sum A N f fi
  have e3 := ah_cby A N f hB hn.1 hn.2.1 hs.2.2.1
  rw [mp_val A N f n hH hI hss, ← fs_b A N n hs hB hn, ← Int64.ofInt_toInt (cl_sum Y), e1, e2, Int64.ofInt_sub, Int64.ofInt_mul, ← hsq, Int64.ofInt_toInt, ← e3, Int64.ofInt_toInt]
end FS
