/-! ===== races told, statements, the whole text ===== -/
section TT2
variable {b : Nat → Int32} {L : Nat}
theorem cr_TA {n : Nat} (hn : n ≤ 6) {v : Int32} {a fl : Nat} (ha : a ≤ L + 1) : cr_R b L (ts_cr b L n 1 (tkn b L v a) fl 0 0) (sr_crewT b L n 0 0 a) fl (sr_crewT b L n 0 0 a).1 0 := by
  have ec : ts_cr b L n 1 (tkn b L v a) fl 0 0 = if tk_k b L (sr_skip b L a) = 1 then ts_cl b L n 1 (3 + 1) (tkn b L v a) fl 0 0 else (false, tkn b L v a, 1 + 8 * sr_skip b L a, 0, 0) := rfl
  rw [ec]
  by_cases h : tk_k b L (sr_skip b L a) = 1
  · have hnum := num_is (tk_num.mp h)
    have em : sr_crewT b L n 0 0 a = sr_crewL b L n 0 0 (L + 2 + 1) 0 0 a 0 := ((if_pos rfl).trans (if_pos hnum)).symm
    rw [if_pos h, em]
    exact cr_A hn (L + 2 + 1) 3 0 0 v a 0 fl (by omega) ha (by decide) (by decide) (by decide)
  · have h0 : ¬ sr_numF b L (sr_skip b L a) = 0 := fun z => h (tk_num.mpr z)
    have eF : sr_rowF b L (sr_skip b L a) n 0 0 0 = 1 + 8 * sr_skip b L a := (if_pos h0).trans (numF_or h0)
    rw [if_neg h]
    unfold sr_crewT
    rw [eF, cr_f _ _ _ _ _ (by omega)]
    exact ⟨fun z => absurd z (by show ¬ 1 + 8 * sr_skip b L a = 0; omega), fun _ => Or.inl ⟨rfl, rfl⟩⟩
theorem cr_TB {n : Nat} (hn : n ≤ 6) {v : Int32} {a fl ca : Nat} (ha : a ≤ L + 1) (hc : ca < 64) : cr_R b L (ts_cr b L n 0 (tkn b L v a) fl ca 0) (sr_crewT b L n ca 1 a) fl ca (sr_crewT b L n ca 1 a).1 := by
  have ec : ts_cr b L n 0 (tkn b L v a) fl ca 0 = if tk_k b L (sr_skip b L a) = 1 then ts_cl b L n 0 (1 + sr_bits ca) (tkn b L v a) fl ca 0 else (false, tkn b L v a, 1 + 8 * sr_skip b L a, ca, 0) := rfl
  rw [ec, Nat.add_comm 1 (sr_bits ca)]
  by_cases h : tk_k b L (sr_skip b L a) = 1
  · have hnum := num_is (tk_num.mp h)
    have em : sr_crewT b L n ca 1 a = sr_crewL b L n ca 1 (L + 2 + 1) 0 0 a 0 := ((if_pos rfl).trans (if_pos hnum)).symm
    rw [if_pos h, em]
    exact cr_B hn (L + 2 + 1) (sr_bits ca) 0 ca v a 0 fl (by omega) ha (by decide) hc (by show 0 + sr_bits ca = _; omega)
  · have h0 : ¬ sr_numF b L (sr_skip b L a) = 0 := fun z => h (tk_num.mpr z)
    have eF : sr_rowF b L (sr_skip b L a) n 0 ca 1 = 1 + 8 * sr_skip b L a := (if_pos h0).trans (numF_or h0)
    rw [if_neg h]
    unfold sr_crewT
    rw [eF, cr_f _ _ _ _ _ (by omega)]
    exact ⟨fun z => absurd z (by show ¬ 1 + 8 * sr_skip b L a = 0; omega), fun _ => Or.inl ⟨rfl, rfl⟩⟩
/-- what a crew told is -/
def cr_I (n other lim crew : Nat) : Prop := crew < 2 ^ n ∧ crew &&& other = 0 ∧ sr_bits crew ≤ lim
theorem cr_I1 : ∀ n, n < 7 → ∀ x, x < n → ∀ c, c < 2 ^ n → c ||| 1 * 2 ^ x < 2 ^ n := by decide +kernel
theorem cr_row {n crew other sc s : Nat} (hn : n ≤ 6) (ho : other < 64) (hI : cr_I n other (if sc = 0 then 3 else sr_bits other) crew) (h0 : sr_rowF b L s n crew other sc = 0) : cr_I n other (if sc = 0 then 3 else sr_bits other) (sr_rowC b L s n crew other sc) ∧ sr_bits (sr_rowC b L s n crew other sc) = sr_bits crew + 1 := by
  have c64 : crew < 64 := by have := sr_pw hn; have := hI.1; omega
  unfold sr_rowF at h0
  by_cases f : sr_numF b L s = 0
  · rw [if_neg (fun z => z f)] at h0
    by_cases hr : sr_isIn (sr_numR b L s) (nI 0) (nI n - nI 1) = true
    · rw [if_neg (fun z => z hr)] at h0
      by_cases ht : (crew ||| other).testBit (sr_rowX b L s) = true
      · rw [if_pos ht] at h0; omega
      · rw [if_neg ht] at h0
        by_cases hl : sr_bits crew = if sc = 0 then 3 else sr_bits other
        · rw [if_pos hl] at h0; omega
        · have h0' : sr_rowF b L s n crew other sc = 0 := (if_neg (fun z => z f)).trans ((if_neg (fun z => z hr)).trans ((if_neg ht).trans (if_neg hl)))
          obtain ⟨x, hx, ex⟩ := (sr_row_n hn).mp hr
          have eX : sr_rowX b L s = x := by unfold sr_rowX; rw [ex, nI_clamp (by omega)]
          rw [eX] at ht
          unfold sr_rowC
          rw [if_pos h0', eX]
          have cb := (cr_bit x (by omega) crew c64).2 (or_bit ht).1
          refine ⟨⟨cr_I1 n (by omega) x hx crew hI.1, ?_, by rw [cb.1]; have := hI.2.2; omega⟩, cb.1⟩
          have ob := (cr_bit x (by omega) other ho).1.mpr (or_bit ht).2
          rw [Nat.and_comm, Nat.and_or_distrib_left, Nat.and_comm other crew, hI.2.1, ob]; rfl
    · rw [if_pos hr] at h0; omega
  · rw [if_pos f] at h0; exact absurd h0 f
theorem cr_Il {n other sc : Nat} (hn : n ≤ 6) (ho : other < 64) : ∀ k crew f a r, cr_I n other (if sc = 0 then 3 else sr_bits other) crew → (sr_crewL b L n other sc k crew f a r).2.1 = 0 → cr_I n other (if sc = 0 then 3 else sr_bits other) (sr_crewL b L n other sc k crew f a r).1 ∧ sr_bits crew ≤ sr_bits (sr_crewL b L n other sc k crew f a r).1 := by
  intro k
  induction k with
  | zero => intro crew f a r hI _; exact ⟨hI, Nat.le_refl _⟩
  | succ k ih =>
    intro crew f a r hI h0
    by_cases hf : f = 0
    · by_cases hnum : sr_isnum b L (sr_skip b L a) = true
      · have em : sr_crewL b L n other sc (k + 1) crew f a r = sr_crewL b L n other sc k (sr_rowC b L (sr_skip b L a) n crew other sc) (sr_rowF b L (sr_skip b L a) n crew other sc) (sr_numA b L (sr_skip b L a)) (sr_skip b L a) := (if_pos hf).trans (if_pos hnum)
        rw [em] at h0 ⊢
        by_cases hF : sr_rowF b L (sr_skip b L a) n crew other sc = 0
        · have c := cr_row hn ho hI hF
          have i := ih _ _ _ _ c.1 h0
          exact ⟨i.1, by omega⟩
        · rw [cr_f _ _ _ _ _ hF] at h0; exact absurd h0 hF
      · have em : sr_crewL b L n other sc (k + 1) crew f a r = (crew, f, sr_skip b L a, r) := (if_pos hf).trans (if_neg hnum)
        rw [em]; exact ⟨hI, Nat.le_refl _⟩
    · rw [cr_f _ _ _ _ _ hf] at h0; exact absurd h0 hf
theorem cr_It {n other sc a : Nat} (hn : n ≤ 6) (ho : other < 64) (h0 : (sr_crewT b L n other sc a).2.1 = 0) : cr_I n other (if sc = 0 then 3 else sr_bits other) (sr_crewT b L n other sc a).1 ∧ 1 ≤ sr_bits (sr_crewT b L n other sc a).1 := by
  have p0 : 0 < 2 ^ n := Nat.pow_pos (by omega)
  have i0 : cr_I n other (if sc = 0 then 3 else sr_bits other) 0 := ⟨p0, Nat.zero_and _, Nat.zero_le _⟩
  unfold sr_crewT at h0 ⊢
  by_cases hF : sr_rowF b L (sr_skip b L a) n 0 other sc = 0
  · have c := cr_row hn ho i0 hF
    have i := cr_Il hn ho _ _ _ _ _ c.1 h0
    have z : sr_bits 0 = 0 := by decide
    exact ⟨i.1, by omega⟩
  · rw [cr_f _ _ _ _ _ hF] at h0; exact absurd h0 hF
/-- a margin told -/
theorem nm_dig {v : Int32} (h : sr_digit v = true) : ∃ d, d ≤ 9 ∧ v = nI (48 + d) := by
  obtain ⟨x, h1, h2, e⟩ := isIn_n (k := v) (a := 48) (b := 57) (by decide) (by omega) h
  exact ⟨x - 48, by omega, by rw [e]; congr 1; omega⟩
theorem nm_run (b : Nat → Int32) (L : Nat) : ∀ d s, L - s = d → ∀ j, s + j < sr_scan sr_digit b L s → sr_digit (b (s + j)) = true := by
  intro d
  induction d with
  | zero =>
    intro s hd j hj
    have : sr_scan sr_digit b L s = s := sr_scan_f (by omega)
    omega
  | succ d ih =>
    intro s hd j hj
    by_cases e : s < L ∧ sr_digit (b s) = true
    · by_cases j0 : j = 0
      · rw [j0]; exact e.2
      · have e2 : sr_scan sr_digit b L s = sr_scan sr_digit b L (s + 1) := sr_scan_t e.1 e.2
        rw [e2] at hj
        have := ih (s + 1) (by omega) (j - 1) (by rw [show s + 1 + (j - 1) = s + j by omega]; exact hj)
        rw [show s + 1 + (j - 1) = s + j by omega] at this; exact this
    · have : sr_scan sr_digit b L s = s := sr_scan_f e
      omega
theorem nm_val {p : Nat} : ∀ j, j ≤ 3 → (∀ i, i < j → sr_digit (b (p + i)) = true) → ∃ m, m < 10 ^ j ∧ sr_num b p j = nI m
  | 0, _, _ => ⟨0, by decide, rfl⟩
  | j + 1, hj, h => by
    obtain ⟨m, hm, e⟩ := nm_val j (by omega) (fun i hi => h i (by omega))
    obtain ⟨d, hd, ed⟩ := nm_dig (h j (by omega))
    refine ⟨10 * m + d, by rw [Nat.pow_succ]; omega, ?_⟩
    show (if j < 3 then nI 10 * sr_num b p j + b (p + j) - nI 48 else sr_num b p j) = _
    rw [if_pos (by omega), e, ed, pk_mul, nI_add, pk_sub (by omega)]
    congr 1; omega
theorem nm_in {s : Nat} (h : sr_numF b L s = 0) : sr_isIn (sr_numR b L s) (-999) (nI 999) = true := by
  have hn := num_is h
  have hi := num_iff.mp hn
  have h3 : sr_numE b L s - sr_dfst b L s ≤ 3 := by
    unfold sr_numF at h
    rw [if_pos hn] at h
    by_cases q : 3 < sr_numE b L s - sr_dfst b L s
    · rw [if_pos q] at h; omega
    · omega
  obtain ⟨m, hm, e⟩ := nm_val (b := b) (p := sr_dfst b L s) (sr_numE b L s - sr_dfst b L s) h3 (fun i hi => nm_run b L _ (sr_dfst b L s) rfl i (by show _ < sr_numE b L s; omega))
  have p3 : 10 ^ (sr_numE b L s - sr_dfst b L s) ≤ 10 ^ 3 := Nat.pow_le_pow_right (by omega) h3
  have m999 : m < 1000 := by omega
  unfold sr_numR
  rw [if_pos hn]
  unfold sr_numV
  rw [e]
  have all : (List.range 1000).all (fun m => sr_isIn (-nI m) (-999) (nI 999) && sr_isIn (nI m) (-999) (nI 999)) = true := by decide +kernel
  rw [List.all_eq_true] at all
  have := all m (List.mem_range.mpr m999)
  rw [Bool.and_eq_true] at this
  split
  · exact this.1
  · exact this.2
theorem st_let (hb : sr_bytes b) {s : Nat} : sr_isIn (sr_at1 b L s) (nI 97) (nI 122) = true ↔ s < L ∧ sr_letter (b s) = true := by
  unfold sr_at1
  by_cases h : s < L
  · rw [if_pos h]
    constructor
    · intro q
      obtain ⟨x, h1, h2, e⟩ := isIn_n (a := 97) (b := 122) (by decide) (by omega) q
      have := (by_255 hb s x (by omega)).mp e
      refine ⟨h, ?_⟩
      rw [this, ← e]; exact q
    · rintro ⟨_, q⟩
      obtain ⟨x, h1, h2, e⟩ := isIn_n (a := 97) (b := 122) (by decide) (by omega) (show sr_isIn (b s) (nI 97) (nI 122) = true from q)
      rw [(by_255 hb s x (by omega)).mpr e, ← e]; exact q
  · rw [if_neg h]
    exact ⟨fun z => absurd z (by decide), fun z => absurd z.1 h⟩
/-- a statement: class and model -/
def st_R (b : Nat → Int32) (L : Nat) (W : ts_W) (F A : Nat) (now' : Nat → Int32) (fl : Nat) : Prop :=
  (F = 0 → W.1 = true ∧ (∃ v a, a ≤ L + 1 ∧ W.2.1 = tkn b L v a ∧ sr_skip b L a = sr_skip b L A) ∧ W.2.2.1 = fl ∧ ∃ n r, sr_logOk now' n r ∧ 0 ≤ (now' 1).toInt ∧ ts_lg W.2.2.2.2.2 now' n r) ∧ (¬ F = 0 → (W.1 = false ∧ W.2.2.1 = F) ∨ (W.1 = true ∧ ¬ W.2.1.1 = 2 ∧ F = 1 + 8 * W.2.1.2.1))
theorem ts_lg_app {dr : Nat → Nat → Int32} {now : Nat → Int32} {n r : Nat} {x y m t : Int32} (h : ts_lg dr now n r) : ts_lg (ts_app dr r x y m t) (sr_more now r x y m t) n (r + 1) := by
  obtain ⟨a1, a2, a3, a4⟩ := h
  have u : ∀ o j, ts_app dr r x y m t o j = if o = 9 ∧ j = 2 then nI (r + 1) else if o = 13 ∧ j = r then t else if o = 12 ∧ j = r then m else if o = 11 ∧ j = r then y else if o = 10 ∧ j = r then x else dr o j := fun o j => rfl
  have em : sr_more now r x y m t 1 = now 1 := by unfold sr_more; (repeat' split) <;> first | rfl | omega
  have mm : ∀ q d, d < 4 → sr_more now r x y m t (3 + 4 * q + d) = if q = r then (if d = 0 then x else if d = 1 then y else if d = 2 then m else t) else now (3 + 4 * q + d) := fun q d hd => by
    unfold sr_more
    (repeat' split) <;> first | rfl | omega
  refine ⟨(u 9 0).trans a1, ((u 9 1).trans a2).trans em.symm, u 9 2, fun q hq => ?_⟩
  have m0 := mm q 0 (by omega)
  rw [Nat.add_zero] at m0
  rw [m0, mm q 1 (by omega), mm q 2 (by omega), mm q 3 (by omega), u, u, u, u]
  by_cases e : q = r
  · subst e
    simp
  · obtain ⟨b1, b2, b3, b4⟩ := a4 q (by omega)
    simp [e]
    exact ⟨b1, b2, b3, b4⟩
theorem st_race (hb : sr_bytes b) {now : Nat → Int32} {n r : Nat} {dr : Nat → Nat → Int32} (hlo : sr_logOk now n r) (hl : 0 ≤ (now 1).toInt) (hd : ts_lg dr now n r) {s : Nat} {v : Int32} {fl ca cb : Nat} (hs : s ≤ L) (hk : tk_k b L s = 6) : st_R b L (ts_race b L n (6, s, v, sr_wend b L s) fl ca cb dr r) (sr_raceF b L n (sr_wend b L s) r s) (sr_raceA b L n (sr_wend b L s)) (sr_raceN b L n (sr_wend b L s) now r) fl := by
  have hn := hlo.1.2.1
  have wl := sr_wend_leL (b := b) hs
  unfold sr_raceF ts_race
  by_cases r12 : r = 12
  · rw [if_pos r12, if_pos r12]
    exact ⟨fun z => absurd z (by omega), fun _ => Or.inl ⟨rfl, rfl⟩⟩
  rw [if_neg r12, if_neg r12]
  have R1 := cr_TA (b := b) (L := L) hn (v := v) (a := sr_wend b L s) (fl := fl) (by omega)
  have e1 : ts_c1 b L n (6, s, v, sr_wend b L s) fl = ts_cr b L n 1 (tkn b L v (sr_wend b L s)) fl 0 0 := rfl
  have m1 : rt_c1 b L n (sr_wend b L s) = sr_crewT b L n 0 0 (sr_wend b L s) := rfl
  rw [← e1, ← m1] at R1
  by_cases f1 : (rt_c1 b L n (sr_wend b L s)).2.1 = 0
  · rw [if_neg (c := ¬ (rt_c1 b L n (sr_wend b L s)).2.1 = 0) (fun z => z f1)]
    obtain ⟨g1, ⟨v1, a1, la1, t1, p1⟩, g2, g3, g4⟩ := R1.1 f1
    have I1 := cr_It (b := b) (L := L) (other := 0) (sc := 0) (a := sr_wend b L s) hn (by decide) (by rw [← m1]; exact f1)
    rw [← m1] at I1
    have c64 : (rt_c1 b L n (sr_wend b L s)).1 < 64 := by have := sr_pw hn; have := I1.1.1; omega
    have s1 : rt_s1 b L n (sr_wend b L s) = sr_skip b L a1 := by unfold rt_s1; rw [← p1, sr_skip_idem]
    have k1 : (ts_c1 b L n (6, s, v, sr_wend b L s) fl).2.1.1 = tk_k b L (rt_s1 b L n (sr_wend b L s)) := by rw [t1, s1]; rfl
    have q1 : (ts_c1 b L n (6, s, v, sr_wend b L s) fl).2.1.2.1 = rt_s1 b L n (sr_wend b L s) := by rw [t1, s1]; rfl
    have sg1 := tk_sg hb (L := L) (s := rt_s1 b L n (sr_wend b L s))
    rw [if_pos g1, k1, q1]
    by_cases c3 : tk_k b L (rt_s1 b L n (sr_wend b L s)) = 3
    · rw [if_pos c3, if_neg (c := ¬ sr_at1 b L (rt_s1 b L n (sr_wend b L s)) = nI 58) (fun z => z (sg1.2.1.mp c3))]
      have l1 : rt_s1 b L n (sr_wend b L s) < L := sr_at1_lt (n := 58) (by decide) (sg1.2.1.mp c3)
      have te := sg1.2.2 (Or.inr c3)
      have R2 := cr_TB (b := b) (L := L) hn (v := tk_v b L (rt_s1 b L n (sr_wend b L s)) v1) (a := rt_s1 b L n (sr_wend b L s) + 1) (fl := fl) (ca := (rt_c1 b L n (sr_wend b L s)).1) (by omega) c64
      have e2 : ts_c2 b L n (6, s, v, sr_wend b L s) fl = ts_cr b L n 0 (tkn b L (tk_v b L (rt_s1 b L n (sr_wend b L s)) v1) (rt_s1 b L n (sr_wend b L s) + 1)) fl (rt_c1 b L n (sr_wend b L s)).1 0 := by
        unfold ts_c2
        rw [g2, g3, g4, t1]
        show ts_cr b L n 0 (tkn b L (tk_v b L (sr_skip b L a1) v1) (tk_e b L (sr_skip b L a1))) fl _ 0 = _
        rw [← s1, te]
      have m2 : rt_c2 b L n (sr_wend b L s) = sr_crewT b L n (rt_c1 b L n (sr_wend b L s)).1 1 (rt_s1 b L n (sr_wend b L s) + 1) := rfl
      rw [← e2, ← m2] at R2
      by_cases f2 : (rt_c2 b L n (sr_wend b L s)).2.1 = 0
      · rw [if_neg (c := ¬ (rt_c2 b L n (sr_wend b L s)).2.1 = 0) (fun z => z f2)]
        obtain ⟨h1, ⟨v2, a2, la2, t2, p2⟩, h2, h3, h4⟩ := R2.1 f2
        have I2 := cr_It (b := b) (L := L) (other := (rt_c1 b L n (sr_wend b L s)).1) (sc := 1) (a := rt_s1 b L n (sr_wend b L s) + 1) hn c64 (by rw [← m2]; exact f2)
        rw [← m2] at I2
        have d64 : (rt_c2 b L n (sr_wend b L s)).1 < 64 := by have := sr_pw hn; have := I2.1.1; omega
        have s2 : rt_s2 b L n (sr_wend b L s) = sr_skip b L a2 := by unfold rt_s2; rw [← p2, sr_skip_idem]
        have k2 : (ts_c2 b L n (6, s, v, sr_wend b L s) fl).2.1.1 = tk_k b L (rt_s2 b L n (sr_wend b L s)) := by rw [t2, s2]; rfl
        have q2 : (ts_c2 b L n (6, s, v, sr_wend b L s) fl).2.1.2.1 = rt_s2 b L n (sr_wend b L s) := by rw [t2, s2]; rfl
        have wd7 := tk_word (b := b) (L := L) (s := rt_s2 b L n (sr_wend b L s)) (k := 7) (c := 89) (by omega)
        rw [if_pos h1, k2, q2, h3, h4]
        by_cases c7 : tk_k b L (rt_s2 b L n (sr_wend b L s)) = 7
        · rw [if_pos c7, if_neg (c := ¬ sr_word b L (rt_s2 b L n (sr_wend b L s)) = nI 89) (fun z => z (wd7.mp c7)), sr_bc_n _ d64, sr_bc_n _ c64]
          have bl : sr_bits (rt_c2 b L n (sr_wend b L s)).1 ≤ sr_bits (rt_c1 b L n (sr_wend b L s)).1 := I2.1.2.2
          have b3 : sr_bits (rt_c1 b L n (sr_wend b L s)).1 ≤ 3 := I1.1.2.2
          by_cases lt : sr_bits (rt_c2 b L n (sr_wend b L s)).1 < sr_bits (rt_c1 b L n (sr_wend b L s)).1
          · rw [if_pos ((nI_ltI (by omega) (by omega)).mpr lt), if_pos lt]
            exact ⟨fun z => absurd z (by omega), fun _ => Or.inl ⟨rfl, rfl⟩⟩
          · rw [if_neg (fun z => lt ((nI_ltI (by omega) (by omega)).mp z)), if_neg lt]
            have w7 := tk_wde (b := b) (L := L) (by omega) (by omega) c7 v2
            have l2 := w7.1
            have wl2 := sr_wend_leL (b := b) (L := L) (s := rt_s2 b L n (sr_wend b L s)) (by omega)
            -- the margin
            have em : ts_m b L n (6, s, v, sr_wend b L s) fl dr r = ts_mar b L (tkn b L v2 (sr_wend b L (rt_s2 b L n (sr_wend b L s)))) fl dr r (rt_c1 b L n (sr_wend b L s)).1 (rt_c2 b L n (sr_wend b L s)).1 := by
              unfold ts_m
              rw [h2, h3, h4, t2]
              show ts_mar b L (tkn b L (tk_v b L (sr_skip b L a2) v2) (tk_e b L (sr_skip b L a2))) fl dr r _ _ = _
              rw [← s2, w7.2.1, w7.2.2]
            rw [em]
            have s3 : sr_skip b L (sr_wend b L (rt_s2 b L n (sr_wend b L s))) = rt_s3 b L n (sr_wend b L s) := rfl
            unfold ts_mar
            have kt : (tkn b L v2 (sr_wend b L (rt_s2 b L n (sr_wend b L s)))).1 = tk_k b L (rt_s3 b L n (sr_wend b L s)) := rfl
            rw [kt]
            by_cases f3 : sr_numF b L (rt_s3 b L n (sr_wend b L s)) = 0
            · rw [if_pos (tk_num.mpr f3), if_neg (c := ¬ sr_numF b L (rt_s3 b L n (sr_wend b L s)) = 0) (fun z => z f3)]
              have nk := num_k (num_is f3) v2
              have l3 : rt_s3 b L n (sr_wend b L s) < L := (num_of (num_is f3)).1
              have nA := sr_numA_leL (b := b) (L := L) (s := rt_s3 b L n (sr_wend b L s)) (by omega)
              have ev : (tkn b L v2 (sr_wend b L (rt_s2 b L n (sr_wend b L s)))).2.2.1 = sr_numR b L (rt_s3 b L n (sr_wend b L s)) := nk.2.1
              have ee : (tkn b L v2 (sr_wend b L (rt_s2 b L n (sr_wend b L s)))).2.2.2 = sr_numA b L (rt_s3 b L n (sr_wend b L s)) := nk.2.2
              have k4 : (tkn b L (sr_numR b L (rt_s3 b L n (sr_wend b L s))) (sr_numA b L (rt_s3 b L n (sr_wend b L s)))).1 = tk_k b L (rt_s4 b L n (sr_wend b L s)) := rfl
              have l4 : rt_s4 b L n (sr_wend b L s) ≤ L := sr_skip_le b nA.1
              have i4 : sr_skip b L (rt_s4 b L n (sr_wend b L s)) = rt_s4 b L n (sr_wend b L s) := sr_skip_idem b L _
              have w8 := tk_word (b := b) (L := L) (s := rt_s4 b L n (sr_wend b L s)) (k := 8) (c := 688) (by omega)
              have w9 := tk_word (b := b) (L := L) (s := rt_s4 b L n (sr_wend b L s)) (k := 9) (c := 147182) (by omega)
              unfold ts_mt
              rw [ev, ee, k4]
              -- the log with the race
              have okc : ∀ t : Int32, sr_isIn t (-1) (nI 1) = true → sr_raceOk n (nI (rt_c1 b L n (sr_wend b L s)).1) (nI (rt_c2 b L n (sr_wend b L s)).1) (sr_numR b L (rt_s3 b L n (sr_wend b L s))) t = true := by
                intro t ht
                unfold sr_raceOk sr_crew
                rw [nm_in f3, ht, nI_clamp (by omega), nI_clamp (by omega), decide_eq_false (nI_pos (show (rt_c1 b L n (sr_wend b L s)).1 < 2 ^ 31 by omega)), decide_eq_false (nI_pos (show (rt_c2 b L n (sr_wend b L s)).1 < 2 ^ 31 by omega))]
                have x0 : ¬ (rt_c1 b L n (sr_wend b L s)).1 = 0 := fun z => by
                  have := I1.2; rw [z] at this; exact absurd this (by decide)
                have y0 : ¬ (rt_c2 b L n (sr_wend b L s)).1 = 0 := fun z => by
                  have := I2.2; rw [z] at this; exact absurd this (by decide)
                have dj : (rt_c1 b L n (sr_wend b L s)).1 &&& (rt_c2 b L n (sr_wend b L s)).1 = 0 := by rw [Nat.and_comm]; exact I2.1.2.1
                have cn : sr_crewN n (rt_c1 b L n (sr_wend b L s)).1 (rt_c2 b L n (sr_wend b L s)).1 = true := by
                  have q1 := I1.1.1
                  have q2 := I2.1.1
                  simp only [sr_crewN, Bool.and_eq_true, decide_eq_true_eq]
                  refine ⟨⟨⟨⟨⟨⟨?_, ?_⟩, ?_⟩, ?_⟩, ?_⟩, ?_⟩, ?_⟩ <;> first | omega | exact dj
                rw [cn]; rfl
              have fin : ∀ t : Int32, sr_isIn t (-1) (nI 1) = true → ∃ n' r', sr_logOk (sr_more now r (nI (rt_c1 b L n (sr_wend b L s)).1) (nI (rt_c2 b L n (sr_wend b L s)).1) (sr_numR b L (rt_s3 b L n (sr_wend b L s))) t) n' r' ∧ 0 ≤ ((sr_more now r (nI (rt_c1 b L n (sr_wend b L s)).1) (nI (rt_c2 b L n (sr_wend b L s)).1) (sr_numR b L (rt_s3 b L n (sr_wend b L s))) t) 1).toInt ∧ ts_lg (ts_app dr r (nI (rt_c1 b L n (sr_wend b L s)).1) (nI (rt_c2 b L n (sr_wend b L s)).1) (sr_numR b L (rt_s3 b L n (sr_wend b L s))) t) (sr_more now r (nI (rt_c1 b L n (sr_wend b L s)).1) (nI (rt_c2 b L n (sr_wend b L s)).1) (sr_numR b L (rt_s3 b L n (sr_wend b L s))) t) n' r' := by
                intro t ht
                refine ⟨n, r + 1, sr_okM hlo (by have := hlo.1.2.2.2; omega) (okc t ht), ?_, ts_lg_app hd⟩
                have e : ∀ x y m t, sr_more now r x y m t 1 = now 1 := fun x y m t => by unfold sr_more; simp; omega
                rw [e]; exact hl
              have lt := st_let hb (L := L) (s := rt_s4 b L n (sr_wend b L s))
              unfold sr_raceA sr_raceN sr_raceS
              by_cases hst : rt_st b L n (sr_wend b L s) = true
              · rw [if_pos hst, if_pos hst]
                have hle := lt.mp hst
                by_cases c8 : tk_k b L (rt_s4 b L n (sr_wend b L s)) = 8
                · have wd := tk_wde (b := b) (L := L) (by omega) (by omega) c8 (sr_numR b L (rt_s3 b L n (sr_wend b L s)))
                  have ww := sr_wend_leL (b := b) l4
                  rw [if_neg (c := rt_st b L n (sr_wend b L s) = true ∧ ¬ sr_word b L (rt_s4 b L n (sr_wend b L s)) = nI 688 ∧ ¬ sr_word b L (rt_s4 b L n (sr_wend b L s)) = nI 147182) (fun z => z.2.1 (w8.mp c8)), if_pos (c := tk_k b L (rt_s4 b L n (sr_wend b L s)) = 8 ∨ tk_k b L (rt_s4 b L n (sr_wend b L s)) = 9) (Or.inl c8), if_pos (w8.mp c8), c8]
                  refine ⟨fun _ => ⟨rfl, ⟨tk_v b L (rt_s4 b L n (sr_wend b L s)) (sr_numR b L (rt_s3 b L n (sr_wend b L s))), sr_wend b L (rt_s4 b L n (sr_wend b L s)), by omega, ?_, rfl⟩, rfl, fin (nI 1) (by decide)⟩, fun z => absurd rfl z⟩
                  show tkn b L (tk_v b L (rt_s4 b L n (sr_wend b L s)) (sr_numR b L (rt_s3 b L n (sr_wend b L s)))) (tk_e b L (rt_s4 b L n (sr_wend b L s))) = _
                  rw [wd.2.1]
                · by_cases c9 : tk_k b L (rt_s4 b L n (sr_wend b L s)) = 9
                  · have wd := tk_wde (b := b) (L := L) (by omega) (by omega) c9 (sr_numR b L (rt_s3 b L n (sr_wend b L s)))
                    have ww := sr_wend_leL (b := b) l4
                    rw [if_neg (c := rt_st b L n (sr_wend b L s) = true ∧ ¬ sr_word b L (rt_s4 b L n (sr_wend b L s)) = nI 688 ∧ ¬ sr_word b L (rt_s4 b L n (sr_wend b L s)) = nI 147182) (fun z => z.2.2 (w9.mp c9)), if_pos (c := tk_k b L (rt_s4 b L n (sr_wend b L s)) = 8 ∨ tk_k b L (rt_s4 b L n (sr_wend b L s)) = 9) (Or.inr c9), if_neg (fun z => c8 (w8.mpr z)), c9]
                    refine ⟨fun _ => ⟨rfl, ⟨tk_v b L (rt_s4 b L n (sr_wend b L s)) (sr_numR b L (rt_s3 b L n (sr_wend b L s))), sr_wend b L (rt_s4 b L n (sr_wend b L s)), by omega, ?_, rfl⟩, rfl, fin (-1) (by decide)⟩, fun z => absurd rfl z⟩
                    show tkn b L (tk_v b L (rt_s4 b L n (sr_wend b L s)) (sr_numR b L (rt_s3 b L n (sr_wend b L s)))) (tk_e b L (rt_s4 b L n (sr_wend b L s))) = _
                    rw [wd.2.1]
                  · rw [if_pos (c := rt_st b L n (sr_wend b L s) = true ∧ ¬ sr_word b L (rt_s4 b L n (sr_wend b L s)) = nI 688 ∧ ¬ sr_word b L (rt_s4 b L n (sr_wend b L s)) = nI 147182) ⟨hst, fun z => c8 (w8.mpr z), fun z => c9 (w9.mpr z)⟩, if_neg (c := tk_k b L (rt_s4 b L n (sr_wend b L s)) = 8 ∨ tk_k b L (rt_s4 b L n (sr_wend b L s)) = 9) (fun z => z.elim c8 c9)]
                    refine ⟨fun z => absurd z (by omega), fun _ => Or.inr ⟨rfl, ?_, rfl⟩⟩
                    show ¬ tk_k b L (rt_s4 b L n (sr_wend b L s)) = 2
                    intro z
                    have e : tk_k b L (rt_s4 b L n (sr_wend b L s)) = tk_wk b (rt_s4 b L n (sr_wend b L s)) (sr_wend b L (rt_s4 b L n (sr_wend b L s))) := (if_neg (by omega)).trans (if_pos hle.2)
                    rw [e] at z
                    unfold tk_wk at z; (repeat' split at z) <;> omega
              · have w0 := tk_w0 (b := b) (L := L) (fun z => hst (lt.mpr z))
                have c8 : ¬ tk_k b L (rt_s4 b L n (sr_wend b L s)) = 8 := fun z => by
                  have := w8.mp z; rw [w0] at this; exact absurd this (by decide)
                have c9 : ¬ tk_k b L (rt_s4 b L n (sr_wend b L s)) = 9 := fun z => by
                  have := w9.mp z; rw [w0] at this; exact absurd this (by decide)
                rw [if_neg (c := rt_st b L n (sr_wend b L s) = true ∧ ¬ sr_word b L (rt_s4 b L n (sr_wend b L s)) = nI 688 ∧ ¬ sr_word b L (rt_s4 b L n (sr_wend b L s)) = nI 147182) (fun z => hst z.1), if_neg (c := tk_k b L (rt_s4 b L n (sr_wend b L s)) = 8 ∨ tk_k b L (rt_s4 b L n (sr_wend b L s)) = 9) (fun z => z.elim c8 c9), if_neg hst, if_neg hst]
                have sm : ts_sm (tk_k b L (rt_s4 b L n (sr_wend b L s))) = nI 0 := (if_neg c8).trans (if_neg c9)
                rw [sm]
                exact ⟨fun _ => ⟨rfl, ⟨sr_numR b L (rt_s3 b L n (sr_wend b L s)), sr_numA b L (rt_s3 b L n (sr_wend b L s)), by omega, rfl, i4.symm⟩, rfl, fin (nI 0) (by decide)⟩, fun z => absurd rfl z⟩
            · rw [if_neg (fun z => f3 (tk_num.mp z)), if_pos (c := ¬ sr_numF b L (rt_s3 b L n (sr_wend b L s)) = 0) f3]
              exact ⟨fun z => absurd z f3, fun _ => Or.inl ⟨rfl, (numF_or f3).symm⟩⟩
        · rw [if_neg c7, if_pos (c := ¬ sr_word b L (rt_s2 b L n (sr_wend b L s)) = nI 89) (fun z => c7 (wd7.mpr z))]
          exact ⟨fun z => absurd z (by omega), fun _ => Or.inl ⟨rfl, rfl⟩⟩
      · rw [if_pos (c := ¬ (rt_c2 b L n (sr_wend b L s)).2.1 = 0) f2]
        rcases R2.2 f2 with ⟨x, y⟩ | ⟨x, y, z⟩
        · rw [if_neg (by rw [x]; decide)]
          exact ⟨fun z => absurd z f2, fun _ => Or.inl ⟨rfl, y⟩⟩
        · rw [if_pos x, if_neg (by rw [y]; decide)]
          exact ⟨fun z => absurd z f2, fun _ => Or.inl ⟨rfl, z.symm⟩⟩
    · rw [if_neg c3, if_pos (c := ¬ sr_at1 b L (rt_s1 b L n (sr_wend b L s)) = nI 58) (fun z => c3 (sg1.2.1.mpr z))]
      exact ⟨fun z => absurd z (by omega), fun _ => Or.inl ⟨rfl, rfl⟩⟩
  · rw [if_pos (c := ¬ (rt_c1 b L n (sr_wend b L s)).2.1 = 0) f1]
    rcases R1.2 f1 with ⟨x, y⟩ | ⟨x, y, z⟩
    · rw [if_neg (by rw [x]; decide)]
      exact ⟨fun z => absurd z f1, fun _ => Or.inl ⟨rfl, y⟩⟩
    · rw [if_pos x, if_neg (by rw [y]; decide)]
      exact ⟨fun z => absurd z f1, fun _ => Or.inl ⟨rfl, z.symm⟩⟩
end TT2
