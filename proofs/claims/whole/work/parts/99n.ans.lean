/-! ===== matches: even, odd, next ===== -/
theorem ix_fold {α β : Type} {R : α → β → Prop} (f : β → Nat × Nat → β) : ∀ (L : List (Nat × Nat)) (c : Nat → α) (z : β), (∀ m t, m < L.length → R (c m) t → R (c (m + 1)) (f t (L.getD m (0, 0)))) → R (c 0) z → R (c L.length) (L.foldl f z)
  | [], _, _, _, h0 => h0
  | p :: L, c, z, h, h0 => ix_fold f L (fun m => c (m + 1)) (f z p) (fun m t hm hr => h (m + 1) t (by simp; omega) hr) (h 0 z (by simp) h0)
theorem ml_F_mem {k N : Nat} : ∀ i, i ≤ N - 1 → ∀ p, p ∈ sr_fa (ml_F k) N i [] → sr_mt k p.1 p.2 = true ∧ 0 < p.1 ∧ p.1 < N ∧ 0 < p.2 ∧ p.2 < N
  | 0, _, p, hp => by
    have : p ∈ ([] : cl_L) := hp
    exact absurd this (by simp)
  | i + 1, hi, p, hp => by
    have hb : ∀ j, j ≤ N - 1 → ∀ p, p ∈ sr_fb (ml_F k) (1 + i) j (sr_fa (ml_F k) N i []) → sr_mt k p.1 p.2 = true ∧ 0 < p.1 ∧ p.1 < N ∧ 0 < p.2 ∧ p.2 < N := by
      intro j
      induction j with
      | zero => intro _ p hp; exact ml_F_mem i (by omega) p hp
      | succ j ih =>
        intro hj p hp
        have hp' : p ∈ ml_F k (1 + i) (1 + j) (sr_fb (ml_F k) (1 + i) j (sr_fa (ml_F k) N i [])) := hp
        unfold ml_F at hp'
        by_cases e : sr_mt k (1 + i) (1 + j) = true
        · rw [if_pos e, List.mem_append] at hp'
          rcases hp' with h | h
          · exact ih (by omega) p h
          · have : p = (1 + i, 1 + j) := by simpa using h
            rw [this]; exact ⟨e, by show 0 < 1 + i; omega, by show 1 + i < N; omega, by show 0 < 1 + j; omega, by show 1 + j < N; omega⟩
        · rw [if_neg e] at hp'; exact ih (by omega) p hp'
    exact hb (N - 1) (Nat.le_refl _) p hp
theorem ml_at {n k m : Nat} (hn : n ≤ 6) (hk : k < 4) (hm : m < (cl_ml n (nI k)).length) : sr_mt k ((cl_ml n (nI k)).getD m (0, 0)).1 ((cl_ml n (nI k)).getD m (0, 0)).2 = true ∧ 0 < ((cl_ml n (nI k)).getD m (0, 0)).1 ∧ ((cl_ml n (nI k)).getD m (0, 0)).1 < 2 ^ n ∧ 0 < ((cl_ml n (nI k)).getD m (0, 0)).2 ∧ ((cl_ml n (nI k)).getD m (0, 0)).2 < 2 ^ n := by
  have e : cl_ml n (nI k) = sr_fa (ml_F k) (2 ^ n) (2 ^ n - 1) [] := ml_eq hn hk _ (Nat.le_refl _)
  have hmem : (cl_ml n (nI k)).getD m (0, 0) ∈ cl_ml n (nI k) := by
    rw [List.getD_eq_getElem?_getD, List.getElem?_eq_getElem hm]; exact List.getElem_mem hm
  rw [e] at hmem ⊢
  exact ml_F_mem _ (Nat.le_refl _) _ hmem
theorem mt_fr {n k a b : Nat} (hn : n ≤ 6) (h : sr_mt k a b = true) (ha : a < 2 ^ n) (hb : b < 2 ^ n) : fr_l n (cl_form a b (nI 0) (nI 0)) (sr_form n a b (nI 0)) ∧ sr_bits a = sr_bits b := by
  unfold sr_mt at h
  simp only [Bool.and_eq_true, decide_eq_true_eq] at h
  exact ⟨fo_l hn ha hb h.1 (by decide), by omega⟩
theorem an_abs {v : Int64} (h : -(2 ^ 63 : Int) < v.toInt) : sr_abs v = sr_size v := by rw [sr_abs_n h, sr_size_n h]
section AE
variable {now : Nat → Int32} {n r : Nat}
def ev_R (c : cl_V) (m : md_V) : Prop := (c.1 = 0 ∧ m = (0, 0, 0)) ∨ (c.1 = 1 ∧ ¬ m.1 = 0 ∧ c.2.1 = m.2.2 ∧ c.2.2.1 = m.1 ∧ c.2.2.2 = m.2.1)
theorem an_ev (h : sr_logOk now n r) {k : Nat} (hk : k < 4) : ev_R (cl_ev (cl_G now r) (cl_ml n (nI k)) (cl_ml n (nI k)).length) (md_ev now n r k) := by
  have hn := h.1.2.1
  have e : md_ev now n r k = (cl_ml n (nI k)).foldl (fun t p => (fun a b (s : md_V) => if md_kn (n + 1) (md_P now n r) (sr_l (sr_form n a b (nI 0))) = true ∧ (s.1 = 0 ∨ md_vsz now n r a b < s.2.2) then (a, b, md_vsz now n r a b) else s) p.1 p.2 t) (0, 0, 0) := ml_all (k := k) (f := fun a b (s : md_V) => if md_kn (n + 1) (md_P now n r) (sr_l (sr_form n a b (nI 0))) = true ∧ (s.1 = 0 ∨ md_vsz now n r a b < s.2.2) then (a, b, md_vsz now n r a b) else s) hn hk (0, 0, 0)
  rw [e]
  refine ix_fold (R := ev_R) (fun t p => (fun a b (s : md_V) => if md_kn (n + 1) (md_P now n r) (sr_l (sr_form n a b (nI 0))) = true ∧ (s.1 = 0 ∨ md_vsz now n r a b < s.2.2) then (a, b, md_vsz now n r a b) else s) p.1 p.2 t) (cl_ml n (nI k)) (cl_ev (cl_G now r) (cl_ml n (nI k))) (0, 0, 0) (fun m t hm hr => ?_) (Or.inl ⟨rfl, rfl⟩)
  have at_ := ml_at hn hk hm
  have hf := (mt_fr hn at_.1 at_.2.2.1 at_.2.2.2.2).1
  have hv : sr_abs (cl_val (cl_G now r) (cl_mf (cl_ml n (nI k)) m)) = md_vsz now n r ((cl_ml n (nI k)).getD m (0, 0)).1 ((cl_ml n (nI k)).getD m (0, 0)).2 := by
    have b := (an_bd1 h hf.2.2).1
    unfold md_vsz
    rw [← lq_val h hf, ← an_abs b]; rfl
  have hkn : cl_kn (cl_G now r) (cl_mf (cl_ml n (nI k)) m) = md_kn (n + 1) (md_P now n r) (sr_l (sr_form n ((cl_ml n (nI k)).getD m (0, 0)).1 ((cl_ml n (nI k)).getD m (0, 0)).2 (nI 0))) := lq_kn h hf
  have ec : cl_ev (cl_G now r) (cl_ml n (nI k)) (m + 1) = if cl_kn (cl_G now r) (cl_mf (cl_ml n (nI k)) m) = true ∧ ((cl_ev (cl_G now r) (cl_ml n (nI k)) m).1 = 0 ∨ sr_abs (cl_val (cl_G now r) (cl_mf (cl_ml n (nI k)) m)) < (cl_ev (cl_G now r) (cl_ml n (nI k)) m).2.1) then (1, sr_abs (cl_val (cl_G now r) (cl_mf (cl_ml n (nI k)) m)), ((cl_ml n (nI k)).getD m (0, 0)).1, ((cl_ml n (nI k)).getD m (0, 0)).2) else cl_ev (cl_G now r) (cl_ml n (nI k)) m := rfl
  rw [ec, hv, hkn]
  dsimp only
  generalize cl_ev (cl_G now r) (cl_ml n (nI k)) m = c at *
  generalize (cl_ml n (nI k)).getD m (0, 0) = p at *
  have iff : (c.1 = 0 ∨ md_vsz now n r p.1 p.2 < c.2.1) ↔ (t.1 = 0 ∨ md_vsz now n r p.1 p.2 < t.2.2) := by
    rcases hr with ⟨a, b⟩ | ⟨a, b, d, _⟩
    · exact ⟨fun _ => Or.inl (by rw [b]), fun _ => Or.inl a⟩
    · rw [d]; exact ⟨fun z => z.elim (fun y => absurd y (by omega)) Or.inr, fun z => z.elim (fun y => absurd y b) Or.inr⟩
  by_cases q : md_kn (n + 1) (md_P now n r) (sr_l (sr_form n p.1 p.2 (nI 0))) = true ∧ (t.1 = 0 ∨ md_vsz now n r p.1 p.2 < t.2.2)
  · rw [if_pos q, if_pos ⟨q.1, iff.mpr q.2⟩]
    exact Or.inr ⟨rfl, by show ¬ p.1 = 0; omega, rfl, rfl, rfl⟩
  · rw [if_neg q, if_neg (fun z => q ⟨z.1, iff.mp z.2⟩)]; exact hr
theorem isIn_n {k : Int32} {a b : Nat} (hb : b < 2 ^ 31) (ha : a ≤ b) (h : sr_isIn k (nI a) (nI b) = true) : ∃ x, a ≤ x ∧ x ≤ b ∧ k = nI x := by
  have z := sr_isIn_b h
  rw [nI_toInt (by omega), nI_toInt hb] at z
  exact ⟨k.toInt.toNat, by omega, by omega, Int32.toInt_inj.mp (by rw [nI_toInt (by omega)]; omega)⟩
theorem an_even (h : sr_logOk now n r) (k w : Int32) : (if (sr_isIn w (nI 0) (nI 1) && decide ((cl_ev (cl_G now r) (cl_ml n k) (cl_ml n k).length).1 = 1)) = true then (if w = nI 0 then nI (cl_ev (cl_G now r) (cl_ml n k) (cl_ml n k).length).2.2.1 else nI (cl_ev (cl_G now r) (cl_ml n k) (cl_ml n k).length).2.2.2) else -1) = if (sr_isIn k (nI 1) (nI 3) && sr_isIn w (nI 0) (nI 1)) = true then md_eva now n r k.toNatClampNeg w.toNatClampNeg else -1 := by
  cases hk : sr_isIn k (nI 1) (nI 3) with
  | false =>
    rw [ml_none h.1.2.1 hk, Bool.false_and, if_neg (c := false = true) (by decide)]
    have e : (cl_ev (cl_G now r) [] ([] : cl_L).length).1 = 0 := rfl
    rw [e, decide_eq_false (by decide), Bool.and_false, if_neg (by decide)]
  | true =>
    obtain ⟨x, _, hx, rfl⟩ := isIn_n (by decide) (by omega) hk
    rw [Bool.true_and, nI_clamp (by omega)]
    cases hw : sr_isIn w (nI 0) (nI 1) with
    | false => rw [Bool.false_and, if_neg (by decide), if_neg (by decide)]
    | true =>
      obtain ⟨y, _, hy, rfl⟩ := isIn_n (by decide) (by omega) hw
      rw [Bool.true_and, nI_clamp (by omega), if_pos (c := true = true) rfl]
      have hR := an_ev h (k := x) (by omega)
      unfold md_eva
      rcases hR with ⟨a, b⟩ | ⟨a, b, _, d, e⟩
      · rw [a, b, decide_eq_false (by decide), if_neg (by decide), if_pos rfl]
      · rw [a, decide_eq_true rfl, if_pos rfl, if_neg b, d, e]
        have o : y = 0 ∨ y = 1 := by omega
        rcases o with rfl | rfl <;> rfl
/-! odd -/
theorem dsum_skip {h : Nat → Int} {q : Nat} : ∀ r, q < r → dsum (fun p => h (if p < q then p else p + 1)) (r - 1) + h q = dsum h r
  | r + 1, hq => by
    show dsum (fun p => h (if p < q then p else p + 1)) r + h q = dsum h r + h r
    by_cases e : q = r
    · subst e
      rw [dsum_congr q (g := h) (fun i hi => by rw [if_pos hi])]
    · obtain ⟨m, rfl⟩ : ∃ m, r = m + 1 := ⟨r - 1, by omega⟩
      have ih := dsum_skip (h := h) (q := q) (m + 1) (by omega)
      show dsum (fun p => h (if p < q then p else p + 1)) m + h (if m < q then m else m + 1) + h q = _
      rw [if_neg (by omega)]
      have ih' : dsum (fun p => h (if p < q then p else p + 1)) m + h q = dsum h (m + 1) := ih
      omega
theorem od_now {q d p : Nat} (hd : d < 4) (hp : p < r - 1) : sr_goes now q r (3 + 4 * p + d) = now (3 + 4 * (if p < q then p else p + 1) + d) := by
  unfold sr_goes
  rw [if_neg (by omega)]
  by_cases e : p < q
  · rw [if_neg (by omega), if_pos e]
  · rw [if_pos (by omega), if_neg e]
    congr 1; omega
theorem od_lA {q p : Nat} (hp : p < r - 1) (i : Nat) : lA (sr_goes now q r) p i = lA now (if p < q then p else p + 1) i := by
  unfold lA cl_rf sr_ra sr_rb
  have e0 := od_now (now := now) (r := r) (q := q) (d := 0) (by omega) hp
  have e1 := od_now (now := now) (r := r) (q := q) (d := 1) (by omega) hp
  have e2 := od_now (now := now) (r := r) (q := q) (d := 2) (by omega) hp
  have e3 := od_now (now := now) (r := r) (q := q) (d := 3) (by omega) hp
  rw [Nat.add_zero, Nat.add_zero] at e0
  rw [e0, e1, e2, e3]
theorem od_Y {q : Nat} (hq : q < r) : cl_oY now r q = cl_G (sr_goes now q r) (r - 1) := by
  funext i j
  show cl_G now r i j + (-1 : Int32).toInt64 * (cl_rf now q i).toInt64 * (cl_rf now q j).toInt64 = _
  rw [cl_G_of, cl_G_of, i32_of (-1), i32_of (cl_rf now q i), i32_of (cl_rf now q j), ← Int64.ofInt_mul, ← Int64.ofInt_mul, ← Int64.ofInt_add]
  congr 1
  have s := dsum_skip (h := fun p => lA now p i * lA now p j) r hq
  have e : av_G (lA (sr_goes now q r)) (r - 1) i j = dsum (fun p => (fun p => lA now p i * lA now p j) (if p < q then p else p + 1)) (r - 1) := dsum_congr (r - 1) (fun p hp => by rw [od_lA hp i, od_lA hp j])
  rw [e]
  have e2 : av_G (lA now) r i j = dsum (fun p => lA now p i * lA now p j) r := rfl
  have e3 : (-1 : Int32).toInt = -1 := rfl
  have e4 : (cl_rf now q i).toInt * (cl_rf now q j).toInt = lA now q i * lA now q j := rfl
  rw [e2, e3]
  have s' : dsum (fun p => (fun p => lA now p i * lA now p j) (if p < q then p else p + 1)) (r - 1) + lA now q i * lA now q j = dsum (fun p => lA now p i * lA now p j) r := s
  have e5 : -1 * (cl_rf now q i).toInt * (cl_rf now q j).toInt = - (lA now q i * lA now q j) := by rw [← e4]; grind
  omega
theorem an_odok (h : sr_logOk now n r) {q : Nat} (hq : q < r) : cl_sm (cl_sum (cl_oY now r q)) (cl_by (cl_oY now r q)) ∧ md_odok now n r q := by
  have h' := sr_goes_ok h hq
  rw [od_Y hq]
  have b := lq_bpos h'
  have s := lq_su0 h'
  refine ⟨⟨s, by omega⟩, an_bpos h', ?_⟩
  rw [← lq_su h']; exact s
theorem an_od (h : sr_logOk now n r) : ∀ q, q ≤ r → (cl_od now r q).1 = (md_od now n r q).1 ∧ 0 < (md_od now n r q).2.2 ∧ (cl_od now r q).2.1 = (md_od now n r q).2.1 / Nat.gcd (md_od now n r q).2.1 (md_od now n r q).2.2 ∧ (cl_od now r q).2.2 = (md_od now n r q).2.2 / Nat.gcd (md_od now n r q).2.1 (md_od now n r q).2.2
  | 0, _ => ⟨rfl, by show 0 < 1; omega, by show 0 = 0 / Nat.gcd 0 1; rw [Nat.zero_div], by show 1 = 1 / Nat.gcd 0 1; rw [Nat.gcd_zero_left]⟩
  | q + 1, hq => by
    obtain ⟨i1, i2, i3, i4⟩ := an_od h q (by omega)
    have h' := sr_goes_ok h (q := q) (by omega)
    have eu : cl_ou now r q = md_odu now n r q / Nat.gcd (md_odu now n r q) (md_odb now n r q) := by
      unfold cl_ou cl_fu md_odu md_odb
      rw [od_Y (by omega), lq_su h', lq_b h']
    have eb : cl_ob now r q = md_odb now n r q / Nat.gcd (md_odu now n r q) (md_odb now n r q) := by
      unfold cl_ob cl_fd md_odu md_odb
      rw [od_Y (by omega), lq_su h', lq_b h']
    have bp : 0 < md_odb now n r q := by
      have := (an_odok h (q := q) (by omega)).2.1
      unfold md_odb
      rw [Int64.lt_iff_toInt_lt] at this
      have e0 : (0 : Int64).toInt = 0 := rfl
      omega
    have iff : (q = 0 ∨ cl_ou now r q * (cl_od now r q).2.2 < (cl_od now r q).2.1 * cl_ob now r q) ↔ (q = 0 ∨ md_odu now n r q * (md_od now n r q).2.2 < (md_od now n r q).2.1 * md_odb now n r q) := by
      rw [eu, eb, i3, i4, fr_cmp bp i2]
    unfold cl_od md_od
    by_cases c : q = 0 ∨ md_odu now n r q * (md_od now n r q).2.2 < (md_od now n r q).2.1 * md_odb now n r q
    · rw [if_pos c, if_pos (iff.mpr c)]
      exact ⟨rfl, bp, eu, eb⟩
    · rw [if_neg c, if_neg (fun z => c (iff.mp z))]
      exact ⟨i1, i2, i3, i4⟩
theorem md_od_lt (h : sr_logOk now n r) : ∀ q, q ≤ r → (md_od now n r q).2.1 < 2 ^ 63 ∧ (md_od now n r q).2.2 < 2 ^ 63
  | 0, _ => ⟨by show 0 < 2 ^ 63; decide, by show 1 < 2 ^ 63; decide⟩
  | q + 1, hq => by
    have ih := md_od_lt h q (by omega)
    have b := md_od_b (an_odok h (q := q) (by omega)).2
    unfold md_od
    split
    · exact ⟨b.1, b.2.1⟩
    · exact ih
theorem an_oda (h : sr_logOk now n r) {w : Nat} (hw : w ≤ 2) : cl_oda now r w = md_oda now n r w := by
  obtain ⟨i1, i2, i3, i4⟩ := an_od h r (Nat.le_refl _)
  have lt := md_od_lt h r (Nat.le_refl _)
  have t := sr_told_n lt.1 lt.2 i2
  unfold cl_oda md_oda
  have o : w = 0 ∨ w = 1 ∨ w = 2 := by omega
  rcases o with rfl | rfl | rfl
  · rw [if_pos rfl, if_pos rfl, i1]
  · rw [if_neg (by decide), if_pos rfl, if_neg (by decide), if_neg (by decide), t.1, i3]
  · rw [if_neg (by decide), if_neg (by decide), if_neg (by decide), if_pos rfl, t.2, i4]
end AE
