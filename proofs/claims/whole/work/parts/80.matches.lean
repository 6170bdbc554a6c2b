/-! ===== the list of matches is the model's two loops ===== -/
/-- the class's condition is the model's -/
theorem cl_mt_eq {n k a b : Nat} (hn : n ≤ 6) (hk : k < 4) (ha0 : 0 < a) (ha : a < 2 ^ n) (hb0 : 0 < b) (hb : b < 2 ^ n) : (sr_bc (nI a) = nI k ∧ cl_mt n a b = true) ↔ sr_mt k a b = true := by
  have hpw := sr_pw hn
  have bx := sr_bits_b a (by omega)
  have by' := sr_bits_b b (by omega)
  unfold cl_mt sr_mt
  rw [sr_canRow_eq hn, sr_crew_n (by omega) (by omega), sr_bc_n a (by omega), sr_nI_inj (by omega) (by omega)]
  unfold sr_crewN
  have e0 : sr_isIn (nI 0) (-1) (nI 1) = true := by decide
  rw [e0]
  simp only [Bool.and_eq_true, decide_eq_true_eq]
  constructor
  · rintro ⟨h1, ⟨⟨⟨⟨⟨⟨⟨_, _⟩, _⟩, _⟩, h2⟩, h3⟩, h4⟩, _⟩, h5⟩
    exact ⟨h2, h1, by omega, h5⟩
  · rintro ⟨h1, h2, h3, h4⟩
    exact ⟨h2, ⟨⟨⟨⟨⟨⟨⟨ha0, hb0⟩, ha⟩, hb⟩, h1⟩, by omega⟩, by omega⟩, trivial⟩, h4⟩
/-- how many -/
def ml_c (k : Nat) : Nat → Nat → Nat → Nat := fun a b s => if sr_mt k a b = true then s + 1 else s
theorem ml_c_45 : ∀ n, n < 7 → ∀ k, k < 4 → sr_fa (ml_c k) (2 ^ n) (2 ^ n - 1) 0 ≤ 45 := by decide +kernel
/-- the list without its bound -/
def ml_F (k : Nat) : Nat → Nat → cl_L → cl_L := fun a b s => if sr_mt k a b = true then s ++ [(a, b)] else s
theorem ml_len_b {k a : Nat} : ∀ j (s : cl_L), (sr_fb (ml_F k) a j s).length = sr_fb (ml_c k) a j s.length
  | 0, _ => rfl
  | j + 1, s => by
    show (ml_F k a (1 + j) (sr_fb (ml_F k) a j s)).length = ml_c k a (1 + j) (sr_fb (ml_c k) a j s.length)
    rw [← ml_len_b j s]
    unfold ml_F ml_c
    split
    · rw [List.length_append]; rfl
    · rfl
theorem ml_len {k N : Nat} : ∀ i, (sr_fa (ml_F k) N i []).length = sr_fa (ml_c k) N i 0
  | 0 => rfl
  | i + 1 => by
    show (sr_fb (ml_F k) (1 + i) (N - 1) (sr_fa (ml_F k) N i [])).length = sr_fb (ml_c k) (1 + i) (N - 1) (sr_fa (ml_c k) N i 0)
    rw [ml_len_b, ml_len i]
theorem ml_c_up {k a : Nat} : ∀ j s, s ≤ sr_fb (ml_c k) a j s
  | 0, _ => Nat.le_refl _
  | j + 1, s => by
    have := ml_c_up (k := k) (a := a) j s
    show s ≤ ml_c k a (1 + j) (sr_fb (ml_c k) a j s)
    unfold ml_c at this ⊢
    split <;> omega
theorem ml_c_upb {k a : Nat} {s : Nat} : ∀ d j, sr_fb (ml_c k) a j s ≤ sr_fb (ml_c k) a (j + d) s
  | 0, _ => Nat.le_refl _
  | d + 1, j => by
    have := ml_c_upb (k := k) (a := a) (s := s) d j
    show _ ≤ ml_c k a (1 + (j + d)) (sr_fb (ml_c k) a (j + d) s)
    unfold ml_c at this ⊢
    split <;> omega
theorem ml_c_upa {k N : Nat} : ∀ d i, sr_fa (ml_c k) N i 0 ≤ sr_fa (ml_c k) N (i + d) 0
  | 0, _ => Nat.le_refl _
  | d + 1, i => Nat.le_trans (ml_c_upa d i) (ml_c_up _ _)
/-- with the bound it is the same -/
theorem ml_b_eq {n k i : Nat} (hn : n ≤ 6) (hk : k < 4) (hi : i < 2 ^ n - 1) {s : cl_L} (hs : s = sr_fa (ml_F k) (2 ^ n) i []) : ∀ j, j ≤ 2 ^ n - 1 → sr_fb (cl_mF n (nI k)) (1 + i) j s = sr_fb (ml_F k) (1 + i) j s := by
  intro j
  induction j with
  | zero => intro _; rfl
  | succ j ih =>
    intro hj
    show cl_mF n (nI k) (1 + i) (1 + j) (sr_fb (cl_mF n (nI k)) (1 + i) j s) = ml_F k (1 + i) (1 + j) (sr_fb (ml_F k) (1 + i) j s)
    rw [ih (by omega)]
    have hm := cl_mt_eq (a := 1 + i) (b := 1 + j) hn hk (by omega) (by omega) (by omega) (by omega)
    unfold cl_mF ml_F
    by_cases e : sr_mt k (1 + i) (1 + j) = true
    · rw [if_pos e, if_pos]
      refine ⟨(hm.mpr e).1, ?_, (hm.mpr e).2⟩
      have h45 := ml_c_45 n (by omega) k hk
      obtain ⟨d, hd⟩ : ∃ d, 2 ^ n - 1 = (i + 1) + d := ⟨2 ^ n - 1 - (i + 1), by omega⟩
      have h1 := ml_c_upa (k := k) (N := 2 ^ n) d (i + 1)
      rw [← hd] at h1
      obtain ⟨d2, hd2⟩ : ∃ d, 2 ^ n - 1 = (j + 1) + d := ⟨2 ^ n - 1 - (j + 1), by omega⟩
      have h2 := ml_c_upb (k := k) (a := 1 + i) (s := s.length) d2 (j + 1)
      rw [← hd2] at h2
      have h3 : sr_fa (ml_c k) (2 ^ n) (i + 1) 0 = sr_fb (ml_c k) (1 + i) (2 ^ n - 1) s.length := by
        show sr_fb (ml_c k) (1 + i) (2 ^ n - 1) (sr_fa (ml_c k) (2 ^ n) i 0) = _
        rw [hs, ml_len]
      have h4 : sr_fb (ml_c k) (1 + i) (j + 1) s.length = sr_fb (ml_c k) (1 + i) j s.length + 1 := if_pos e
      have h5 := ml_len_b (k := k) (a := 1 + i) j s
      show (sr_fb (ml_F k) (1 + i) j s).length < 45
      omega
    · rw [if_neg e, if_neg (fun z => e (hm.mp ⟨z.1, z.2.2⟩))]
theorem ml_eq {n k : Nat} (hn : n ≤ 6) (hk : k < 4) : ∀ i, i ≤ 2 ^ n - 1 → sr_fa (cl_mF n (nI k)) (2 ^ n) i [] = sr_fa (ml_F k) (2 ^ n) i [] := by
  intro i
  induction i with
  | zero => intro _; rfl
  | succ i ih =>
    intro hi
    show sr_fb (cl_mF n (nI k)) (1 + i) (2 ^ n - 1) (sr_fa (cl_mF n (nI k)) (2 ^ n) i []) = sr_fb (ml_F k) (1 + i) (2 ^ n - 1) (sr_fa (ml_F k) (2 ^ n) i [])
    rw [ih (by omega)]
    exact ml_b_eq hn hk (by omega) rfl _ (Nat.le_refl _)
/-! a fold over all matches is a fold over the list -/
section MF
variable {σ : Type} (k : Nat) (f : Nat → Nat → σ → σ)
def ml_G : Nat → Nat → σ → σ := fun a b s => if sr_mt k a b = true then f a b s else s
theorem ml_fold_b {a : Nat} (z : σ) : ∀ j (s : cl_L), (sr_fb (ml_F k) a j s).foldl (fun t p => f p.1 p.2 t) z = sr_fb (ml_G k f) a j (s.foldl (fun t p => f p.1 p.2 t) z)
  | 0, _ => rfl
  | j + 1, s => by
    show (ml_F k a (1 + j) (sr_fb (ml_F k) a j s)).foldl _ z = ml_G k f a (1 + j) (sr_fb (ml_G k f) a j (s.foldl _ z))
    rw [← ml_fold_b z j s]
    unfold ml_F ml_G
    split
    · rw [List.foldl_append]; rfl
    · rfl
theorem ml_fold {N : Nat} (z : σ) : ∀ i, (sr_fa (ml_F k) N i []).foldl (fun t p => f p.1 p.2 t) z = sr_fa (ml_G k f) N i z
  | 0 => rfl
  | i + 1 => by
    show (sr_fb (ml_F k) (1 + i) (N - 1) (sr_fa (ml_F k) N i [])).foldl _ z = sr_fb (ml_G k f) (1 + i) (N - 1) (sr_fa (ml_G k f) N i z)
    rw [ml_fold_b, ml_fold z i]
theorem ml_all {n : Nat} (hn : n ≤ 6) (hk : k < 4) (z : σ) : sr_fa (ml_G k f) (2 ^ n) (2 ^ n - 1) z = (cl_ml n (nI k)).foldl (fun t p => f p.1 p.2 t) z := by
  unfold cl_ml
  rw [ml_eq hn hk _ (Nat.le_refl _), ml_fold]
end MF
/-- other sizes make none -/
theorem ml_none {n : Nat} {k : Int32} (hn : n ≤ 6) (hk : sr_isIn k (nI 1) (nI 3) = false) : cl_ml n k = [] := by
  have h := sr_fa_inv (N := 2 ^ n) (F := cl_mF n k) (Pr := fun s => s = []) (fun a b s ha0 ha hb0 hb hs => by
    unfold cl_mF
    rw [if_neg]; exact hs
    rintro ⟨h1, _, h2⟩
    have hpw := sr_pw hn
    unfold cl_mt at h2
    rw [sr_canRow_eq hn, sr_crew_n (by omega) (by omega)] at h2
    unfold sr_crewN at h2
    simp only [Bool.and_eq_true, decide_eq_true_eq] at h2
    obtain ⟨⟨⟨⟨⟨⟨⟨⟨g1, g2⟩, g3⟩, g4⟩, g5⟩, g6⟩, g7⟩, _⟩, _⟩ := h2
    have bx := sr_bits_b a (by omega)
    rw [sr_bc_n a (by omega)] at h1
    rw [← h1] at hk
    have : sr_isIn (nI (sr_bits a)) (nI 1) (nI 3) = true := sr_in13.mpr ⟨sr_bits a, by omega, g7, rfl⟩
    rw [this] at hk; exact absurd hk (by decide)) (s := []) rfl (2 ^ n - 1) (Nat.le_refl _)
  exact h
