/-! ===== the model's table: rows of eight, w of them ===== -/
def md_swap (w a b : Nat) (r : Nat → Int64) : Nat → Int64 := fun k => if k % 8 ≤ w ∧ k / 8 = a then r (8 * b + k % 8) else if k % 8 ≤ w ∧ k / 8 = b then r (8 * a + k % 8) else r k
def md_swapT (j a b : Nat) (r : Nat → Int64) : Nat → Int64 := fun k => if k % 8 < j ∧ k / 8 = a then r (8 * b + k % 8) else if k % 8 < j ∧ k / 8 = b then r (8 * a + k % 8) else r k
theorem md_swapT_s {j a b : Nat} {r : Nat → Int64} (hj : j < 8) (ha : a < 7) (hb : b < 7) : vp_updL (vp_updL (md_swapT j a b r) (8 * a + j) (md_swapT j a b r (8 * b + j))) (8 * b + j) (md_swapT j a b r (8 * a + j)) = md_swapT (j + 1) a b r := by
  have e1 : md_swapT j a b r (8 * b + j) = r (8 * b + j) := by unfold md_swapT; rw [if_neg (by omega), if_neg (by omega)]
  have e2 : md_swapT j a b r (8 * a + j) = r (8 * a + j) := by unfold md_swapT; rw [if_neg (by omega), if_neg (by omega)]
  rw [e1, e2]
  funext k
  unfold vp_updL md_swapT
  by_cases h1 : k = 8 * b + j
  · rw [if_pos h1]
    by_cases hab : a = b
    · rw [if_pos (by omega)]; rw [hab, h1, show (8 * b + j) % 8 = j by omega]
    · rw [if_neg (by omega), if_pos (by omega), h1, show (8 * b + j) % 8 = j by omega]
  · rw [if_neg h1]
    by_cases h2 : k = 8 * a + j
    · rw [if_pos h2, if_pos (by omega), h2, show (8 * a + j) % 8 = j by omega]
    · rw [if_neg h2]
      by_cases h3 : k % 8 < j ∧ k / 8 = a
      · rw [if_pos h3, if_pos (by omega)]
      · by_cases h4 : k % 8 < j ∧ k / 8 = b
        · rw [if_neg h3, if_pos h4, if_neg (by omega), if_pos (by omega)]
        · rw [if_neg h3, if_neg h4, if_neg (by omega), if_neg (by omega)]
/-- the other rows less the row rk, the table over b before -/
def md_elim (w rk c : Nat) (b : Int64) (r : Nat → Int64) : Nat → Int64 := fun k => if k / 8 < w ∧ ¬ k / 8 = rk ∧ k % 8 ≤ w then (r (8 * rk + c) * r k - r (8 * (k / 8) + c) * r (8 * rk + k % 8)) / b else r k
def md_elimT (w rk c i j : Nat) (b : Int64) (r : Nat → Int64) : Nat → Int64 := fun k => if ¬ k / 8 = rk ∧ ((k / 8 < i ∧ k % 8 ≤ w) ∨ (k / 8 = i ∧ k % 8 < j)) then (r (8 * rk + c) * r k - r (8 * (k / 8) + c) * r (8 * rk + k % 8)) / b else r k
/-- the first row from p on whose number in column c isn't 0 (w: none) -/
def md_findF (w c : Nat) (r : Nat → Int64) : Nat → Nat → Nat
  | 0, p => p
  | f + 1, p => if p < w ∧ r (8 * p + c) = 0 then md_findF w c r f (p + 1) else p
def md_find (w c : Nat) (r : Nat → Int64) (p : Nat) : Nat := md_findF w c r (w - p) p
theorem md_find_t {w c : Nat} {r : Nat → Int64} {p : Nat} (h : p < w) (hz : r (8 * p + c) = 0) : md_find w c r p = md_find w c r (p + 1) := by
  unfold md_find
  rw [show w - p = (w - (p + 1)) + 1 by omega]
  show (if p < w ∧ r (8 * p + c) = 0 then md_findF w c r (w - (p + 1)) (p + 1) else p) = _
  rw [if_pos ⟨h, hz⟩]
theorem md_find_f {w c : Nat} {r : Nat → Int64} {p : Nat} (h : ¬ (p < w ∧ r (8 * p + c) = 0)) : md_find w c r p = p := by
  unfold md_find
  cases hn : w - p with
  | zero => rfl
  | succ n =>
    show (if p < w ∧ r (8 * p + c) = 0 then md_findF w c r n (p + 1) else p) = _
    rw [if_neg h]
/-- table, rank, number below, leads -/
abbrev md_S : Type := (Nat → Int64) × Nat × Int64 × (Nat → Int32)
def md_step (w c : Nat) (s : md_S) : md_S :=
  if md_find w c s.1 s.2.1 = w then s
  else (md_elim w s.2.1 c s.2.2.1 (md_swap w s.2.1 (md_find w c s.1 s.2.1) s.1), s.2.1 + 1, (md_swap w s.2.1 (md_find w c s.1 s.2.1) s.1) (8 * s.2.1 + c), upd s.2.2.2 s.2.1 (nI c))
def md_cols (w : Nat) : Nat → md_S → md_S
  | 0, s => s
  | c + 1, s => md_step w c (md_cols w c s)
theorem md_find_le {w c : Nat} {r : Nat → Int64} : ∀ (k p : Nat), w - p = k → p ≤ w → p ≤ md_find w c r p ∧ md_find w c r p ≤ w ∧ (md_find w c r p < w → ¬ r (8 * md_find w c r p + c) = 0) := by
  intro k
  induction k with
  | zero =>
    intro p hk hp
    have : md_find w c r p = p := md_find_f (by omega)
    rw [this]; exact ⟨Nat.le_refl _, hp, fun h => by omega⟩
  | succ k ih =>
    intro p hk hp
    by_cases e : p < w ∧ r (8 * p + c) = 0
    · rw [md_find_t e.1 e.2]
      have := ih (p + 1) (by omega) (by omega)
      exact ⟨by omega, this.2⟩
    · rw [md_find_f e]; exact ⟨Nat.le_refl _, hp, fun h h2 => e ⟨h, h2⟩⟩
theorem md_swap_at {w a b : Nat} {r : Nat → Int64} {c : Nat} (hc : c < 8) (hcw : c ≤ w) : md_swap w a b r (8 * a + c) = r (8 * b + c) := by
  unfold md_swap
  rw [if_pos (by omega), show (8 * a + c) % 8 = c by omega]
theorem md_step_ok {w c : Nat} {s : md_S} (hw : w ≤ 7) (hc : c < w) (hr : s.2.1 ≤ c) (hb : ¬ s.2.2.1 = 0) (hl : ∀ k, k < s.2.1 → ∃ x, x < c ∧ s.2.2.2 k = nI x) : (md_step w c s).2.1 ≤ c + 1 ∧ ¬ (md_step w c s).2.2.1 = 0 ∧ ∀ k, k < (md_step w c s).2.1 → ∃ x, x < c + 1 ∧ (md_step w c s).2.2.2 k = nI x := by
  have hf := md_find_le (w := w) (c := c) (r := s.1) _ s.2.1 rfl (by omega)
  unfold md_step
  by_cases e : md_find w c s.1 s.2.1 = w
  · rw [if_pos e]
    exact ⟨by omega, hb, fun k hk => by obtain ⟨x, hx, ex⟩ := hl k hk; exact ⟨x, by omega, ex⟩⟩
  · rw [if_neg e]
    refine ⟨by show s.2.1 + 1 ≤ c + 1; omega, ?_, fun k hk => ?_⟩
    · show ¬ md_swap w s.2.1 _ s.1 (8 * s.2.1 + c) = 0
      rw [md_swap_at (by omega) (by omega)]
      exact hf.2.2 (by omega)
    · show ∃ x, x < c + 1 ∧ upd s.2.2.2 s.2.1 (nI c) k = nI x
      unfold upd
      by_cases e2 : k = s.2.1
      · rw [if_pos e2]; exact ⟨c, by omega, rfl⟩
      · rw [if_neg e2]
        obtain ⟨x, hx, ex⟩ := hl k (by have : k < s.2.1 + 1 := hk; omega)
        exact ⟨x, by omega, ex⟩
theorem md_cols_ok {w : Nat} {s : md_S} (hw : w ≤ 7) (h0 : s.2.1 = 0) (hb : ¬ s.2.2.1 = 0) : ∀ c, c ≤ w → (md_cols w c s).2.1 ≤ c ∧ ¬ (md_cols w c s).2.2.1 = 0 ∧ ∀ k, k < (md_cols w c s).2.1 → ∃ x, x < c ∧ (md_cols w c s).2.2.2 k = nI x := by
  intro c
  induction c with
  | zero => intro _; exact ⟨by show s.2.1 ≤ 0; omega, hb, fun k hk => by have : k < s.2.1 := hk; omega⟩
  | succ c ih =>
    intro hc
    have := ih (by omega)
    exact md_step_ok hw (by omega) this.1 this.2.1 this.2.2
set_option maxHeartbeats 4000000 in
set_option maxRecDepth 100000 in
theorem c_X7_swaps (g : sr_G) (D : sr_St) (w : Nat) (hw : D.1 63 18 = nI w) (hw7 : w ≤ 7) (a b : Nat) (ha : a < 7) (hb : b < 7)  : Con g M_X7_swaps [.ref 63, .int (nI a), .int (nI b)] D (sr_ret (none) (sr_rJ D 70 (md_swap w a b (D.2 70)))) := by
  refine Con.of pn_X7_swaps (Nat.le_of_ble_eq_true rfl) ?_
  show WP g M_X7_swaps 0 [(0, .ref 63), (1, .int (nI a)), (2, .int (nI b))] [] D _
  have hL : ∀ j, j ≤ w + 1 → WP g M_X7_swaps 2 [(0, .ref 63), (1, .int (nI a)), (2, .int (nI b)), (3, .int (nI j))] [] (sr_rJ D 70 (md_swapT j a b (D.2 70))) (sr_ret none (sr_rJ D 70 (md_swap w a b (D.2 70)))) := by
    refine sr_up (fun j hj ih => ?_)
    refine wp_iload_n dX7_swaps_2 rfl rfl ?_
    refine wp_aload_n dX7_swaps_3 rfl rfl ?_
    refine wp_getI_n (n := w) dX7_swaps_4 fl_X7_146 (by decide) rfl rfl (hw) ?_
    refine wp_icmp_gt_n (tgt := 64) dX7_swaps_7 (by decide) (by first | omega | (split <;> omega)) (by first | omega | (split <;> omega)) (fun c1 => ?_) (fun c1 => ?_)
    · have hjw : j = w + 1 := by omega
      subst hjw
      refine wp_vret dX7_swaps_64 rfl ⟨rfl, ?_⟩
      congr 1; funext k; unfold md_swap md_swapT
      simp only [Nat.lt_succ_iff]
    · refine wp_aload_n dX7_swaps_10 rfl rfl ?_
      refine wp_getR (r := 70) dX7_swaps_11 fl_X7_34 (by decide) rfl rfl rfl ?_
      refine wp_bipush (v := nI 8) dX7_swaps_14 rfl ?_
      refine wp_iload_n dX7_swaps_16 rfl rfl ?_
      refine wp_imul_n dX7_swaps_17 ?_
      refine wp_iload_n dX7_swaps_18 rfl rfl ?_
      refine wp_iadd_n dX7_swaps_19 ?_
      refine wp_lald dX7_swaps_20 (by decide) rfl (show _ < 56 by omega) (by first | omega | (split <;> omega)) ?_
      refine wp_topl (fun x2 ex2 => ?_)
      refine wp_lstore (lv' := [(0, .ref 63), (1, .int (nI a)), (2, .int (nI b)), (3, .int (nI j)), (4, .long x2)]) dX7_swaps_21 (by decide) rfl ?_
      refine wp_aload_n dX7_swaps_23 rfl rfl ?_
      refine wp_getR (r := 70) dX7_swaps_24 fl_X7_34 (by decide) rfl rfl rfl ?_
      refine wp_bipush (v := nI 8) dX7_swaps_27 rfl ?_
      refine wp_iload_n dX7_swaps_29 rfl rfl ?_
      refine wp_imul_n dX7_swaps_30 ?_
      refine wp_iload_n dX7_swaps_31 rfl rfl ?_
      refine wp_iadd_n dX7_swaps_32 ?_
      refine wp_aload_n dX7_swaps_33 rfl rfl ?_
      refine wp_getR (r := 70) dX7_swaps_34 fl_X7_34 (by decide) rfl rfl rfl ?_
      refine wp_bipush (v := nI 8) dX7_swaps_37 rfl ?_
      refine wp_iload_n dX7_swaps_39 rfl rfl ?_
      refine wp_imul_n dX7_swaps_40 ?_
      refine wp_iload_n dX7_swaps_41 rfl rfl ?_
      refine wp_iadd_n dX7_swaps_42 ?_
      refine wp_lald dX7_swaps_43 (by decide) rfl (show _ < 56 by omega) (by first | omega | (split <;> omega)) ?_
      refine wp_last dX7_swaps_44 (by decide) rfl (show _ < 56 by omega) (by first | omega | (split <;> omega)) ?_
      refine wp_D (fun D3 eD3 => ?_)
      have k4 : D3.1 63 18 = nI w := by rw [eD3, sr_sJ_1]; exact hw
      refine wp_aload_n dX7_swaps_45 rfl rfl ?_
      refine wp_getR (r := 70) dX7_swaps_46 fl_X7_34 (by decide) rfl rfl rfl ?_
      refine wp_bipush (v := nI 8) dX7_swaps_49 rfl ?_
      refine wp_iload_n dX7_swaps_51 rfl rfl ?_
      refine wp_imul_n dX7_swaps_52 ?_
      refine wp_iload_n dX7_swaps_53 rfl rfl ?_
      refine wp_iadd_n dX7_swaps_54 ?_
      refine wp_lload dX7_swaps_55 rfl ?_
      refine wp_last dX7_swaps_57 (by decide) rfl (show _ < 56 by omega) (by first | omega | (split <;> omega)) ?_
      refine wp_D (fun D5 eD5 => ?_)
      have k6 : D5.1 63 18 = nI w := by rw [eD5, sr_sJ_1]; exact k4
      refine wp_iinc_n (b := 1) (lv' := [(0, .ref 63), (1, .int (nI a)), (2, .int (nI b)), (3, .int (nI (j + 1))), (4, .long x2)]) dX7_swaps_58 rfl rfl (by decide) rfl ?_
      refine wp_goto (tgt := 2) dX7_swaps_61 (by decide) ?_
      have h := ih (by omega)
      rw [← md_swapT_s (by omega) ha hb] at h
      subst eD3 eD5
      subst ex2
      simp only [sr_sJ_r, sr_rJ_rJ, sr_rJ_2, if_true]
      exact wp_pick [0, 1, 2, 3] rfl h
  refine wp_iconst (v := nI 0) dX7_swaps_0 rfl ?_
  refine wp_istore_n (lv' := [(0, .ref 63), (1, .int (nI a)), (2, .int (nI b)), (3, .int (nI 0))]) dX7_swaps_1 rfl (by decide) rfl ?_
  have h := hL 0 (by omega)
  have hp : md_swapT 0 a b (D.2 70) = D.2 70 := by funext k; unfold md_swapT; rw [if_neg (by omega), if_neg (by omega)]
  rw [hp, sr_rJ_self] at h
  exact h
