/-! ===== what is solved speaks of the table's part that counts alone ===== -/
def md_eqv (w : Nat) (r r' : Nat → Int64) : Prop := ∀ i j, i < w → j ≤ w → r (8 * i + j) = r' (8 * i + j)
theorem md_find_congr {w c : Nat} {r r' : Nat → Int64} (h : md_eqv w r r') (hc : c ≤ w) : ∀ k p, w - p = k → md_find w c r p = md_find w c r' p := by
  intro k
  induction k with
  | zero => intro p hp; rw [md_find_f (by omega), md_find_f (by omega)]
  | succ k ih =>
    intro p hp
    have e := h p c (by omega) hc
    by_cases z : r (8 * p + c) = 0
    · rw [md_find_t (r := r) (by omega) z, md_find_t (r := r') (by omega) (by rw [← e]; exact z)]; exact ih (p + 1) (by omega)
    · rw [md_find_f (fun q => z q.2), md_find_f (fun q => z (by rw [e]; exact q.2))]
theorem md_swap_congr {w a b : Nat} {r r' : Nat → Int64} (hw : w ≤ 7) (h : md_eqv w r r') (ha : a < w) (hb : b < w) : md_eqv w (md_swap w a b r) (md_swap w a b r') := by
  intro i j hi hj
  unfold md_swap
  rw [show (8 * i + j) % 8 = j by omega, show (8 * i + j) / 8 = i by omega]
  by_cases e1 : j ≤ w ∧ i = a
  · rw [if_pos e1, if_pos e1]; exact h b j hb hj
  · rw [if_neg e1, if_neg e1]
    by_cases e2 : j ≤ w ∧ i = b
    · rw [if_pos e2, if_pos e2]; exact h a j ha hj
    · rw [if_neg e2, if_neg e2]; exact h i j hi hj
theorem md_elim_congr {w rk c : Nat} {b : Int64} {r r' : Nat → Int64} (hw : w ≤ 7) (h : md_eqv w r r') (hk : rk < w) (hc : c ≤ w) : md_eqv w (md_elim w rk c b r) (md_elim w rk c b r') := by
  intro i j hi hj
  unfold md_elim
  rw [show (8 * i + j) % 8 = j by omega, show (8 * i + j) / 8 = i by omega, h i j hi hj, h rk c hk hc, h i c hi hc, h rk j hk hj]
def md_eqs (w : Nat) (s s' : md_S) : Prop := md_eqv w s.1 s'.1 ∧ s.2.1 = s'.2.1 ∧ s.2.2.1 = s'.2.2.1 ∧ ∀ k, k < s.2.1 → s.2.2.2 k = s'.2.2.2 k
theorem md_step_congr {w c : Nat} {s s' : md_S} (hw : w ≤ 7) (hc : c < w) (hr : s.2.1 ≤ c) (h : md_eqs w s s') : md_eqs w (md_step w c s) (md_step w c s') := by
  obtain ⟨h1, h2, h3, h4⟩ := h
  have hf := md_find_congr h1 (Nat.le_of_lt hc) _ s.2.1 rfl
  have hb := md_find_le (w := w) (c := c) (r := s.1) _ s.2.1 rfl (by omega)
  unfold md_step
  rw [← h2, ← hf]
  by_cases e : md_find w c s.1 s.2.1 = w
  · rw [if_pos e, if_pos e]; exact ⟨h1, h2, h3, h4⟩
  · rw [if_neg e, if_neg e]
    have hs := md_swap_congr (a := s.2.1) (b := md_find w c s.1 s.2.1) hw h1 (by omega) (by omega)
    refine ⟨?_, rfl, hs s.2.1 c (by omega) (by omega), fun k hk => ?_⟩
    · rw [← h3]; exact md_elim_congr hw hs (by omega) (by omega)
    · show upd s.2.2.2 s.2.1 (nI c) k = upd s'.2.2.2 s.2.1 (nI c) k
      unfold upd
      by_cases e2 : k = s.2.1
      · rw [if_pos e2, if_pos e2]
      · rw [if_neg e2, if_neg e2]; exact h4 k (by have : k < s.2.1 + 1 := hk; omega)
theorem md_cols_congr {w : Nat} {s s' : md_S} (hw : w ≤ 7) (h0 : s.2.1 = 0) (hb : ¬ s.2.2.1 = 0) (h : md_eqs w s s') : ∀ c, c ≤ w → md_eqs w (md_cols w c s) (md_cols w c s') := by
  intro c
  induction c with
  | zero => intro _; exact h
  | succ c ih => intro hc; exact md_step_congr hw (by omega) (md_cols_ok hw h0 hb c (by omega)).1 (ih (by omega))
theorem md_ok_congr {w : Nat} {r r' : Nat → Int64} (h : md_eqv w r r') : ∀ k i, i + k ≤ w → md_ok w r k i = md_ok w r' k i := by
  intro k
  induction k with
  | zero => intro i _; rfl
  | succ k ih =>
    intro i hi
    show (decide (r (8 * i + w) = 0) && md_ok w r k (i + 1)) = (decide (r' (8 * i + w) = 0) && md_ok w r' k (i + 1))
    rw [h i w (by omega) (Nat.le_refl _), ih (i + 1) (by omega)]
theorem md_solT_congr {w : Nat} {r r' : Nat → Int64} {le le' : Nat → Int32} {so so' : Nat → Int64} (h : md_eqv w r r') : ∀ q, q ≤ w → (∀ k, k < q → le k = le' k) → ∀ k, k < 7 → md_solT w r le so q k = md_solT w r' le' so' q k := by
  intro q
  induction q with
  | zero => intro _ _ k hk; simp [md_solT, sr_fill, hk]
  | succ q ih =>
    intro hq hl k hk
    show vp_updL (md_solT w r le so q) (le q).toNatClampNeg (r (8 * q + w)) k = vp_updL (md_solT w r' le' so' q) (le' q).toNatClampNeg (r' (8 * q + w)) k
    unfold vp_updL
    rw [hl q (by omega), h q w (by omega) (Nat.le_refl _), ih (by omega) (fun k hk => hl k (by omega)) k hk]
/-- the table with a form behind it -/
def md_tab (w : Nat) (p : Nat → Int64) (f : Nat → Int64) (r : Nat → Int64) : Nat → Int64 := fun k => if k / 8 < w ∧ k % 8 < w then p (7 * (k / 8) + k % 8) else if k / 8 < w ∧ k % 8 = w then f (k / 8) else r k
theorem md_tab_eqv {w : Nat} {p f r r' : Nat → Int64} (hw : w ≤ 7) : md_eqv w (md_tab w p f r) (md_tab w p f r') := by
  intro i j hi hj
  unfold md_tab
  rw [show (8 * i + j) % 8 = j by omega, show (8 * i + j) / 8 = i by omega]
  by_cases e : i < w ∧ j < w
  · rw [if_pos e, if_pos e]
  · rw [if_neg e, if_neg e, if_pos (by omega), if_pos (by omega)]
/-- solved: the end, of the table p with f behind it -/
def md_E (w : Nat) (p f : Nat → Int64) : md_S := md_fin w (md_tab w p f (fun _ => 0)) (fun _ => 0) (fun _ => 0)
def md_kn (w : Nat) (p f : Nat → Int64) : Bool := md_ok w (md_E w p f).1 (w - (md_E w p f).2.1) (md_E w p f).2.1
def md_by (w : Nat) (p f : Nat → Int64) : Int64 := (md_E w p f).2.2.1
def md_rk (w : Nat) (p f : Nat → Int64) : Nat := (md_E w p f).2.1
def md_sv (w : Nat) (p f : Nat → Int64) : Nat → Int64 := md_so w (md_tab w p f (fun _ => 0)) (fun _ => 0) (fun _ => 0)
theorem md_same {w : Nat} {p f r : Nat → Int64} {le : Nat → Int32} {so : Nat → Int64} (hw : w ≤ 7) : md_eqs w (md_fin w (md_tab w p f r) le so) (md_E w p f) := md_cols_congr (s := (md_tab w p f r, 0, 1, le)) (s' := (md_tab w p f (fun _ => 0), 0, 1, fun _ => 0)) hw rfl (show ¬ (1 : Int64) = 0 by decide) ⟨md_tab_eqv hw, rfl, rfl, fun k hk => absurd hk (Nat.not_lt_zero k)⟩ w (Nat.le_refl _)
theorem md_rk_le {w : Nat} {p f : Nat → Int64} (hw : w ≤ 7) : md_rk w p f ≤ w := (md_cols_ok (s := (md_tab w p f (fun _ => 0), 0, 1, fun _ => 0)) hw rfl (show ¬ (1 : Int64) = 0 by decide) w (Nat.le_refl _)).1
/-- behind solves: numbers off 63.16, 63.17, 70, 71, 72 are as they were -/
def md_post (D : sr_St) (w : Nat) (p f : Nat → Int64) (D' : sr_St) : Prop := ∃ (r : Nat → Int64) (le : Nat → Int32) (so : Nat → Int64), D' = md_D D r (md_rk w p f) (md_by w p f) le so ∧ ∀ k, k < 7 → so k = md_sv w p f k
theorem c_solves (g : sr_G) (D : sr_St) (w : Nat) (hw : D.1 63 18 = nI w) (hw7 : w ≤ 7) (p f r : Nat → Int64) (hr : D.2 70 = md_tab w p f r) (hp : 0 ≤ md_by w p f) : Con g M_X7_solves [.ref 63] D (fun a D' => a = some (.int (sr_b (md_kn w p f))) ∧ md_post D w p f D') := by
  refine (c_X7_solves g D w hw hw7).weaken (fun a D' h => ?_)
  rw [hr] at h
  have hs := md_same (w := w) (p := p) (f := f) (r := r) (le := D.1 72) (so := D.2 71) hw7
  have hl := md_rk_le (w := w) (p := p) (f := f) hw7
  obtain ⟨h1, h2⟩ := h
  obtain ⟨s1, s2, s3, s4⟩ := hs
  refine ⟨?_, (md_fin w (md_tab w p f r) (D.1 72) (D.2 71)).1, (md_fin w (md_tab w p f r) (D.1 72) (D.2 71)).2.2.2, md_so w (md_tab w p f r) (D.1 72) (D.2 71), ?_, fun k hk => ?_⟩
  · rw [h1, s2]
    unfold md_kn
    rw [md_ok_congr s1 _ _ (by unfold md_rk at hl; omega)]
  · have := h2 (by rw [s3]; exact hp)
    rw [s2, s3] at this
    exact this
  · unfold md_so md_sv md_so
    rw [s2]
    exact md_solT_congr s1 _ hl (fun k hk => s4 k (by rw [s2]; exact hk)) k hk
def md_tabT (w i j : Nat) (p f r : Nat → Int64) : Nat → Int64 := fun k => if k / 8 < i ∧ k % 8 < w ∨ k / 8 = i ∧ k % 8 < j then p (7 * (k / 8) + k % 8) else if k / 8 < i ∧ k % 8 = w then f (k / 8) else r k
theorem md_tabT_j {w i j : Nat} {p f r : Nat → Int64} (hw : w ≤ 7) (hj : j < w) : vp_updL (md_tabT w i j p f r) (8 * i + j) (p (7 * i + j)) = md_tabT w i (j + 1) p f r := by
  funext k
  unfold vp_updL md_tabT
  by_cases h1 : k = 8 * i + j
  · subst h1
    rw [if_pos rfl, if_pos (by omega), show (8 * i + j) / 8 = i by omega, show (8 * i + j) % 8 = j by omega]
  · rw [if_neg h1]
    by_cases h2 : k / 8 < i ∧ k % 8 < w ∨ k / 8 = i ∧ k % 8 < j
    · rw [if_pos h2, if_pos (by omega)]
    · rw [if_neg h2, if_neg (show ¬ (k / 8 < i ∧ k % 8 < w ∨ k / 8 = i ∧ k % 8 < j + 1) by omega)]
theorem md_tabT_i {w i : Nat} {p f r : Nat → Int64} (hw : w ≤ 7) : vp_updL (md_tabT w i w p f r) (8 * i + w) (f i) = md_tabT w (i + 1) 0 p f r := by
  funext k
  unfold vp_updL md_tabT
  by_cases h1 : k = 8 * i + w
  · subst h1
    rw [if_pos rfl, if_neg (by omega), if_pos (by omega), show (8 * i + w) / 8 = i by omega]
  · rw [if_neg h1]
    by_cases h2 : k / 8 < i ∧ k % 8 < w ∨ k / 8 = i ∧ k % 8 < w
    · rw [if_pos h2, if_pos (by omega)]
    · rw [if_neg h2, if_neg (show ¬ (k / 8 < i + 1 ∧ k % 8 < w ∨ k / 8 = i + 1 ∧ k % 8 < 0) by omega)]
      by_cases h3 : k / 8 < i ∧ k % 8 = w
      · rw [if_pos h3, if_pos (by omega)]
      · rw [if_neg h3, if_neg (show ¬ (k / 8 < i + 1 ∧ k % 8 = w) by omega)]
theorem md_tabT_0 {w : Nat} {p f r : Nat → Int64} : md_tabT w 0 0 p f r = r := by funext k; unfold md_tabT; rw [if_neg (by omega), if_neg (by omega)]
theorem md_tabT_w {w : Nat} {p f r : Nat → Int64} : md_tabT w w 0 p f r = md_tab w p f r := by
  funext k
  unfold md_tabT md_tab
  by_cases h2 : k / 8 < w ∧ k % 8 < w
  · rw [if_pos h2, if_pos (by omega)]
  · rw [if_neg h2, if_neg (by omega)]
/-- a form as longs -/
def sr_l (f : Nat → Int32) : Nat → Int64 := fun k => (f k).toInt64
theorem md_post_70 {D : sr_St} {w : Nat} {p f r : Nat → Int64} {D' : sr_St} (h : md_post (sr_rJ D 70 r) w p f D') : md_post D w p f D' := by
  obtain ⟨r1, le, so, e, h2⟩ := h
  refine ⟨r1, le, so, ?_, h2⟩
  rw [e]
  unfold md_D sr_rJ
  congr 1
  funext o
  by_cases e1 : o = 63
  · simp [e1]
  · by_cases e2 : o = 70
    · simp [e2]
    · simp [e1, e2]
set_option maxHeartbeats 4000000 in
set_option maxRecDepth 100000 in
theorem c_X7_isKnown (g : sr_G) (D : sr_St) (w : Nat) (hw : D.1 63 18 = nI w) (hw7 : w ≤ 7) (hp : 0 ≤ md_by w (D.2 68) (sr_l (D.1 67))) : Con g M_X7_isKnown [.ref 63] D (fun a D' => a = some (.int (sr_b (md_kn w (D.2 68) (sr_l (D.1 67))))) ∧ md_post D w (D.2 68) (sr_l (D.1 67)) D') := by
  refine Con.of pn_X7_isKnown (Nat.le_of_ble_eq_true rfl) ?_
  show WP g M_X7_isKnown 0 [(0, .ref 63)] [] D _
  have h75 : WP g M_X7_isKnown 75 [(0, .ref 63)] [] (sr_rJ D 70 (md_tabT w w 0 (D.2 68) (sr_l (D.1 67)) (D.2 70))) (fun a D' => a = some (.int (sr_b (md_kn w (D.2 68) (sr_l (D.1 67))))) ∧ md_post D w (D.2 68) (sr_l (D.1 67)) D') := by
    refine wp_aload_n dX7_isKnown_75 rfl rfl ?_
    refine wp_callV (M2 := M_X7_solves) (n := 0) (As := []) (st := []) dX7_isKnown_76 (c_solves g (sr_rJ D 70 (md_tabT w w 0 (D.2 68) (sr_l (D.1 67)) (D.2 70))) w hw hw7 (D.2 68) (sr_l (D.1 67)) (D.2 70) (by rw [sr_rJ_2, if_pos rfl, md_tabT_w]) hp) ca_X7_170 ⟨nm_X7_solves, by decide, by decide⟩ rfl (by decide) rfl rfl rfl (Nat.le_of_ble_eq_true rfl) (fun r1 E2 q3 => ?_)
    obtain ⟨rfl, h2⟩ := q3
    show WP g _ _ _ (.int (sr_b (md_kn w (D.2 68) (sr_l (D.1 67)))) :: _) _ _
    exact wp_zret dX7_isKnown_79 rfl (sr_b01 _) ⟨rfl, md_post_70 h2⟩
  have hL : ∀ i, i ≤ w → WP g M_X7_isKnown 2 [(0, .ref 63), (1, .int (nI i))] [] (sr_rJ D 70 (md_tabT w i 0 (D.2 68) (sr_l (D.1 67)) (D.2 70))) (fun a D' => a = some (.int (sr_b (md_kn w (D.2 68) (sr_l (D.1 67))))) ∧ md_post D w (D.2 68) (sr_l (D.1 67)) D') := by
    refine sr_up (fun i hi ih => ?_)
    have h48 : i < w → WP g M_X7_isKnown 48 [(0, .ref 63), (1, .int (nI i))] [] (sr_rJ D 70 (md_tabT w i w (D.2 68) (sr_l (D.1 67)) (D.2 70))) (fun a D' => a = some (.int (sr_b (md_kn w (D.2 68) (sr_l (D.1 67))))) ∧ md_post D w (D.2 68) (sr_l (D.1 67)) D') := by
      intro hiw
      refine wp_aload_n dX7_isKnown_48 rfl rfl ?_
      refine wp_getR (r := 70) dX7_isKnown_49 fl_X7_34 (by decide) rfl rfl rfl ?_
      refine wp_bipush (v := nI 8) dX7_isKnown_52 rfl ?_
      refine wp_iload_n dX7_isKnown_54 rfl rfl ?_
      refine wp_imul_n dX7_isKnown_55 ?_
      refine wp_aload_n dX7_isKnown_56 rfl rfl ?_
      refine wp_getI_n (n := w) dX7_isKnown_57 fl_X7_146 (by decide) rfl rfl (hw) ?_
      refine wp_iadd_n dX7_isKnown_60 ?_
      refine wp_aload_n dX7_isKnown_61 rfl rfl ?_
      refine wp_getR (r := 67) dX7_isKnown_62 fl_X7_24 (by decide) rfl rfl rfl ?_
      refine wp_iload_n dX7_isKnown_65 rfl rfl ?_
      refine wp_iald dX7_isKnown_66 (by decide) rfl (show _ < 7 by omega) (by first | omega | (split <;> omega)) ?_
      refine wp_i2l dX7_isKnown_67 ?_
      refine wp_last dX7_isKnown_68 (by decide) rfl (show _ < 56 by omega) (by first | omega | (split <;> omega)) ?_
      refine wp_D (fun D4 eD4 => ?_)
      have k5 : D4.1 63 18 = nI w := by rw [eD4, sr_sJ_1]; exact hw
      refine wp_iinc_n (b := 1) (lv' := [(0, .ref 63), (1, .int (nI (i + 1)))]) dX7_isKnown_69 rfl rfl (by decide) rfl ?_
      refine wp_goto (tgt := 2) dX7_isKnown_72 (by decide) ?_
      have h := ih (by omega)
      rw [← md_tabT_i hw7] at h
      subst eD4
      rw [sr_sJ_r, sr_rJ_rJ, sr_rJ_2, if_pos rfl]
      exact h
    have hI : i < w → ∀ j, j ≤ w → WP g M_X7_isKnown 12 [(0, .ref 63), (1, .int (nI i)), (2, .int (nI j))] [] (sr_rJ D 70 (md_tabT w i j (D.2 68) (sr_l (D.1 67)) (D.2 70))) (fun a D' => a = some (.int (sr_b (md_kn w (D.2 68) (sr_l (D.1 67))))) ∧ md_post D w (D.2 68) (sr_l (D.1 67)) D') := by
      intro hiw
      refine sr_up (fun j hj ihj => ?_)
      refine wp_iload_n dX7_isKnown_12 rfl rfl ?_
      refine wp_aload_n dX7_isKnown_13 rfl rfl ?_
      refine wp_getI_n (n := w) dX7_isKnown_14 fl_X7_146 (by decide) rfl rfl (hw) ?_
      refine wp_icmp_ge_n (tgt := 48) dX7_isKnown_17 (by decide) (by first | omega | (split <;> omega)) (by first | omega | (split <;> omega)) (fun c6 => ?_) (fun c6 => ?_)
      · have hjw : j = w := by omega
        subst hjw
        exact wp_pick [0, 1] rfl (h48 hiw)
      · refine wp_aload_n dX7_isKnown_20 rfl rfl ?_
        refine wp_getR (r := 70) dX7_isKnown_21 fl_X7_34 (by decide) rfl rfl rfl ?_
        refine wp_bipush (v := nI 8) dX7_isKnown_24 rfl ?_
        refine wp_iload_n dX7_isKnown_26 rfl rfl ?_
        refine wp_imul_n dX7_isKnown_27 ?_
        refine wp_iload_n dX7_isKnown_28 rfl rfl ?_
        refine wp_iadd_n dX7_isKnown_29 ?_
        refine wp_aload_n dX7_isKnown_30 rfl rfl ?_
        refine wp_getR (r := 68) dX7_isKnown_31 fl_X7_27 (by decide) rfl rfl rfl ?_
        refine wp_bipush (v := nI 7) dX7_isKnown_34 rfl ?_
        refine wp_iload_n dX7_isKnown_36 rfl rfl ?_
        refine wp_imul_n dX7_isKnown_37 ?_
        refine wp_iload_n dX7_isKnown_38 rfl rfl ?_
        refine wp_iadd_n dX7_isKnown_39 ?_
        refine wp_lald dX7_isKnown_40 (by decide) rfl (show _ < 49 by omega) (by first | omega | (split <;> omega)) ?_
        refine wp_last dX7_isKnown_41 (by decide) rfl (show _ < 56 by omega) (by first | omega | (split <;> omega)) ?_
        refine wp_D (fun D7 eD7 => ?_)
        have k8 : D7.1 63 18 = nI w := by rw [eD7, sr_sJ_1]; exact hw
        refine wp_iinc_n (b := 1) (lv' := [(0, .ref 63), (1, .int (nI i)), (2, .int (nI (j + 1)))]) dX7_isKnown_42 rfl rfl (by decide) rfl ?_
        refine wp_goto (tgt := 12) dX7_isKnown_45 (by decide) ?_
        have h := ihj (by omega)
        rw [← md_tabT_j hw7 (by omega)] at h
        subst eD7
        rw [sr_sJ_r, sr_rJ_rJ, sr_rJ_2, if_pos rfl]
        exact h
    refine wp_iload_n dX7_isKnown_2 rfl rfl ?_
    refine wp_aload_n dX7_isKnown_3 rfl rfl ?_
    refine wp_getI_n (n := w) dX7_isKnown_4 fl_X7_146 (by decide) rfl rfl (hw) ?_
    refine wp_icmp_ge_n (tgt := 75) dX7_isKnown_7 (by decide) (by first | omega | (split <;> omega)) (by first | omega | (split <;> omega)) (fun c9 => ?_) (fun c9 => ?_)
    · have hiw : i = w := by omega
      subst hiw
      exact wp_pick [0] rfl h75
    · refine wp_iconst (v := nI 0) dX7_isKnown_10 rfl ?_
      refine wp_istore_n (lv' := [(0, .ref 63), (1, .int (nI i)), (2, .int (nI 0))]) dX7_isKnown_11 rfl (by decide) rfl ?_
      exact hI (by omega) 0 (by omega)
  refine wp_iconst (v := nI 0) dX7_isKnown_0 rfl ?_
  refine wp_istore_n (lv' := [(0, .ref 63), (1, .int (nI 0))]) dX7_isKnown_1 rfl (by decide) rfl ?_
  have h := hL 0 (by omega)
  rw [md_tabT_0, sr_rJ_self] at h
  exact h
