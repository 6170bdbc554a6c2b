/-! the number below and the rank don't hang on what stands behind the table -/
def md_eqc (w : Nat) (r r' : Nat → Int64) : Prop := ∀ i j, i < w → j < w → r (8 * i + j) = r' (8 * i + j)
theorem md_find_congc {w c : Nat} {r r' : Nat → Int64} (h : md_eqc w r r') (hc : c < w) : ∀ k p, w - p = k → md_find w c r p = md_find w c r' p := by
  intro k
  induction k with
  | zero => intro p hp; rw [md_find_f (by omega), md_find_f (by omega)]
  | succ k ih =>
    intro p hp
    have e := h p c (by omega) hc
    by_cases z : r (8 * p + c) = 0
    · rw [md_find_t (r := r) (by omega) z, md_find_t (r := r') (by omega) (by rw [← e]; exact z)]; exact ih (p + 1) (by omega)
    · rw [md_find_f (fun q => z q.2), md_find_f (fun q => z (by rw [e]; exact q.2))]
theorem md_swap_congc {w a b : Nat} {r r' : Nat → Int64} (hw : w ≤ 7) (h : md_eqc w r r') (ha : a < w) (hb : b < w) : md_eqc w (md_swap w a b r) (md_swap w a b r') := by
  intro i j hi hj
  unfold md_swap
  rw [show (8 * i + j) % 8 = j by omega, show (8 * i + j) / 8 = i by omega]
  by_cases e1 : j ≤ w ∧ i = a
  · rw [if_pos e1, if_pos e1]; exact h b j hb hj
  · rw [if_neg e1, if_neg e1]
    by_cases e2 : j ≤ w ∧ i = b
    · rw [if_pos e2, if_pos e2]; exact h a j ha hj
    · rw [if_neg e2, if_neg e2]; exact h i j hi hj
theorem md_elim_congc {w rk c : Nat} {b : Int64} {r r' : Nat → Int64} (hw : w ≤ 7) (h : md_eqc w r r') (hk : rk < w) (hc : c < w) : md_eqc w (md_elim w rk c b r) (md_elim w rk c b r') := by
  intro i j hi hj
  unfold md_elim
  rw [show (8 * i + j) % 8 = j by omega, show (8 * i + j) / 8 = i by omega, h i j hi hj, h rk c hk hc, h i c hi hc, h rk j hk hj]
def md_eqt (w : Nat) (s s' : md_S) : Prop := md_eqc w s.1 s'.1 ∧ s.2.1 = s'.2.1 ∧ s.2.2.1 = s'.2.2.1
theorem md_step_congc {w c : Nat} {s s' : md_S} (hw : w ≤ 7) (hc : c < w) (hr : s.2.1 ≤ c) (h : md_eqt w s s') : md_eqt w (md_step w c s) (md_step w c s') := by
  obtain ⟨h1, h2, h3⟩ := h
  have hf := md_find_congc h1 hc _ s.2.1 rfl
  have hb := md_find_le (w := w) (c := c) (r := s.1) _ s.2.1 rfl (by omega)
  unfold md_step
  rw [← h2, ← hf]
  by_cases e : md_find w c s.1 s.2.1 = w
  · rw [if_pos e, if_pos e]; exact ⟨h1, h2, h3⟩
  · rw [if_neg e, if_neg e]
    have hs := md_swap_congc (a := s.2.1) (b := md_find w c s.1 s.2.1) hw h1 (by omega) (by omega)
    refine ⟨?_, rfl, hs s.2.1 c (by omega) (by omega)⟩
    rw [← h3]; exact md_elim_congc hw hs (by omega) (by omega)
theorem md_cols_congc {w : Nat} {s s' : md_S} (hw : w ≤ 7) (h0 : s.2.1 = 0) (hb : ¬ s.2.2.1 = 0) (h : md_eqt w s s') : ∀ c, c ≤ w → md_eqt w (md_cols w c s) (md_cols w c s') := by
  intro c
  induction c with
  | zero => intro _; exact h
  | succ c ih => intro hc; exact md_step_congc hw (by omega) (md_cols_ok hw h0 hb c (by omega)).1 (ih (by omega))
/-- the number below, the rank, of a table -/
def md_b (w : Nat) (p : Nat → Int64) : Int64 := md_by w p (fun _ => 0)
def md_r (w : Nat) (p : Nat → Int64) : Nat := md_rk w p (fun _ => 0)
theorem md_by_b {w : Nat} {p f : Nat → Int64} (hw : w ≤ 7) : md_by w p f = md_b w p ∧ md_rk w p f = md_r w p := by
  have h := md_cols_congc (s := (md_tab w p f (fun _ => 0), 0, 1, fun _ => 0)) (s' := (md_tab w p (fun _ => 0) (fun _ => 0), 0, 1, fun _ => 0)) hw rfl (show ¬ (1 : Int64) = 0 by decide) ⟨?_, rfl, rfl⟩ w (Nat.le_refl _)
  · exact ⟨h.2.2, h.2.1⟩
  · intro i j hi hj
    show md_tab w p f (fun _ => 0) (8 * i + j) = md_tab w p (fun _ => 0) (fun _ => 0) (8 * i + j)
    unfold md_tab
    rw [show (8 * i + j) % 8 = j by omega, show (8 * i + j) / 8 = i by omega, if_pos ⟨hi, hj⟩, if_pos ⟨hi, hj⟩]
theorem md_good_b {w : Nat} {p : Nat → Int64} (hw : w ≤ 7) (h : 0 < md_b w p) : md_good w p := fun f => by rw [(md_by_b hw).1]; exact h
/-- the rest of race q, times the number below -/
def md_rest (n : Nat) (p s : Nat → Int64) (now : Nat → Int32) (q : Nat) : Int64 := if md_kn (n + 1) p (sr_l (sr_rform now n q)) = true then (now (3 + 4 * q + 2)).toInt64 * md_b (n + 1) p - md_val (n + 1) p s (sr_l (sr_rform now n q)) else 0
set_option maxHeartbeats 4000000 in
set_option maxRecDepth 100000 in
theorem c_X7_restOf (g : sr_G) (D : sr_St) (n r : Nat) (hlo : sr_logOk (D.1 64) n r) (p s : Nat → Int64) (hl : md_laid (n + 1) p s D) (hgood : md_good (n + 1) p) (q : Nat) (hq : q < r) : Con g M_X7_restOf [.ref 63, .int (nI q)] D (fun a D' => a = some (.long (md_rest n p s (D.1 64) q)) ∧ md_kp D D' ∧ md_laid (n + 1) p s D' ∧ D'.2 63 17 = md_b (n + 1) p) := by
  refine Con.of pn_X7_restOf (Nat.le_of_ble_eq_true rfl) ?_
  have hn := hlo.1.1
  have hn6 := hlo.1.2.1
  have hr := hlo.1.2.2.1
  have hr12 := hlo.1.2.2.2
  have hlt := sr_crewN_lt hn6 (hlo.2 q hq).2.2.1
  have hbb := md_by_b (w := n + 1) (p := p) (f := sr_l (sr_rform (D.1 64) n q)) (by omega)
  refine wp_aload_n dX7_restOf_0 rfl rfl ?_
  refine wp_aload_n dX7_restOf_1 rfl rfl ?_
  refine wp_iload_n dX7_restOf_2 rfl rfl ?_
  refine wp_iconst (v := nI 0) dX7_restOf_3 rfl ?_
  refine wp_callV (M2 := M_X7_of) (n := 2) (As := [.int (nI q), .int (nI 0)]) (st := [.ref 63]) dX7_restOf_4 (c_X7_of g D q 0 (by omega) (by omega) (by omega)) ca_X7_73 ⟨nm_X7_of, by decide, by decide⟩ rfl (by decide) rfl rfl rfl (Nat.le_of_ble_eq_true rfl) (fun r1 E2 q3 => ?_)
  rw [(sr_per.rf).n64] at q3
  have hv4 := hlo.2 q (by omega)
  rw [show 3 + 4 * q + 0 = 3 + 4 * q from rfl, hv4.1] at q3
  obtain ⟨rfl, rfl⟩ := q3
  show WP g _ _ _ (.int (nI (sr_ra (D.1 64) q)) :: _) _ _
  refine wp_aload_n dX7_restOf_7 rfl rfl ?_
  refine wp_iload_n dX7_restOf_8 rfl rfl ?_
  refine wp_iconst (v := nI 1) dX7_restOf_9 rfl ?_
  refine wp_callV (M2 := M_X7_of) (n := 2) (As := [.int (nI q), .int (nI 1)]) (st := [.int (nI (sr_ra (D.1 64) q)), .ref 63]) dX7_restOf_10 (c_X7_of g D q 1 (by omega) (by omega) (by omega)) ca_X7_73 ⟨nm_X7_of, by decide, by decide⟩ rfl (by decide) rfl rfl rfl (Nat.le_of_ble_eq_true rfl) (fun r5 E6 q7 => ?_)
  rw [(sr_per.rf).n64] at q7
  have hv8 := hlo.2 q (by omega)
  rw [hv8.2.1] at q7
  obtain ⟨rfl, rfl⟩ := q7
  show WP g _ _ _ (.int (nI (sr_rb (D.1 64) q)) :: _) _ _
  refine wp_aload_n dX7_restOf_13 rfl rfl ?_
  refine wp_iload_n dX7_restOf_14 rfl rfl ?_
  refine wp_iconst (v := nI 3) dX7_restOf_15 rfl ?_
  refine wp_callV (M2 := M_X7_of) (n := 2) (As := [.int (nI q), .int (nI 3)]) (st := [.int (nI (sr_rb (D.1 64) q)), .int (nI (sr_ra (D.1 64) q)), .ref 63]) dX7_restOf_16 (c_X7_of g D q 3 (by omega) (by omega) (by omega)) ca_X7_73 ⟨nm_X7_of, by decide, by decide⟩ rfl (by decide) rfl rfl rfl (Nat.le_of_ble_eq_true rfl) (fun r9 E10 q11 => ?_)
  rw [(sr_per.rf).n64] at q11
  obtain ⟨rfl, rfl⟩ := q11
  show WP g _ _ _ (.int (D.1 64 (3 + 4 * q + 3)) :: _) _ _
  refine wp_callV (M2 := M_X7_formOf) (n := 3) (As := [.int (nI (sr_ra (D.1 64) q)), .int (nI (sr_rb (D.1 64) q)), .int (D.1 64 (3 + 4 * q + 3))]) (st := []) dX7_restOf_19 (c_form g D n (by rw [(sr_per.rf).n64]; exact hn) (by omega) (sr_ra (D.1 64) q) (sr_rb (D.1 64) q) (by omega) (by omega) (D.1 64 (3 + 4 * q + 3))) ca_X7_149 ⟨nm_X7_formOf, by decide, by decide⟩ rfl (by decide) rfl rfl rfl (Nat.le_of_ble_eq_true rfl) (fun r12 E13 q14 => ?_)
  obtain ⟨rfl, p15, l16, f17, g18, o19⟩ := q14
  show WP g _ _ _ _ _ _
  have la20 := l16 _ _ _ hl
  refine wp_aload_n dX7_restOf_22 rfl rfl ?_
  refine wp_callV (M2 := M_X7_isKnown) (n := 0) (As := []) (st := []) dX7_restOf_23 (c_kn g E13 (n + 1) p s (sr_form n (sr_ra (D.1 64) q) (sr_rb (D.1 64) q) (D.1 64 (3 + 4 * q + 3))) (by omega) la20 f17 hgood) ca_X7_189 ⟨nm_X7_isKnown, by decide, by decide⟩ rfl (by decide) rfl rfl rfl (Nat.le_of_ble_eq_true rfl) (fun r21 E22 q23 => ?_)
  obtain ⟨rfl, aft33⟩ := q23
  obtain ⟨p24, la25, f26, x27, y28, z29, rk30, by31, sv32⟩ := id aft33
  have hf34 : ∀ z9, z9 < 7 → E22.1 67 z9 = (sr_form n (sr_ra (D.1 64) q) (sr_rb (D.1 64) q) (D.1 64 (3 + 4 * q + 3))) z9 := fun z9 hz9 => by rw [f26]; exact f17 z9 hz9
  show WP g _ _ _ (.int (sr_b (md_kn (n + 1) p (sr_l (sr_form n (sr_ra (D.1 64) q) (sr_rb (D.1 64) q) (D.1 64 (3 + 4 * q + 3)))))) :: _) _ _
  refine wp_istore_n (lv' := [(0, .ref 63), (1, .int (nI q)), (2, .int (sr_b (md_kn (n + 1) p (sr_l (sr_form n (sr_ra (D.1 64) q) (sr_rb (D.1 64) q) (D.1 64 (3 + 4 * q + 3)))))))]) dX7_restOf_26 rfl (by decide) rfl ?_
  refine wp_iload_n dX7_restOf_27 rfl rfl ?_
  refine wp_if_eq_b (tgt := 51) dX7_restOf_28 (by decide) (fun c35 => ?_) (fun c35 => ?_)
  · have hk := c35
    refine wp_lconst (v := 0) dX7_restOf_51 rfl ?_
    refine wp_lret dX7_restOf_52 rfl ⟨?_, ((md_kp.rf).tr (md_kp_f p15 g18 o19)).tr (md_kp_a aft33), la25, by31.trans hbb.1⟩
    unfold md_rest
    rw [if_neg (by show ¬ md_kn (n + 1) p (sr_l (sr_form n (sr_ra (D.1 64) q) (sr_rb (D.1 64) q) (D.1 64 (3 + 4 * q + 3)))) = true; rw [hk]; decide)]
  · have hk := c35
    refine wp_aload_n dX7_restOf_31 rfl rfl ?_
    refine wp_iload_n dX7_restOf_32 rfl rfl ?_
    refine wp_iconst (v := nI 2) dX7_restOf_33 rfl ?_
    refine wp_callV (M2 := M_X7_of) (n := 2) (As := [.int (nI q), .int (nI 2)]) (st := []) dX7_restOf_34 (c_X7_of g E22 q 2 (by omega) (by omega) (by omega)) ca_X7_73 ⟨nm_X7_of, by decide, by decide⟩ rfl (by decide) rfl rfl rfl (Nat.le_of_ble_eq_true rfl) (fun r36 E37 q38 => ?_)
    rw [(((sr_per.rf).tr p15).tr p24).n64] at q38
    obtain ⟨rfl, rfl⟩ := q38
    show WP g _ _ _ (.int (D.1 64 (3 + 4 * q + 2)) :: _) _ _
    refine wp_i2l dX7_restOf_37 ?_
    refine wp_aload_n dX7_restOf_38 rfl rfl ?_
    refine wp_getJ dX7_restOf_39 fl_X7_159 (by decide) rfl rfl ?_
    rw [by31]
    refine wp_lmul dX7_restOf_42 ?_
    refine wp_aload_n dX7_restOf_43 rfl rfl ?_
    refine wp_callV (M2 := M_X7_value) (n := 0) (As := []) (st := [.long (((D.1 64 (3 + 4 * q + 2)).toInt64) * (md_by (n + 1) p (sr_l (sr_form n (sr_ra (D.1 64) q) (sr_rb (D.1 64) q) (D.1 64 (3 + 4 * q + 3))))))]) dX7_restOf_44 (c_val g E22 (n + 1) p s (sr_l (sr_form n (sr_ra (D.1 64) q) (sr_rb (D.1 64) q) (D.1 64 (3 + 4 * q + 3)))) (by omega) la25 sv32) ca_X7_192 ⟨nm_X7_value, by decide, by decide⟩ rfl (by decide) rfl rfl rfl (Nat.le_of_ble_eq_true rfl) (fun r39 E40 q41 => ?_)
    obtain ⟨rfl, rfl⟩ := q41
    show WP g _ _ _ (.long (md_val (n + 1) p s (sr_l (sr_form n (sr_ra (D.1 64) q) (sr_rb (D.1 64) q) (D.1 64 (3 + 4 * q + 3))))) :: _) _ _
    refine wp_lsub dX7_restOf_47 ?_
    refine wp_goto (tgt := 52) dX7_restOf_48 (by decide) ?_
    refine wp_lret dX7_restOf_52 rfl ⟨?_, ((md_kp.rf).tr (md_kp_f p15 g18 o19)).tr (md_kp_a aft33), la25, by31.trans hbb.1⟩
    unfold md_rest
    have hk2 : md_kn (n + 1) p (sr_l (sr_rform (D.1 64) n q)) = true := hk
    rw [← hbb.1, if_pos hk2]; rfl
set_option maxHeartbeats 4000000 in
set_option maxRecDepth 100000 in
theorem c_X7_rest (g : sr_G) (D : sr_St) (n r : Nat) (hlo : sr_logOk (D.1 64) n r) (hgood : md_good (n + 1) (md_P (D.1 64) n r)) (v u : Int32) (hbnd : ∀ q, q < r → -(2 ^ 63 : Int) < (md_rest n (md_P (D.1 64) n r) (md_S1 (D.1 64) n r) (D.1 64) q).toInt) : Con g M_X7_rest [.ref 63, .int v, .int u] D (fun qa D' => qa = some (.long (if sr_row r v = true then sr_told (md_rest n (md_P (D.1 64) n r) (md_S1 (D.1 64) n r) (D.1 64) v.toNatClampNeg) (md_b (n + 1) (md_P (D.1 64) n r)) u else sr_NN)) ∧ sr_per D D') := by
  refine Con.of pn_X7_rest (Nat.le_of_ble_eq_true rfl) ?_
  have hn := hlo.1.1
  have hn6 := hlo.1.2.1
  have hr := hlo.1.2.2.1
  have hr12 := hlo.1.2.2.2
  have hrr : sr_row r v = true ↔ ∃ x, x < r ∧ v = nI x := sr_in_n (by omega)
  by_cases hv : sr_row r v = true
  · obtain ⟨x, hx, rfl⟩ := hrr.mp hv
    refine wp_aload_n dX7_rest_0 rfl rfl ?_
    refine wp_iconst (v := nI 0) dX7_rest_1 rfl ?_
    refine wp_putI dX7_rest_2 fl_X7_43 (by decide) rfl rfl ?_
    refine wp_D (fun D42 eD42 => ?_)
    have p43 : sr_per D D42 := by rw [eD42]; exact sr_per_th
    refine wp_iload_n dX7_rest_5 rfl rfl ?_
    refine wp_iconst (v := nI 0) dX7_rest_6 rfl ?_
    refine wp_aload_n dX7_rest_7 rfl rfl ?_
    refine wp_callV (M2 := M_X7_races) (n := 0) (As := []) (st := [.int (nI 0), .int (nI x)]) dX7_rest_8 (c_X7_races_n g D42 r (by rw [((sr_per.rf).tr p43).n64]; exact hr)) ca_X7_58 ⟨nm_X7_races, by decide, by decide⟩ rfl (by decide) rfl rfl rfl (Nat.le_of_ble_eq_true rfl) (fun r44 E45 q46 => ?_)
    obtain ⟨rfl, rfl⟩ := q46
    show WP g _ _ _ (.int (nI r) :: _) _ _
    refine wp_iconst (v := nI 1) dX7_rest_11 rfl ?_
    refine wp_isub dX7_rest_12 ?_
    refine wp_callS (M2 := M_X7_isIn) (n := 3) (As := [.int (nI x), .int (nI 0), .int ((nI r) - (nI 1))]) (st := []) dX7_rest_13 (c_X7_isIn g D42 (nI x) (nI 0) ((nI r) - (nI 1))) ca_X7_50 ⟨nm_X7_isIn, by decide, by decide⟩ rfl rfl (Nat.le_of_ble_eq_true rfl) (fun r47 E48 q49 => ?_)
    obtain ⟨rfl, rfl⟩ := q49
    show WP g _ _ _ (.int (sr_b (sr_isIn (nI x) (nI 0) ((nI r) - (nI 1)))) :: _) _ _
    refine wp_if_ne_b (tgt := 23) dX7_rest_16 (by decide) (fun c50 => ?_) (fun c50 => ?_)
    · refine wp_aload_n dX7_rest_23 rfl rfl ?_
      refine wp_callV (M2 := M_X7_lays) (n := 0) (As := []) (st := []) dX7_rest_24 (c_X7_lays g D42 n r (by rw [((sr_per.rf).tr p43).n64]; exact hlo)) ca_X7_183 ⟨nm_X7_lays, by decide, by decide⟩ rfl (by decide) rfl rfl rfl (Nat.le_of_ble_eq_true rfl) (fun r51 E52 q53 => ?_)
      rw [((sr_per.rf).tr p43).n64] at q53
      obtain ⟨rfl, p54, la55, h6556, h6357, g6358⟩ := q53
      show WP g _ _ _ _ _ _
      refine wp_aload_n dX7_rest_27 rfl rfl ?_
      refine wp_iload_n dX7_rest_28 rfl rfl ?_
      refine wp_callV (M2 := M_X7_restOf) (n := 1) (As := [.int (nI x)]) (st := []) dX7_rest_29 (c_X7_restOf g E52 n r (by rw [(((sr_per.rf).tr p43).tr p54).n64]; exact hlo) (md_P (D.1 64) n r) (md_S1 (D.1 64) n r) la55 hgood x (by omega)) ca_X7_202 ⟨nm_X7_restOf, by decide, by decide⟩ rfl (by decide) rfl rfl rfl (Nat.le_of_ble_eq_true rfl) (fun r59 E60 q61 => ?_)
      rw [(((sr_per.rf).tr p43).tr p54).n64] at q61
      obtain ⟨rfl, kp62, la63, by64⟩ := q61
      show WP g _ _ _ (.long (md_rest n (md_P (D.1 64) n r) (md_S1 (D.1 64) n r) (D.1 64) x) :: _) _ _
      refine wp_lstore_n (lv' := [(0, .ref 63), (1, .int (nI x)), (2, .int u), (3, .long (md_rest n (md_P (D.1 64) n r) (md_S1 (D.1 64) n r) (D.1 64) x))]) dX7_rest_32 rfl (by decide) rfl ?_
      refine wp_lload_n dX7_rest_33 rfl rfl ?_
      refine wp_aload_n dX7_rest_34 rfl rfl ?_
      refine wp_getJ dX7_rest_35 fl_X7_159 (by decide) rfl rfl ?_
      rw [by64]
      refine wp_iload_n dX7_rest_38 rfl rfl ?_
      refine wp_callS (M2 := M_X7_told_) (n := 3) (As := [.long (md_rest n (md_P (D.1 64) n r) (md_S1 (D.1 64) n r) (D.1 64) x), .long (md_b (n + 1) (md_P (D.1 64) n r)), .int u]) (st := []) dX7_rest_39 (c_X7_told_ g E60 (md_rest n (md_P (D.1 64) n r) (md_S1 (D.1 64) n r) (D.1 64) x) (md_b (n + 1) (md_P (D.1 64) n r)) u (hbnd x hx) (sr_gpos (hgood _)) (sr_gne (hgood _))) ca_X7_196 ⟨nm_X7_told_, by decide, by decide⟩ rfl rfl (Nat.le_of_ble_eq_true rfl) (fun r65 E66 q67 => ?_)
      obtain ⟨rfl, rfl⟩ := q67
      show WP g _ _ _ (.long (sr_told (md_rest n (md_P (D.1 64) n r) (md_S1 (D.1 64) n r) (D.1 64) x) (md_b (n + 1) (md_P (D.1 64) n r)) u) :: _) _ _
      refine wp_lret dX7_rest_42 rfl ⟨?_, (((sr_per.rf).tr p43).tr p54).tr kp62.1⟩
      rw [if_pos hv, nI_clamp (by omega)]
    · exact absurd hv (by unfold sr_row; rw [c50]; decide)
  · refine wp_aload_n dX7_rest_0 rfl rfl ?_
    refine wp_iconst (v := nI 0) dX7_rest_1 rfl ?_
    refine wp_putI dX7_rest_2 fl_X7_43 (by decide) rfl rfl ?_
    refine wp_D (fun D68 eD68 => ?_)
    have p69 : sr_per D D68 := by rw [eD68]; exact sr_per_th
    refine wp_iload_n dX7_rest_5 rfl rfl ?_
    refine wp_iconst (v := nI 0) dX7_rest_6 rfl ?_
    refine wp_aload_n dX7_rest_7 rfl rfl ?_
    refine wp_callV (M2 := M_X7_races) (n := 0) (As := []) (st := [.int (nI 0), .int v]) dX7_rest_8 (c_X7_races_n g D68 r (by rw [((sr_per.rf).tr p69).n64]; exact hr)) ca_X7_58 ⟨nm_X7_races, by decide, by decide⟩ rfl (by decide) rfl rfl rfl (Nat.le_of_ble_eq_true rfl) (fun r70 E71 q72 => ?_)
    obtain ⟨rfl, rfl⟩ := q72
    show WP g _ _ _ (.int (nI r) :: _) _ _
    refine wp_iconst (v := nI 1) dX7_rest_11 rfl ?_
    refine wp_isub dX7_rest_12 ?_
    refine wp_callS (M2 := M_X7_isIn) (n := 3) (As := [.int v, .int (nI 0), .int ((nI r) - (nI 1))]) (st := []) dX7_rest_13 (c_X7_isIn g D68 v (nI 0) ((nI r) - (nI 1))) ca_X7_50 ⟨nm_X7_isIn, by decide, by decide⟩ rfl rfl (Nat.le_of_ble_eq_true rfl) (fun r73 E74 q75 => ?_)
    obtain ⟨rfl, rfl⟩ := q75
    show WP g _ _ _ (.int (sr_b (sr_isIn v (nI 0) ((nI r) - (nI 1)))) :: _) _ _
    refine wp_if_ne_b (tgt := 23) dX7_rest_16 (by decide) (fun c76 => ?_) (fun c76 => ?_)
    · exact absurd c76 hv
    · refine wp_ldc2 (v := -1000000000000000000) dX7_rest_19 ct_X7_181 ?_
      refine wp_lret dX7_rest_22 rfl ⟨?_, (sr_per.rf).tr p69⟩
      rw [if_neg hv]
def sr_drform (n : Nat) : Nat → Int32 := fun k => if k = n then nI 1 else nI 0
set_option maxHeartbeats 4000000 in
set_option maxRecDepth 100000 in
theorem c_X7_drift (g : sr_G) (D : sr_St) (n r : Nat) (hlo : sr_logOk (D.1 64) n r) (hgood : md_good (n + 1) (md_P (D.1 64) n r)) (u : Int32) (hbnd : md_bnd n r (D.1 64) (sr_drform n)) : Con g M_X7_drift [.ref 63, .int u] D (fun qa D' => qa = some (.long (md_ans n r (D.1 64) (sr_drform n) false u)) ∧ sr_per D D') := by
  refine Con.of pn_X7_drift (Nat.le_of_ble_eq_true rfl) ?_
  have hn := hlo.1.1
  have hn6 := hlo.1.2.1
  have hr := hlo.1.2.2.1
  have hr12 := hlo.1.2.2.2
  refine wp_aload_n dX7_drift_0 rfl rfl ?_
  refine wp_iconst (v := nI 0) dX7_drift_1 rfl ?_
  refine wp_putI dX7_drift_2 fl_X7_43 (by decide) rfl rfl ?_
  refine wp_D (fun D77 eD77 => ?_)
  have p78 : sr_per D D77 := by rw [eD77]; exact sr_per_th
  refine wp_aload_n dX7_drift_5 rfl rfl ?_
  refine wp_callV (M2 := M_X7_lays) (n := 0) (As := []) (st := []) dX7_drift_6 (c_X7_lays g D77 n r (by rw [((sr_per.rf).tr p78).n64]; exact hlo)) ca_X7_183 ⟨nm_X7_lays, by decide, by decide⟩ rfl (by decide) rfl rfl rfl (Nat.le_of_ble_eq_true rfl) (fun r79 E80 q81 => ?_)
  rw [((sr_per.rf).tr p78).n64] at q81
  obtain ⟨rfl, p82, la83, h6584, h6385, g6386⟩ := q81
  show WP g _ _ _ _ _ _
  refine wp_aload_n dX7_drift_9 rfl rfl ?_
  refine wp_callV (M2 := M_X7_clearsForm) (n := 0) (As := []) (st := []) dX7_drift_10 (c_clr g E80) ca_X7_143 ⟨nm_X7_clearsForm, by decide, by decide⟩ rfl (by decide) rfl rfl rfl (Nat.le_of_ble_eq_true rfl) (fun r87 E88 q89 => ?_)
  obtain ⟨rfl, p90, l91, f92, g93, o94⟩ := q89
  show WP g _ _ _ _ _ _
  have la95 := l91 _ _ _ la83
  refine wp_aload_n dX7_drift_13 rfl rfl ?_
  refine wp_getR (r := 67) dX7_drift_14 fl_X7_24 (by decide) rfl rfl rfl ?_
  refine wp_aload_n dX7_drift_17 rfl rfl ?_
  refine wp_callV (M2 := M_X7_n) (n := 0) (As := []) (st := [.ref 67]) dX7_drift_18 (c_X7_n_n g E88 n (by rw [((((sr_per.rf).tr p78).tr p82).tr p90).n64]; exact hn)) ca_X7_46 ⟨nm_X7_n, by decide, by decide⟩ rfl (by decide) rfl rfl rfl (Nat.le_of_ble_eq_true rfl) (fun r96 E97 q98 => ?_)
  obtain ⟨rfl, rfl⟩ := q98
  show WP g _ _ _ (.int (nI n) :: _) _ _
  refine wp_iconst (v := nI 1) dX7_drift_21 rfl ?_
  refine wp_iast dX7_drift_22 (by decide) rfl (show _ < 7 by omega) (by first | omega | (split <;> omega)) ?_
  refine wp_D (fun D99 eD99 => ?_)
  have p100 : sr_per E88 D99 := by rw [eD99]; exact ⟨fun o a b c d => by simp [sr_sI, c], fun k a b c d e f => rfl, fun o a b c d e => rfl⟩
  have la101 : md_laid (n + 1) (md_P (D.1 64) n r) (md_S1 (D.1 64) n r) D99 := by rw [eD99]; exact la95
  have f102 : ∀ z9, z9 < 7 → D99.1 67 z9 = sr_drform n z9 := by
    intro z9 hz9
    rw [eD99, sr_sI_1]
    unfold sr_drform
    by_cases e : z9 = n
    · rw [if_pos ⟨rfl, e⟩, if_pos e]
    · rw [if_neg (fun z => e z.2), if_neg e]; exact f92 z9 hz9
  refine wp_aload_n dX7_drift_23 rfl rfl ?_
  refine wp_callV (M2 := M_X7_isKnown) (n := 0) (As := []) (st := []) dX7_drift_24 (c_kn g D99 (n + 1) (md_P (D.1 64) n r) (md_S1 (D.1 64) n r) (sr_drform n) (by omega) la101 f102 hgood) ca_X7_189 ⟨nm_X7_isKnown, by decide, by decide⟩ rfl (by decide) rfl rfl rfl (Nat.le_of_ble_eq_true rfl) (fun r103 E104 q105 => ?_)
  obtain ⟨rfl, aft115⟩ := q105
  obtain ⟨p106, la107, f108, x109, y110, z111, rk112, by113, sv114⟩ := id aft115
  have hf116 : ∀ z9, z9 < 7 → E104.1 67 z9 = (sr_drform n) z9 := fun z9 hz9 => by rw [f108]; exact f102 z9 hz9
  show WP g _ _ _ (.int (sr_b (md_kn (n + 1) (md_P (D.1 64) n r) (sr_l (sr_drform n)))) :: _) _ _
  refine wp_if_eq_b (tgt := 45) dX7_drift_27 (by decide) (fun c117 => ?_) (fun c117 => ?_)
  · have hk := c117
    refine wp_ldc2 (v := -1000000000000000000) dX7_drift_45 ct_X7_181 ?_
    refine wp_lret dX7_drift_48 rfl ⟨?_, (((((sr_per.rf).tr p78).tr p82).tr p90).tr p100).tr p106⟩
    unfold md_ans
    rw [if_neg (by rw [hk]; decide)]
  · have hk := c117
    refine wp_aload_n dX7_drift_30 rfl rfl ?_
    refine wp_callV (M2 := M_X7_value) (n := 0) (As := []) (st := []) dX7_drift_31 (c_val g E104 (n + 1) (md_P (D.1 64) n r) (md_S1 (D.1 64) n r) (sr_l (sr_drform n)) (by omega) la107 sv114) ca_X7_192 ⟨nm_X7_value, by decide, by decide⟩ rfl (by decide) rfl rfl rfl (Nat.le_of_ble_eq_true rfl) (fun r118 E119 q120 => ?_)
    obtain ⟨rfl, rfl⟩ := q120
    show WP g _ _ _ (.long (md_val (n + 1) (md_P (D.1 64) n r) (md_S1 (D.1 64) n r) (sr_l (sr_drform n))) :: _) _ _
    refine wp_aload_n dX7_drift_34 rfl rfl ?_
    refine wp_getJ dX7_drift_35 fl_X7_159 (by decide) rfl rfl ?_
    rw [by113]
    refine wp_iload_n dX7_drift_38 rfl rfl ?_
    refine wp_callS (M2 := M_X7_told_) (n := 3) (As := [.long (md_val (n + 1) (md_P (D.1 64) n r) (md_S1 (D.1 64) n r) (sr_l (sr_drform n))), .long (md_by (n + 1) (md_P (D.1 64) n r) (sr_l (sr_drform n))), .int u]) (st := []) dX7_drift_39 (c_X7_told_ g E104 (md_val (n + 1) (md_P (D.1 64) n r) (md_S1 (D.1 64) n r) (sr_l (sr_drform n))) (md_by (n + 1) (md_P (D.1 64) n r) (sr_l (sr_drform n))) u (hbnd.1) (sr_gpos (hgood _)) (sr_gne (hgood _))) ca_X7_196 ⟨nm_X7_told_, by decide, by decide⟩ rfl rfl (Nat.le_of_ble_eq_true rfl) (fun r121 E122 q123 => ?_)
    obtain ⟨rfl, rfl⟩ := q123
    show WP g _ _ _ (.long (sr_told (md_val (n + 1) (md_P (D.1 64) n r) (md_S1 (D.1 64) n r) (sr_l (sr_drform n))) (md_by (n + 1) (md_P (D.1 64) n r) (sr_l (sr_drform n))) u) :: _) _ _
    refine wp_goto (tgt := 48) dX7_drift_42 (by decide) ?_
    refine wp_lret dX7_drift_48 rfl ⟨?_, (((((sr_per.rf).tr p78).tr p82).tr p90).tr p100).tr p106⟩
    unfold md_ans
    rw [if_pos hk]; rfl
set_option maxHeartbeats 4000000 in
set_option maxRecDepth 100000 in
theorem c_X7_guess (g : sr_G) (D : sr_St) (n r : Nat) (hlo : sr_logOk (D.1 64) n r) (hgood : md_good (n + 1) (md_P (D.1 64) n r)) (a b t db u : Int32) (hbnd : ∀ x y, sr_crewN n x y = true → sr_isIn t (-1) (nI 1) = true → md_bnd n r (D.1 64) (sr_form n x y t)) : Con g M_X7_guess [.ref 63, .int a, .int b, .int t, .int db, .int u] D (fun qa D' => qa = some (.long (if (sr_crew n a b && sr_isIn t (-1) (nI 1)) = true then md_ans n r (D.1 64) (sr_form n a.toNatClampNeg b.toNatClampNeg t) (!decide (db = 0)) u else sr_NN)) ∧ sr_per D D') := by
  refine Con.of pn_X7_guess (Nat.le_of_ble_eq_true rfl) ?_
  have hn := hlo.1.1
  have hn6 := hlo.1.2.1
  have hr := hlo.1.2.2.1
  have hr12 := hlo.1.2.2.2
  by_cases hc : sr_crew n a b = true
  · obtain ⟨x, hx, rfl⟩ := (sr_cases a).resolve_left (fun z => by rw [sr_crew_a z] at hc; cases hc)
    obtain ⟨y, hy, rfl⟩ := (sr_cases b).resolve_left (fun z => by rw [sr_crew_b z] at hc; cases hc)
    have hcn := hc
    rw [sr_crew_n hx hy] at hcn
    have hlt := sr_crewN_lt hn6 hcn
    refine wp_aload_n dX7_guess_0 rfl rfl ?_
    refine wp_iconst (v := nI 0) dX7_guess_1 rfl ?_
    refine wp_putI dX7_guess_2 fl_X7_43 (by decide) rfl rfl ?_
    refine wp_D (fun D124 eD124 => ?_)
    have p125 : sr_per D D124 := by rw [eD124]; exact sr_per_th
    refine wp_aload_n dX7_guess_5 rfl rfl ?_
    refine wp_iload_n dX7_guess_6 rfl rfl ?_
    refine wp_iload_n dX7_guess_7 rfl rfl ?_
    refine wp_callV (M2 := M_X7_areCrews) (n := 2) (As := [.int (nI x), .int (nI y)]) (st := []) dX7_guess_8 (c_X7_areCrews g D124 n (by rw [((sr_per.rf).tr p125).n64]; exact hn) hn6 (nI x) (nI y)) ca_X7_61 ⟨nm_X7_areCrews, by decide, by decide⟩ rfl (by decide) rfl rfl rfl (Nat.le_of_ble_eq_true rfl) (fun r126 E127 q128 => ?_)
    obtain ⟨rfl, rfl⟩ := q128
    show WP g _ _ _ (.int (sr_b (sr_crew n (nI x) (nI y))) :: _) _ _
    refine wp_if_eq_b (tgt := 23) dX7_guess_11 (by decide) (fun c129 => ?_) (fun c129 => ?_)
    · exact absurd hc (by rw [c129]; decide)
    · refine wp_iload_n dX7_guess_14 rfl rfl ?_
      refine wp_iconst (v := -1) dX7_guess_15 rfl ?_
      refine wp_iconst (v := nI 1) dX7_guess_16 rfl ?_
      refine wp_callS (M2 := M_X7_isIn) (n := 3) (As := [.int t, .int ((-1)), .int (nI 1)]) (st := []) dX7_guess_17 (c_X7_isIn g D124 t ((-1)) (nI 1)) ca_X7_50 ⟨nm_X7_isIn, by decide, by decide⟩ rfl rfl (Nat.le_of_ble_eq_true rfl) (fun r130 E131 q132 => ?_)
      obtain ⟨rfl, rfl⟩ := q132
      show WP g _ _ _ (.int (sr_b (sr_isIn t ((-1)) (nI 1))) :: _) _ _
      refine wp_if_ne_b (tgt := 27) dX7_guess_20 (by decide) (fun c133 => ?_) (fun c133 => ?_)
      · have ht := c133
        refine wp_aload_n dX7_guess_27 rfl rfl ?_
        refine wp_callV (M2 := M_X7_lays) (n := 0) (As := []) (st := []) dX7_guess_28 (c_X7_lays g D124 n r (by rw [((sr_per.rf).tr p125).n64]; exact hlo)) ca_X7_183 ⟨nm_X7_lays, by decide, by decide⟩ rfl (by decide) rfl rfl rfl (Nat.le_of_ble_eq_true rfl) (fun r134 E135 q136 => ?_)
        rw [((sr_per.rf).tr p125).n64] at q136
        obtain ⟨rfl, p137, la138, h65139, h63140, g63141⟩ := q136
        show WP g _ _ _ _ _ _
        refine wp_aload_n dX7_guess_31 rfl rfl ?_
        refine wp_iload_n dX7_guess_32 rfl rfl ?_
        refine wp_iload_n dX7_guess_33 rfl rfl ?_
        refine wp_iload_n dX7_guess_34 rfl rfl ?_
        refine wp_callV (M2 := M_X7_formOf) (n := 3) (As := [.int (nI x), .int (nI y), .int t]) (st := []) dX7_guess_35 (c_form g E135 n (by rw [(((sr_per.rf).tr p125).tr p137).n64]; exact hn) (by omega) x y (by omega) (by omega) t) ca_X7_149 ⟨nm_X7_formOf, by decide, by decide⟩ rfl (by decide) rfl rfl rfl (Nat.le_of_ble_eq_true rfl) (fun r142 E143 q144 => ?_)
        obtain ⟨rfl, p145, l146, f147, g148, o149⟩ := q144
        show WP g _ _ _ _ _ _
        have la150 := l146 _ _ _ la138
        refine wp_aload_n dX7_guess_38 rfl rfl ?_
        refine wp_callV (M2 := M_X7_isKnown) (n := 0) (As := []) (st := []) dX7_guess_39 (c_kn g E143 (n + 1) (md_P (D.1 64) n r) (md_S1 (D.1 64) n r) (sr_form n x y t) (by omega) la150 f147 hgood) ca_X7_189 ⟨nm_X7_isKnown, by decide, by decide⟩ rfl (by decide) rfl rfl rfl (Nat.le_of_ble_eq_true rfl) (fun r151 E152 q153 => ?_)
        obtain ⟨rfl, aft163⟩ := q153
        obtain ⟨p154, la155, f156, x157, y158, z159, rk160, by161, sv162⟩ := id aft163
        have hf164 : ∀ z9, z9 < 7 → E152.1 67 z9 = (sr_form n x y t) z9 := fun z9 hz9 => by rw [f156]; exact f147 z9 hz9
        show WP g _ _ _ (.int (sr_b (md_kn (n + 1) (md_P (D.1 64) n r) (sr_l (sr_form n x y t)))) :: _) _ _
        refine wp_if_eq_b (tgt := 73) dX7_guess_42 (by decide) (fun c165 => ?_) (fun c165 => ?_)
        · have hk := c165
          refine wp_ldc2 (v := -1000000000000000000) dX7_guess_73 ct_X7_181 ?_
          refine wp_lret dX7_guess_76 rfl ⟨?_, ((((sr_per.rf).tr p125).tr p137).tr p145).tr p154⟩
          rw [if_pos (by rw [hc, ht]; rfl), nI_clamp hx, nI_clamp hy]
          unfold md_ans
          rw [if_neg (by rw [hk]; decide)]
        · have hk := c165
          refine wp_iload dX7_guess_45 rfl ?_
          refine wp_if_eq (tgt := 57) dX7_guess_47 (by decide) (fun c166 => ?_) (fun c166 => ?_)
          · have hdb := c166
            refine wp_aload_n dX7_guess_57 rfl rfl ?_
            refine wp_callV (M2 := M_X7_value) (n := 0) (As := []) (st := []) dX7_guess_58 (c_val g E152 (n + 1) (md_P (D.1 64) n r) (md_S1 (D.1 64) n r) (sr_l (sr_form n x y t)) (by omega) la155 sv162) ca_X7_192 ⟨nm_X7_value, by decide, by decide⟩ rfl (by decide) rfl rfl rfl (Nat.le_of_ble_eq_true rfl) (fun r167 E168 q169 => ?_)
            obtain ⟨rfl, rfl⟩ := q169
            show WP g _ _ _ (.long (md_val (n + 1) (md_P (D.1 64) n r) (md_S1 (D.1 64) n r) (sr_l (sr_form n x y t))) :: _) _ _
            refine wp_aload_n dX7_guess_61 rfl rfl ?_
            refine wp_getJ dX7_guess_62 fl_X7_159 (by decide) rfl rfl ?_
            rw [by161]
            refine wp_iload dX7_guess_65 rfl ?_
            refine wp_callS (M2 := M_X7_told_) (n := 3) (As := [.long (md_val (n + 1) (md_P (D.1 64) n r) (md_S1 (D.1 64) n r) (sr_l (sr_form n x y t))), .long (md_by (n + 1) (md_P (D.1 64) n r) (sr_l (sr_form n x y t))), .int u]) (st := []) dX7_guess_67 (c_X7_told_ g E152 (md_val (n + 1) (md_P (D.1 64) n r) (md_S1 (D.1 64) n r) (sr_l (sr_form n x y t))) (md_by (n + 1) (md_P (D.1 64) n r) (sr_l (sr_form n x y t))) u ((hbnd x y hcn ht).1) (sr_gpos (hgood _)) (sr_gne (hgood _))) ca_X7_196 ⟨nm_X7_told_, by decide, by decide⟩ rfl rfl (Nat.le_of_ble_eq_true rfl) (fun r170 E171 q172 => ?_)
            obtain ⟨rfl, rfl⟩ := q172
            show WP g _ _ _ (.long (sr_told (md_val (n + 1) (md_P (D.1 64) n r) (md_S1 (D.1 64) n r) (sr_l (sr_form n x y t))) (md_by (n + 1) (md_P (D.1 64) n r) (sr_l (sr_form n x y t))) u) :: _) _ _
            refine wp_goto (tgt := 76) dX7_guess_70 (by decide) ?_
            refine wp_lret dX7_guess_76 rfl ⟨?_, ((((sr_per.rf).tr p125).tr p137).tr p145).tr p154⟩
            rw [if_pos (by rw [hc, ht]; rfl), nI_clamp hx, nI_clamp hy]
            unfold md_ans
            rw [if_pos hk]
            rw [if_neg (by simp [hdb])]
          · have hdb := c166
            refine wp_aload_n dX7_guess_50 rfl rfl ?_
            refine wp_callV (M2 := M_X7_doubt) (n := 0) (As := []) (st := []) dX7_guess_51 (c_dou g E152 (n + 1) (md_P (D.1 64) n r) (md_S1 (D.1 64) n r) (sr_l (sr_form n x y t)) (by omega) la155 sv162 (fun z9 hz9 => by rw [hf164 z9 hz9]; rfl)) ca_X7_199 ⟨nm_X7_doubt, by decide, by decide⟩ rfl (by decide) rfl rfl rfl (Nat.le_of_ble_eq_true rfl) (fun r173 E174 q175 => ?_)
            obtain ⟨rfl, rfl⟩ := q175
            show WP g _ _ _ (.long (md_dou (n + 1) (md_P (D.1 64) n r) (sr_l (sr_form n x y t))) :: _) _ _
            refine wp_goto (tgt := 61) dX7_guess_54 (by decide) ?_
            refine wp_aload_n dX7_guess_61 rfl rfl ?_
            refine wp_getJ dX7_guess_62 fl_X7_159 (by decide) rfl rfl ?_
            rw [by161]
            refine wp_iload dX7_guess_65 rfl ?_
            refine wp_callS (M2 := M_X7_told_) (n := 3) (As := [.long (md_dou (n + 1) (md_P (D.1 64) n r) (sr_l (sr_form n x y t))), .long (md_by (n + 1) (md_P (D.1 64) n r) (sr_l (sr_form n x y t))), .int u]) (st := []) dX7_guess_67 (c_X7_told_ g E152 (md_dou (n + 1) (md_P (D.1 64) n r) (sr_l (sr_form n x y t))) (md_by (n + 1) (md_P (D.1 64) n r) (sr_l (sr_form n x y t))) u ((hbnd x y hcn ht).2) (sr_gpos (hgood _)) (sr_gne (hgood _))) ca_X7_196 ⟨nm_X7_told_, by decide, by decide⟩ rfl rfl (Nat.le_of_ble_eq_true rfl) (fun r176 E177 q178 => ?_)
            obtain ⟨rfl, rfl⟩ := q178
            show WP g _ _ _ (.long (sr_told (md_dou (n + 1) (md_P (D.1 64) n r) (sr_l (sr_form n x y t))) (md_by (n + 1) (md_P (D.1 64) n r) (sr_l (sr_form n x y t))) u) :: _) _ _
            refine wp_goto (tgt := 76) dX7_guess_70 (by decide) ?_
            refine wp_lret dX7_guess_76 rfl ⟨?_, ((((sr_per.rf).tr p125).tr p137).tr p145).tr p154⟩
            rw [if_pos (by rw [hc, ht]; rfl), nI_clamp hx, nI_clamp hy]
            unfold md_ans
            rw [if_pos hk]
            rw [if_pos (by simp [hdb])]
      · have ht := c133
        refine wp_ldc2 (v := -1000000000000000000) dX7_guess_23 ct_X7_181 ?_
        refine wp_lret dX7_guess_26 rfl ⟨?_, (sr_per.rf).tr p125⟩
        rw [if_neg (by rw [ht]; simp)]
  · refine wp_aload_n dX7_guess_0 rfl rfl ?_
    refine wp_iconst (v := nI 0) dX7_guess_1 rfl ?_
    refine wp_putI dX7_guess_2 fl_X7_43 (by decide) rfl rfl ?_
    refine wp_D (fun D179 eD179 => ?_)
    have p180 : sr_per D D179 := by rw [eD179]; exact sr_per_th
    refine wp_aload_n dX7_guess_5 rfl rfl ?_
    refine wp_iload_n dX7_guess_6 rfl rfl ?_
    refine wp_iload_n dX7_guess_7 rfl rfl ?_
    refine wp_callV (M2 := M_X7_areCrews) (n := 2) (As := [.int a, .int b]) (st := []) dX7_guess_8 (c_X7_areCrews g D179 n (by rw [((sr_per.rf).tr p180).n64]; exact hn) hn6 a b) ca_X7_61 ⟨nm_X7_areCrews, by decide, by decide⟩ rfl (by decide) rfl rfl rfl (Nat.le_of_ble_eq_true rfl) (fun r181 E182 q183 => ?_)
    obtain ⟨rfl, rfl⟩ := q183
    show WP g _ _ _ (.int (sr_b (sr_crew n a b)) :: _) _ _
    refine wp_if_eq_b (tgt := 23) dX7_guess_11 (by decide) (fun c184 => ?_) (fun c184 => ?_)
    · refine wp_ldc2 (v := -1000000000000000000) dX7_guess_23 ct_X7_181 ?_
      refine wp_lret dX7_guess_26 rfl ⟨?_, (sr_per.rf).tr p180⟩
      rw [if_neg (by simp [hc])]
    · exact absurd c184 hc
