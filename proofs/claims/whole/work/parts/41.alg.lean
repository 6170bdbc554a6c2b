/-! nothing is always known -/
theorem md_z_step {w c : Nat} {s : md_S} (hw : w ≤ 7) (hc : c < w) (hr : s.2.1 ≤ c) (h : ∀ i, i < w → s.1 (8 * i + w) = 0) : ∀ i, i < w → (md_step w c s).1 (8 * i + w) = 0 := by
  have hb := md_find_le (w := w) (c := c) (r := s.1) _ s.2.1 rfl (by omega)
  intro i hi
  unfold md_step
  by_cases e : md_find w c s.1 s.2.1 = w
  · rw [if_pos e]; exact h i hi
  · rw [if_neg e]
    have hs : ∀ i, i < w → md_swap w s.2.1 (md_find w c s.1 s.2.1) s.1 (8 * i + w) = 0 := by
      intro i hi
      unfold md_swap
      rw [show (8 * i + w) % 8 = w by omega, show (8 * i + w) / 8 = i by omega]
      split
      · exact h _ (by omega)
      · split
        · exact h _ (by omega)
        · exact h i hi
    show md_elim w s.2.1 c s.2.2.1 (md_swap w s.2.1 (md_find w c s.1 s.2.1) s.1) (8 * i + w) = 0
    unfold md_elim
    rw [show (8 * i + w) % 8 = w by omega, show (8 * i + w) / 8 = i by omega, hs i hi, hs s.2.1 (by omega)]
    split
    · rw [Int64.mul_zero, Int64.mul_zero, Int64.sub_self, Int64.zero_div]
    · rfl
theorem md_ok_z {w : Nat} {r : Nat → Int64} (h : ∀ i, i < w → r (8 * i + w) = 0) : ∀ k i, i + k ≤ w → md_ok w r k i = true := by
  intro k
  induction k with
  | zero => intro i _; rfl
  | succ k ih =>
    intro i hi
    show (decide (r (8 * i + w) = 0) && md_ok w r k (i + 1)) = true
    rw [h i (by omega), ih (i + 1) (by omega)]; rfl
theorem md_kn_z {w : Nat} {p : Nat → Int64} (hw : w ≤ 7) : md_kn w p (sr_l (fun _ => nI 0)) = true := by
  have h : ∀ c, c ≤ w → ∀ i, i < w → (md_cols w c (md_tab w p (sr_l (fun _ => nI 0)) (fun _ => 0), 0, 1, fun _ => 0)).1 (8 * i + w) = 0 := by
    intro c
    induction c with
    | zero =>
      intro _ i hi
      show md_tab w p (sr_l (fun _ => nI 0)) (fun _ => 0) (8 * i + w) = 0
      unfold md_tab
      rw [show (8 * i + w) % 8 = w by omega, show (8 * i + w) / 8 = i by omega, if_neg (by omega), if_pos ⟨hi, rfl⟩]
      rfl
    | succ c ih => intro hc; exact md_z_step hw (by omega) (md_cols_ok (s := (md_tab w p (sr_l (fun _ => nI 0)) (fun _ => 0), 0, 1, fun _ => 0)) hw rfl (show ¬ (1 : Int64) = 0 by decide) c (by omega)).1 (ih (by omega))
  have hl := md_rk_le (w := w) (p := p) (f := sr_l (fun _ => nI 0)) hw
  exact md_ok_z (h w (Nat.le_refl _)) _ _ (by unfold md_rk at hl; omega)
/-- which side two rowers are on together in race q -/
def sr_side (now : Nat → Int32) (q i j : Nat) : Int32 := if (sr_ra now q).testBit i = true ∧ (sr_ra now q).testBit j = true then nI 1 else if (sr_rb now q).testBit i = true ∧ (sr_rb now q).testBit j = true then -1 else nI 0
def md_sui (n r : Nat) (now : Nat → Int32) (i j m : Nat) : Int64 := sr_sumL (fun q => (sr_side now q i j).toInt64 * md_rest n (md_P now n r) (md_S1 now n r) now q) m
set_option maxHeartbeats 4000000 in
set_option maxRecDepth 100000 in
theorem c_X7_suit (g : sr_G) (D : sr_St) (n r : Nat) (hlo : sr_logOk (D.1 64) n r) (hgood : md_good (n + 1) (md_P (D.1 64) n r)) (v w u : Int32) (hbnd : ∀ x y, x < n → y < n → -(2 ^ 63 : Int) < (md_sui n r (D.1 64) x y r).toInt) : Con g M_X7_suit [.ref 63, .int v, .int w, .int u] D (fun qa D' => qa = some (.long (if (sr_row n v && sr_row n w && !decide (v = w)) = true then sr_told (md_sui n r (D.1 64) v.toNatClampNeg w.toNatClampNeg r) (md_b (n + 1) (md_P (D.1 64) n r)) u else sr_NN)) ∧ sr_per D D') := by
  refine Con.of pn_X7_suit (Nat.le_of_ble_eq_true rfl) ?_
  have hn := hlo.1.1
  have hn6 := hlo.1.2.1
  have hr := hlo.1.2.2.1
  have hr12 := hlo.1.2.2.2
  by_cases hok : (sr_row n v && sr_row n w && !decide (v = w)) = true
  · obtain ⟨h12, h3⟩ := Bool.and_eq_true_iff.mp hok
    obtain ⟨h1, h2⟩ := Bool.and_eq_true_iff.mp h12
    obtain ⟨x, hx, rfl⟩ := (sr_row_n hn6).mp h1
    obtain ⟨y, hy, rfl⟩ := (sr_row_n hn6).mp h2
    have hxy : ¬ x = y := fun z => by rw [z] at h3; simp at h3
    have hkz := md_kn_z (w := n + 1) (p := md_P (D.1 64) n r) (by omega)
    have hL : ∀ m, m ≤ r → ∀ E : sr_St, sr_per D E → md_laid (n + 1) (md_P (D.1 64) n r) (md_S1 (D.1 64) n r) E → E.2 63 17 = md_b (n + 1) (md_P (D.1 64) n r) → WP g M_X7_suit 50 [(0, .ref 63), (1, .int (nI x)), (2, .int (nI y)), (3, .int u), (4, .int (sr_b (md_kn (n + 1) (md_P (D.1 64) n r) (sr_l (fun _ => nI 0))))), (5, .long (md_sui n r (D.1 64) x y m)), (7, .int (nI m))] [] E (fun qa D' => qa = some (.long (if (sr_row n (nI x) && sr_row n (nI y) && !decide (nI x = nI y)) = true then sr_told (md_sui n r (D.1 64) (nI x).toNatClampNeg (nI y).toNatClampNeg r) (md_b (n + 1) (md_P (D.1 64) n r)) u else sr_NN)) ∧ sr_per D D') := by
      refine sr_up (fun m hm ih E hper hl hby => ?_)
      refine wp_iload dX7_suit_50 rfl ?_
      refine wp_aload_n dX7_suit_52 rfl rfl ?_
      refine wp_callV (M2 := M_X7_races) (n := 0) (As := []) (st := [.int (nI m)]) dX7_suit_53 (c_X7_races_n g E r (by rw [(hper).n64]; exact hr)) ca_X7_58 ⟨nm_X7_races, by decide, by decide⟩ rfl (by decide) rfl rfl rfl (Nat.le_of_ble_eq_true rfl) (fun r496 E497 q498 => ?_)
      obtain ⟨rfl, rfl⟩ := q498
      show WP g _ _ _ (.int (nI r) :: _) _ _
      refine wp_icmp_ge_n (tgt := 157) dX7_suit_56 (by decide) (by first | omega | (split <;> omega)) (by first | omega | (split <;> omega)) (fun c499 => ?_) (fun c499 => ?_)
      · refine wp_lload dX7_suit_157 rfl ?_
        refine wp_aload_n dX7_suit_159 rfl rfl ?_
        refine wp_getJ dX7_suit_160 fl_X7_159 (by decide) rfl rfl ?_
        rw [hby]
        refine wp_iload_n dX7_suit_163 rfl rfl ?_
        refine wp_callS (M2 := M_X7_told_) (n := 3) (As := [.long (md_sui n r (D.1 64) x y m), .long (md_b (n + 1) (md_P (D.1 64) n r)), .int u]) (st := []) dX7_suit_164 (c_X7_told_ g E (md_sui n r (D.1 64) x y m) (md_b (n + 1) (md_P (D.1 64) n r)) u (by rw [show m = r by omega]; exact hbnd x y hx hy) (sr_gpos (hgood _)) (sr_gne (hgood _))) ca_X7_196 ⟨nm_X7_told_, by decide, by decide⟩ rfl rfl (Nat.le_of_ble_eq_true rfl) (fun r500 E501 q502 => ?_)
        obtain ⟨rfl, rfl⟩ := q502
        show WP g _ _ _ (.long (sr_told (md_sui n r (D.1 64) x y m) (md_b (n + 1) (md_P (D.1 64) n r)) u) :: _) _ _
        have hmr : m = r := by omega
        subst hmr
        refine wp_lret dX7_suit_167 rfl ⟨?_, hper⟩
        rw [if_pos hok, nI_clamp (by omega), nI_clamp (by omega)]
      · have hlt := sr_crewN_lt hn6 (hlo.2 m (by omega)).2.2.1
        refine wp_iload dX7_suit_59 rfl ?_
        refine wp_if_eq_b (tgt := 157) dX7_suit_61 (by decide) (fun c503 => ?_) (fun c503 => ?_)
        · exact absurd hkz (by rw [c503]; decide)
        · refine wp_aload_n dX7_suit_64 rfl rfl ?_
          refine wp_iload dX7_suit_65 rfl ?_
          refine wp_iconst (v := nI 0) dX7_suit_67 rfl ?_
          refine wp_callV (M2 := M_X7_of) (n := 2) (As := [.int (nI m), .int (nI 0)]) (st := []) dX7_suit_68 (c_X7_of g E m 0 (by omega) (by omega) (by omega)) ca_X7_73 ⟨nm_X7_of, by decide, by decide⟩ rfl (by decide) rfl rfl rfl (Nat.le_of_ble_eq_true rfl) (fun r504 E505 q506 => ?_)
          rw [(hper).n64] at q506
          have hv507 := hlo.2 m (by omega)
          rw [show 3 + 4 * m + 0 = 3 + 4 * m from rfl, hv507.1] at q506
          obtain ⟨rfl, rfl⟩ := q506
          show WP g _ _ _ (.int (nI (sr_ra (D.1 64) m)) :: _) _ _
          refine wp_iload_n dX7_suit_71 rfl rfl ?_
          refine wp_callS (M2 := M_X7_has) (n := 2) (As := [.int (nI (sr_ra (D.1 64) m)), .int (nI x)]) (st := []) dX7_suit_72 (c_X7_has g E (sr_ra (D.1 64) m) x (by omega) (by omega)) ca_X7_116 ⟨nm_X7_has, by decide, by decide⟩ rfl rfl (Nat.le_of_ble_eq_true rfl) (fun r508 E509 q510 => ?_)
          obtain ⟨rfl, rfl⟩ := q510
          show WP g _ _ _ (.int (sr_b ((sr_ra (D.1 64) m).testBit x)) :: _) _ _
          refine wp_if_eq_b (tgt := 96) dX7_suit_75 (by decide) (fun c511 => ?_) (fun c511 => ?_)
          · have a1 := c511
            refine wp_aload_n dX7_suit_96 rfl rfl ?_
            refine wp_iload dX7_suit_97 rfl ?_
            refine wp_iconst (v := nI 1) dX7_suit_99 rfl ?_
            refine wp_callV (M2 := M_X7_of) (n := 2) (As := [.int (nI m), .int (nI 1)]) (st := []) dX7_suit_100 (c_X7_of g E m 1 (by omega) (by omega) (by omega)) ca_X7_73 ⟨nm_X7_of, by decide, by decide⟩ rfl (by decide) rfl rfl rfl (Nat.le_of_ble_eq_true rfl) (fun r512 E513 q514 => ?_)
            rw [(hper).n64] at q514
            have hv515 := hlo.2 m (by omega)
            rw [hv515.2.1] at q514
            obtain ⟨rfl, rfl⟩ := q514
            show WP g _ _ _ (.int (nI (sr_rb (D.1 64) m)) :: _) _ _
            refine wp_iload_n dX7_suit_103 rfl rfl ?_
            refine wp_callS (M2 := M_X7_has) (n := 2) (As := [.int (nI (sr_rb (D.1 64) m)), .int (nI x)]) (st := []) dX7_suit_104 (c_X7_has g E (sr_rb (D.1 64) m) x (by omega) (by omega)) ca_X7_116 ⟨nm_X7_has, by decide, by decide⟩ rfl rfl (Nat.le_of_ble_eq_true rfl) (fun r516 E517 q518 => ?_)
            obtain ⟨rfl, rfl⟩ := q518
            show WP g _ _ _ (.int (sr_b ((sr_rb (D.1 64) m).testBit x)) :: _) _ _
            refine wp_if_eq_b (tgt := 128) dX7_suit_107 (by decide) (fun c519 => ?_) (fun c519 => ?_)
            · have a3 := c519
              refine wp_iconst (v := nI 0) dX7_suit_128 rfl ?_
              refine wp_istore (lv' := [(0, .ref 63), (1, .int (nI x)), (2, .int (nI y)), (3, .int u), (4, .int (sr_b (md_kn (n + 1) (md_P (D.1 64) n r) (sr_l (fun _ => nI 0))))), (5, .long (md_sui n r (D.1 64) x y m)), (7, .int (nI m)), (8, .int (nI 0))]) dX7_suit_129 (by decide) rfl ?_
              refine wp_iload dX7_suit_131 rfl ?_
              refine wp_if_eq (tgt := 151) dX7_suit_133 (by decide) (fun _ => ?_) (fun c520 => absurd c520 (by decide))
              refine wp_iinc_n (b := 1) (lv' := [(0, .ref 63), (1, .int (nI x)), (2, .int (nI y)), (3, .int u), (4, .int (sr_b (md_kn (n + 1) (md_P (D.1 64) n r) (sr_l (fun _ => nI 0))))), (5, .long (md_sui n r (D.1 64) x y m)), (7, .int (nI (m + 1))), (8, .int (nI 0))]) dX7_suit_151 rfl rfl (by decide) rfl ?_
              refine wp_goto (tgt := 50) dX7_suit_154 (by decide) ?_
              have hsd : sr_side (D.1 64) m x y = nI 0 := by simp_all [sr_side]
              have h := ih (by omega) E (hper) hl hby
              rw [show md_sui n r (D.1 64) x y (m + 1) = md_sui n r (D.1 64) x y m + (sr_side (D.1 64) m x y).toInt64 * md_rest n (md_P (D.1 64) n r) (md_S1 (D.1 64) n r) (D.1 64) m from rfl, hsd] at h
              rw [show (nI 0 : Int32).toInt64 = 0 from rfl, Int64.zero_mul, Int64.add_zero] at h
              exact wp_pick [0, 1, 2, 3, 4, 5, 6] rfl h
            · have a3 := c519
              refine wp_aload_n dX7_suit_110 rfl rfl ?_
              refine wp_iload dX7_suit_111 rfl ?_
              refine wp_iconst (v := nI 1) dX7_suit_113 rfl ?_
              refine wp_callV (M2 := M_X7_of) (n := 2) (As := [.int (nI m), .int (nI 1)]) (st := []) dX7_suit_114 (c_X7_of g E m 1 (by omega) (by omega) (by omega)) ca_X7_73 ⟨nm_X7_of, by decide, by decide⟩ rfl (by decide) rfl rfl rfl (Nat.le_of_ble_eq_true rfl) (fun r521 E522 q523 => ?_)
              rw [(hper).n64] at q523
              have hv524 := hlo.2 m (by omega)
              rw [hv524.2.1] at q523
              obtain ⟨rfl, rfl⟩ := q523
              show WP g _ _ _ (.int (nI (sr_rb (D.1 64) m)) :: _) _ _
              refine wp_iload_n dX7_suit_117 rfl rfl ?_
              refine wp_callS (M2 := M_X7_has) (n := 2) (As := [.int (nI (sr_rb (D.1 64) m)), .int (nI y)]) (st := []) dX7_suit_118 (c_X7_has g E (sr_rb (D.1 64) m) y (by omega) (by omega)) ca_X7_116 ⟨nm_X7_has, by decide, by decide⟩ rfl rfl (Nat.le_of_ble_eq_true rfl) (fun r525 E526 q527 => ?_)
              obtain ⟨rfl, rfl⟩ := q527
              show WP g _ _ _ (.int (sr_b ((sr_rb (D.1 64) m).testBit y)) :: _) _ _
              refine wp_if_eq_b (tgt := 128) dX7_suit_121 (by decide) (fun c528 => ?_) (fun c528 => ?_)
              · have a4 := c528
                refine wp_iconst (v := nI 0) dX7_suit_128 rfl ?_
                refine wp_istore (lv' := [(0, .ref 63), (1, .int (nI x)), (2, .int (nI y)), (3, .int u), (4, .int (sr_b (md_kn (n + 1) (md_P (D.1 64) n r) (sr_l (fun _ => nI 0))))), (5, .long (md_sui n r (D.1 64) x y m)), (7, .int (nI m)), (8, .int (nI 0))]) dX7_suit_129 (by decide) rfl ?_
                refine wp_iload dX7_suit_131 rfl ?_
                refine wp_if_eq (tgt := 151) dX7_suit_133 (by decide) (fun _ => ?_) (fun c529 => absurd c529 (by decide))
                refine wp_iinc_n (b := 1) (lv' := [(0, .ref 63), (1, .int (nI x)), (2, .int (nI y)), (3, .int u), (4, .int (sr_b (md_kn (n + 1) (md_P (D.1 64) n r) (sr_l (fun _ => nI 0))))), (5, .long (md_sui n r (D.1 64) x y m)), (7, .int (nI (m + 1))), (8, .int (nI 0))]) dX7_suit_151 rfl rfl (by decide) rfl ?_
                refine wp_goto (tgt := 50) dX7_suit_154 (by decide) ?_
                have hsd : sr_side (D.1 64) m x y = nI 0 := by simp_all [sr_side]
                have h := ih (by omega) E (hper) hl hby
                rw [show md_sui n r (D.1 64) x y (m + 1) = md_sui n r (D.1 64) x y m + (sr_side (D.1 64) m x y).toInt64 * md_rest n (md_P (D.1 64) n r) (md_S1 (D.1 64) n r) (D.1 64) m from rfl, hsd] at h
                rw [show (nI 0 : Int32).toInt64 = 0 from rfl, Int64.zero_mul, Int64.add_zero] at h
                exact wp_pick [0, 1, 2, 3, 4, 5, 6] rfl h
              · have a4 := c528
                refine wp_iconst (v := -1) dX7_suit_124 rfl ?_
                refine wp_goto (tgt := 129) dX7_suit_125 (by decide) ?_
                refine wp_istore (lv' := [(0, .ref 63), (1, .int (nI x)), (2, .int (nI y)), (3, .int u), (4, .int (sr_b (md_kn (n + 1) (md_P (D.1 64) n r) (sr_l (fun _ => nI 0))))), (5, .long (md_sui n r (D.1 64) x y m)), (7, .int (nI m)), (8, .int ((-1)))]) dX7_suit_129 (by decide) rfl ?_
                refine wp_iload dX7_suit_131 rfl ?_
                refine wp_if_eq (tgt := 151) dX7_suit_133 (by decide) (fun c530 => absurd c530 (by decide)) (fun _ => ?_)
                refine wp_lload dX7_suit_136 rfl ?_
                refine wp_iload dX7_suit_138 rfl ?_
                refine wp_i2l dX7_suit_140 ?_
                refine wp_aload_n dX7_suit_141 rfl rfl ?_
                refine wp_iload dX7_suit_142 rfl ?_
                refine wp_callV (M2 := M_X7_restOf) (n := 1) (As := [.int (nI m)]) (st := [.long (((-1)).toInt64), .long (md_sui n r (D.1 64) x y m)]) dX7_suit_144 (c_X7_restOf g E n r (by rw [(hper).n64]; exact hlo) (md_P (D.1 64) n r) (md_S1 (D.1 64) n r) hl hgood m (by omega)) ca_X7_202 ⟨nm_X7_restOf, by decide, by decide⟩ rfl (by decide) rfl rfl rfl (Nat.le_of_ble_eq_true rfl) (fun r531 E532 q533 => ?_)
                rw [(hper).n64] at q533
                obtain ⟨rfl, kp534, la535, by536⟩ := q533
                show WP g _ _ _ (.long (md_rest n (md_P (D.1 64) n r) (md_S1 (D.1 64) n r) (D.1 64) m) :: _) _ _
                refine wp_lmul dX7_suit_147 ?_
                refine wp_ladd dX7_suit_148 ?_
                refine wp_topl (fun x537 ex537 => ?_)
                refine wp_lstore (lv' := [(0, .ref 63), (1, .int (nI x)), (2, .int (nI y)), (3, .int u), (4, .int (sr_b (md_kn (n + 1) (md_P (D.1 64) n r) (sr_l (fun _ => nI 0))))), (5, .long x537), (7, .int (nI m)), (8, .int ((-1)))]) dX7_suit_149 (by decide) rfl ?_
                refine wp_iinc_n (b := 1) (lv' := [(0, .ref 63), (1, .int (nI x)), (2, .int (nI y)), (3, .int u), (4, .int (sr_b (md_kn (n + 1) (md_P (D.1 64) n r) (sr_l (fun _ => nI 0))))), (5, .long x537), (7, .int (nI (m + 1))), (8, .int ((-1)))]) dX7_suit_151 rfl rfl (by decide) rfl ?_
                refine wp_goto (tgt := 50) dX7_suit_154 (by decide) ?_
                have hsd : sr_side (D.1 64) m x y = (-1) := by simp_all [sr_side]
                have h := ih (by omega) E532 ((hper).tr kp534.1) la535 by536
                rw [show md_sui n r (D.1 64) x y (m + 1) = md_sui n r (D.1 64) x y m + (sr_side (D.1 64) m x y).toInt64 * md_rest n (md_P (D.1 64) n r) (md_S1 (D.1 64) n r) (D.1 64) m from rfl, hsd] at h
                subst ex537
                exact wp_pick [0, 1, 2, 3, 4, 5, 6] rfl h
          · have a1 := c511
            refine wp_aload_n dX7_suit_78 rfl rfl ?_
            refine wp_iload dX7_suit_79 rfl ?_
            refine wp_iconst (v := nI 0) dX7_suit_81 rfl ?_
            refine wp_callV (M2 := M_X7_of) (n := 2) (As := [.int (nI m), .int (nI 0)]) (st := []) dX7_suit_82 (c_X7_of g E m 0 (by omega) (by omega) (by omega)) ca_X7_73 ⟨nm_X7_of, by decide, by decide⟩ rfl (by decide) rfl rfl rfl (Nat.le_of_ble_eq_true rfl) (fun r538 E539 q540 => ?_)
            rw [(hper).n64] at q540
            have hv541 := hlo.2 m (by omega)
            rw [show 3 + 4 * m + 0 = 3 + 4 * m from rfl, hv541.1] at q540
            obtain ⟨rfl, rfl⟩ := q540
            show WP g _ _ _ (.int (nI (sr_ra (D.1 64) m)) :: _) _ _
            refine wp_iload_n dX7_suit_85 rfl rfl ?_
            refine wp_callS (M2 := M_X7_has) (n := 2) (As := [.int (nI (sr_ra (D.1 64) m)), .int (nI y)]) (st := []) dX7_suit_86 (c_X7_has g E (sr_ra (D.1 64) m) y (by omega) (by omega)) ca_X7_116 ⟨nm_X7_has, by decide, by decide⟩ rfl rfl (Nat.le_of_ble_eq_true rfl) (fun r542 E543 q544 => ?_)
            obtain ⟨rfl, rfl⟩ := q544
            show WP g _ _ _ (.int (sr_b ((sr_ra (D.1 64) m).testBit y)) :: _) _ _
            refine wp_if_eq_b (tgt := 96) dX7_suit_89 (by decide) (fun c545 => ?_) (fun c545 => ?_)
            · have a2 := c545
              refine wp_aload_n dX7_suit_96 rfl rfl ?_
              refine wp_iload dX7_suit_97 rfl ?_
              refine wp_iconst (v := nI 1) dX7_suit_99 rfl ?_
              refine wp_callV (M2 := M_X7_of) (n := 2) (As := [.int (nI m), .int (nI 1)]) (st := []) dX7_suit_100 (c_X7_of g E m 1 (by omega) (by omega) (by omega)) ca_X7_73 ⟨nm_X7_of, by decide, by decide⟩ rfl (by decide) rfl rfl rfl (Nat.le_of_ble_eq_true rfl) (fun r546 E547 q548 => ?_)
              rw [(hper).n64] at q548
              have hv549 := hlo.2 m (by omega)
              rw [hv549.2.1] at q548
              obtain ⟨rfl, rfl⟩ := q548
              show WP g _ _ _ (.int (nI (sr_rb (D.1 64) m)) :: _) _ _
              refine wp_iload_n dX7_suit_103 rfl rfl ?_
              refine wp_callS (M2 := M_X7_has) (n := 2) (As := [.int (nI (sr_rb (D.1 64) m)), .int (nI x)]) (st := []) dX7_suit_104 (c_X7_has g E (sr_rb (D.1 64) m) x (by omega) (by omega)) ca_X7_116 ⟨nm_X7_has, by decide, by decide⟩ rfl rfl (Nat.le_of_ble_eq_true rfl) (fun r550 E551 q552 => ?_)
              obtain ⟨rfl, rfl⟩ := q552
              show WP g _ _ _ (.int (sr_b ((sr_rb (D.1 64) m).testBit x)) :: _) _ _
              refine wp_if_eq_b (tgt := 128) dX7_suit_107 (by decide) (fun c553 => ?_) (fun c553 => ?_)
              · have a3 := c553
                refine wp_iconst (v := nI 0) dX7_suit_128 rfl ?_
                refine wp_istore (lv' := [(0, .ref 63), (1, .int (nI x)), (2, .int (nI y)), (3, .int u), (4, .int (sr_b (md_kn (n + 1) (md_P (D.1 64) n r) (sr_l (fun _ => nI 0))))), (5, .long (md_sui n r (D.1 64) x y m)), (7, .int (nI m)), (8, .int (nI 0))]) dX7_suit_129 (by decide) rfl ?_
                refine wp_iload dX7_suit_131 rfl ?_
                refine wp_if_eq (tgt := 151) dX7_suit_133 (by decide) (fun _ => ?_) (fun c554 => absurd c554 (by decide))
                refine wp_iinc_n (b := 1) (lv' := [(0, .ref 63), (1, .int (nI x)), (2, .int (nI y)), (3, .int u), (4, .int (sr_b (md_kn (n + 1) (md_P (D.1 64) n r) (sr_l (fun _ => nI 0))))), (5, .long (md_sui n r (D.1 64) x y m)), (7, .int (nI (m + 1))), (8, .int (nI 0))]) dX7_suit_151 rfl rfl (by decide) rfl ?_
                refine wp_goto (tgt := 50) dX7_suit_154 (by decide) ?_
                have hsd : sr_side (D.1 64) m x y = nI 0 := by simp_all [sr_side]
                have h := ih (by omega) E (hper) hl hby
                rw [show md_sui n r (D.1 64) x y (m + 1) = md_sui n r (D.1 64) x y m + (sr_side (D.1 64) m x y).toInt64 * md_rest n (md_P (D.1 64) n r) (md_S1 (D.1 64) n r) (D.1 64) m from rfl, hsd] at h
                rw [show (nI 0 : Int32).toInt64 = 0 from rfl, Int64.zero_mul, Int64.add_zero] at h
                exact wp_pick [0, 1, 2, 3, 4, 5, 6] rfl h
              · have a3 := c553
                refine wp_aload_n dX7_suit_110 rfl rfl ?_
                refine wp_iload dX7_suit_111 rfl ?_
                refine wp_iconst (v := nI 1) dX7_suit_113 rfl ?_
                refine wp_callV (M2 := M_X7_of) (n := 2) (As := [.int (nI m), .int (nI 1)]) (st := []) dX7_suit_114 (c_X7_of g E m 1 (by omega) (by omega) (by omega)) ca_X7_73 ⟨nm_X7_of, by decide, by decide⟩ rfl (by decide) rfl rfl rfl (Nat.le_of_ble_eq_true rfl) (fun r555 E556 q557 => ?_)
                rw [(hper).n64] at q557
                have hv558 := hlo.2 m (by omega)
                rw [hv558.2.1] at q557
                obtain ⟨rfl, rfl⟩ := q557
                show WP g _ _ _ (.int (nI (sr_rb (D.1 64) m)) :: _) _ _
                refine wp_iload_n dX7_suit_117 rfl rfl ?_
                refine wp_callS (M2 := M_X7_has) (n := 2) (As := [.int (nI (sr_rb (D.1 64) m)), .int (nI y)]) (st := []) dX7_suit_118 (c_X7_has g E (sr_rb (D.1 64) m) y (by omega) (by omega)) ca_X7_116 ⟨nm_X7_has, by decide, by decide⟩ rfl rfl (Nat.le_of_ble_eq_true rfl) (fun r559 E560 q561 => ?_)
                obtain ⟨rfl, rfl⟩ := q561
                show WP g _ _ _ (.int (sr_b ((sr_rb (D.1 64) m).testBit y)) :: _) _ _
                refine wp_if_eq_b (tgt := 128) dX7_suit_121 (by decide) (fun c562 => ?_) (fun c562 => ?_)
                · have a4 := c562
                  refine wp_iconst (v := nI 0) dX7_suit_128 rfl ?_
                  refine wp_istore (lv' := [(0, .ref 63), (1, .int (nI x)), (2, .int (nI y)), (3, .int u), (4, .int (sr_b (md_kn (n + 1) (md_P (D.1 64) n r) (sr_l (fun _ => nI 0))))), (5, .long (md_sui n r (D.1 64) x y m)), (7, .int (nI m)), (8, .int (nI 0))]) dX7_suit_129 (by decide) rfl ?_
                  refine wp_iload dX7_suit_131 rfl ?_
                  refine wp_if_eq (tgt := 151) dX7_suit_133 (by decide) (fun _ => ?_) (fun c563 => absurd c563 (by decide))
                  refine wp_iinc_n (b := 1) (lv' := [(0, .ref 63), (1, .int (nI x)), (2, .int (nI y)), (3, .int u), (4, .int (sr_b (md_kn (n + 1) (md_P (D.1 64) n r) (sr_l (fun _ => nI 0))))), (5, .long (md_sui n r (D.1 64) x y m)), (7, .int (nI (m + 1))), (8, .int (nI 0))]) dX7_suit_151 rfl rfl (by decide) rfl ?_
                  refine wp_goto (tgt := 50) dX7_suit_154 (by decide) ?_
                  have hsd : sr_side (D.1 64) m x y = nI 0 := by simp_all [sr_side]
                  have h := ih (by omega) E (hper) hl hby
                  rw [show md_sui n r (D.1 64) x y (m + 1) = md_sui n r (D.1 64) x y m + (sr_side (D.1 64) m x y).toInt64 * md_rest n (md_P (D.1 64) n r) (md_S1 (D.1 64) n r) (D.1 64) m from rfl, hsd] at h
                  rw [show (nI 0 : Int32).toInt64 = 0 from rfl, Int64.zero_mul, Int64.add_zero] at h
                  exact wp_pick [0, 1, 2, 3, 4, 5, 6] rfl h
                · have a4 := c562
                  refine wp_iconst (v := -1) dX7_suit_124 rfl ?_
                  refine wp_goto (tgt := 129) dX7_suit_125 (by decide) ?_
                  refine wp_istore (lv' := [(0, .ref 63), (1, .int (nI x)), (2, .int (nI y)), (3, .int u), (4, .int (sr_b (md_kn (n + 1) (md_P (D.1 64) n r) (sr_l (fun _ => nI 0))))), (5, .long (md_sui n r (D.1 64) x y m)), (7, .int (nI m)), (8, .int ((-1)))]) dX7_suit_129 (by decide) rfl ?_
                  refine wp_iload dX7_suit_131 rfl ?_
                  refine wp_if_eq (tgt := 151) dX7_suit_133 (by decide) (fun c564 => absurd c564 (by decide)) (fun _ => ?_)
                  refine wp_lload dX7_suit_136 rfl ?_
                  refine wp_iload dX7_suit_138 rfl ?_
                  refine wp_i2l dX7_suit_140 ?_
                  refine wp_aload_n dX7_suit_141 rfl rfl ?_
                  refine wp_iload dX7_suit_142 rfl ?_
                  refine wp_callV (M2 := M_X7_restOf) (n := 1) (As := [.int (nI m)]) (st := [.long (((-1)).toInt64), .long (md_sui n r (D.1 64) x y m)]) dX7_suit_144 (c_X7_restOf g E n r (by rw [(hper).n64]; exact hlo) (md_P (D.1 64) n r) (md_S1 (D.1 64) n r) hl hgood m (by omega)) ca_X7_202 ⟨nm_X7_restOf, by decide, by decide⟩ rfl (by decide) rfl rfl rfl (Nat.le_of_ble_eq_true rfl) (fun r565 E566 q567 => ?_)
                  rw [(hper).n64] at q567
                  obtain ⟨rfl, kp568, la569, by570⟩ := q567
                  show WP g _ _ _ (.long (md_rest n (md_P (D.1 64) n r) (md_S1 (D.1 64) n r) (D.1 64) m) :: _) _ _
                  refine wp_lmul dX7_suit_147 ?_
                  refine wp_ladd dX7_suit_148 ?_
                  refine wp_topl (fun x571 ex571 => ?_)
                  refine wp_lstore (lv' := [(0, .ref 63), (1, .int (nI x)), (2, .int (nI y)), (3, .int u), (4, .int (sr_b (md_kn (n + 1) (md_P (D.1 64) n r) (sr_l (fun _ => nI 0))))), (5, .long x571), (7, .int (nI m)), (8, .int ((-1)))]) dX7_suit_149 (by decide) rfl ?_
                  refine wp_iinc_n (b := 1) (lv' := [(0, .ref 63), (1, .int (nI x)), (2, .int (nI y)), (3, .int u), (4, .int (sr_b (md_kn (n + 1) (md_P (D.1 64) n r) (sr_l (fun _ => nI 0))))), (5, .long x571), (7, .int (nI (m + 1))), (8, .int ((-1)))]) dX7_suit_151 rfl rfl (by decide) rfl ?_
                  refine wp_goto (tgt := 50) dX7_suit_154 (by decide) ?_
                  have hsd : sr_side (D.1 64) m x y = (-1) := by simp_all [sr_side]
                  have h := ih (by omega) E566 ((hper).tr kp568.1) la569 by570
                  rw [show md_sui n r (D.1 64) x y (m + 1) = md_sui n r (D.1 64) x y m + (sr_side (D.1 64) m x y).toInt64 * md_rest n (md_P (D.1 64) n r) (md_S1 (D.1 64) n r) (D.1 64) m from rfl, hsd] at h
                  subst ex571
                  exact wp_pick [0, 1, 2, 3, 4, 5, 6] rfl h
            · have a2 := c545
              refine wp_iconst (v := nI 1) dX7_suit_92 rfl ?_
              refine wp_goto (tgt := 129) dX7_suit_93 (by decide) ?_
              refine wp_istore (lv' := [(0, .ref 63), (1, .int (nI x)), (2, .int (nI y)), (3, .int u), (4, .int (sr_b (md_kn (n + 1) (md_P (D.1 64) n r) (sr_l (fun _ => nI 0))))), (5, .long (md_sui n r (D.1 64) x y m)), (7, .int (nI m)), (8, .int (nI 1))]) dX7_suit_129 (by decide) rfl ?_
              refine wp_iload dX7_suit_131 rfl ?_
              refine wp_if_eq (tgt := 151) dX7_suit_133 (by decide) (fun c572 => absurd c572 (by decide)) (fun _ => ?_)
              refine wp_lload dX7_suit_136 rfl ?_
              refine wp_iload dX7_suit_138 rfl ?_
              refine wp_i2l dX7_suit_140 ?_
              refine wp_aload_n dX7_suit_141 rfl rfl ?_
              refine wp_iload dX7_suit_142 rfl ?_
              refine wp_callV (M2 := M_X7_restOf) (n := 1) (As := [.int (nI m)]) (st := [.long ((nI 1).toInt64), .long (md_sui n r (D.1 64) x y m)]) dX7_suit_144 (c_X7_restOf g E n r (by rw [(hper).n64]; exact hlo) (md_P (D.1 64) n r) (md_S1 (D.1 64) n r) hl hgood m (by omega)) ca_X7_202 ⟨nm_X7_restOf, by decide, by decide⟩ rfl (by decide) rfl rfl rfl (Nat.le_of_ble_eq_true rfl) (fun r573 E574 q575 => ?_)
              rw [(hper).n64] at q575
              obtain ⟨rfl, kp576, la577, by578⟩ := q575
              show WP g _ _ _ (.long (md_rest n (md_P (D.1 64) n r) (md_S1 (D.1 64) n r) (D.1 64) m) :: _) _ _
              refine wp_lmul dX7_suit_147 ?_
              refine wp_ladd dX7_suit_148 ?_
              refine wp_topl (fun x579 ex579 => ?_)
              refine wp_lstore (lv' := [(0, .ref 63), (1, .int (nI x)), (2, .int (nI y)), (3, .int u), (4, .int (sr_b (md_kn (n + 1) (md_P (D.1 64) n r) (sr_l (fun _ => nI 0))))), (5, .long x579), (7, .int (nI m)), (8, .int (nI 1))]) dX7_suit_149 (by decide) rfl ?_
              refine wp_iinc_n (b := 1) (lv' := [(0, .ref 63), (1, .int (nI x)), (2, .int (nI y)), (3, .int u), (4, .int (sr_b (md_kn (n + 1) (md_P (D.1 64) n r) (sr_l (fun _ => nI 0))))), (5, .long x579), (7, .int (nI (m + 1))), (8, .int (nI 1))]) dX7_suit_151 rfl rfl (by decide) rfl ?_
              refine wp_goto (tgt := 50) dX7_suit_154 (by decide) ?_
              have hsd : sr_side (D.1 64) m x y = nI 1 := by simp_all [sr_side]
              have h := ih (by omega) E574 ((hper).tr kp576.1) la577 by578
              rw [show md_sui n r (D.1 64) x y (m + 1) = md_sui n r (D.1 64) x y m + (sr_side (D.1 64) m x y).toInt64 * md_rest n (md_P (D.1 64) n r) (md_S1 (D.1 64) n r) (D.1 64) m from rfl, hsd] at h
              subst ex579
              exact wp_pick [0, 1, 2, 3, 4, 5, 6] rfl h
    refine wp_aload_n dX7_suit_0 rfl rfl ?_
    refine wp_iconst (v := nI 0) dX7_suit_1 rfl ?_
    refine wp_putI dX7_suit_2 fl_X7_43 (by decide) rfl rfl ?_
    refine wp_D (fun D580 eD580 => ?_)
    have p581 : sr_per D D580 := by rw [eD580]; exact sr_per_th
    refine wp_aload_n dX7_suit_5 rfl rfl ?_
    refine wp_iload_n dX7_suit_6 rfl rfl ?_
    refine wp_callV (M2 := M_X7_isRower) (n := 1) (As := [.int (nI x)]) (st := []) dX7_suit_7 (c_X7_isRower g D580 (nI x)) ca_X7_113 ⟨nm_X7_isRower, by decide, by decide⟩ rfl (by decide) rfl rfl rfl (Nat.le_of_ble_eq_true rfl) (fun r582 E583 q584 => ?_)
    rw [congrFun (((sr_per.rf).tr p581).n64) 0, hn] at q584
    obtain ⟨rfl, rfl⟩ := q584
    show WP g _ _ _ (.int (sr_b (sr_isIn (nI x) (nI 0) (nI n - nI 1))) :: _) _ _
    refine wp_if_eq_b (tgt := 26) dX7_suit_10 (by decide) (fun c585 => ?_) (fun c585 => ?_)
    · exact absurd h1 (by unfold sr_row; rw [c585]; decide)
    · refine wp_aload_n dX7_suit_13 rfl rfl ?_
      refine wp_iload_n dX7_suit_14 rfl rfl ?_
      refine wp_callV (M2 := M_X7_isRower) (n := 1) (As := [.int (nI y)]) (st := []) dX7_suit_15 (c_X7_isRower g D580 (nI y)) ca_X7_113 ⟨nm_X7_isRower, by decide, by decide⟩ rfl (by decide) rfl rfl rfl (Nat.le_of_ble_eq_true rfl) (fun r586 E587 q588 => ?_)
      rw [congrFun (((sr_per.rf).tr p581).n64) 0, hn] at q588
      obtain ⟨rfl, rfl⟩ := q588
      show WP g _ _ _ (.int (sr_b (sr_isIn (nI y) (nI 0) (nI n - nI 1))) :: _) _ _
      refine wp_if_eq_b (tgt := 26) dX7_suit_18 (by decide) (fun c589 => ?_) (fun c589 => ?_)
      · exact absurd h2 (by unfold sr_row; rw [c589]; decide)
      · refine wp_iload_n dX7_suit_21 rfl rfl ?_
        refine wp_iload_n dX7_suit_22 rfl rfl ?_
        refine wp_icmp_ne_n (tgt := 30) dX7_suit_23 (by decide) (by first | omega | (split <;> omega)) (by first | omega | (split <;> omega)) (fun c590 => ?_) (fun c590 => ?_)
        · refine wp_aload_n dX7_suit_30 rfl rfl ?_
          refine wp_callV (M2 := M_X7_lays) (n := 0) (As := []) (st := []) dX7_suit_31 (c_X7_lays g D580 n r (by rw [((sr_per.rf).tr p581).n64]; exact hlo)) ca_X7_183 ⟨nm_X7_lays, by decide, by decide⟩ rfl (by decide) rfl rfl rfl (Nat.le_of_ble_eq_true rfl) (fun r591 E592 q593 => ?_)
          rw [((sr_per.rf).tr p581).n64] at q593
          obtain ⟨rfl, p594, la595, h65596, h63597, g63598⟩ := q593
          show WP g _ _ _ _ _ _
          refine wp_aload_n dX7_suit_34 rfl rfl ?_
          refine wp_callV (M2 := M_X7_clearsForm) (n := 0) (As := []) (st := []) dX7_suit_35 (c_clr g E592) ca_X7_143 ⟨nm_X7_clearsForm, by decide, by decide⟩ rfl (by decide) rfl rfl rfl (Nat.le_of_ble_eq_true rfl) (fun r599 E600 q601 => ?_)
          obtain ⟨rfl, p602, l603, f604, g605, o606⟩ := q601
          show WP g _ _ _ _ _ _
          have la607 := l603 _ _ _ la595
          refine wp_aload_n dX7_suit_38 rfl rfl ?_
          refine wp_callV (M2 := M_X7_isKnown) (n := 0) (As := []) (st := []) dX7_suit_39 (c_kn g E600 (n + 1) (md_P (D.1 64) n r) (md_S1 (D.1 64) n r) (fun _ => nI 0) (by omega) la607 f604 hgood) ca_X7_189 ⟨nm_X7_isKnown, by decide, by decide⟩ rfl (by decide) rfl rfl rfl (Nat.le_of_ble_eq_true rfl) (fun r608 E609 q610 => ?_)
          obtain ⟨rfl, aft620⟩ := q610
          obtain ⟨p611, la612, f613, x614, y615, z616, rk617, by618, sv619⟩ := id aft620
          have hf621 : ∀ z9, z9 < 7 → E609.1 67 z9 = (fun _ => nI 0) z9 := fun z9 hz9 => by rw [f613]; exact f604 z9 hz9
          show WP g _ _ _ (.int (sr_b (md_kn (n + 1) (md_P (D.1 64) n r) (sr_l (fun _ => nI 0)))) :: _) _ _
          refine wp_istore (lv' := [(0, .ref 63), (1, .int (nI x)), (2, .int (nI y)), (3, .int u), (4, .int (sr_b (md_kn (n + 1) (md_P (D.1 64) n r) (sr_l (fun _ => nI 0)))))]) dX7_suit_42 (by decide) rfl ?_
          refine wp_lconst (v := 0) dX7_suit_44 rfl ?_
          refine wp_lstore (lv' := [(0, .ref 63), (1, .int (nI x)), (2, .int (nI y)), (3, .int u), (4, .int (sr_b (md_kn (n + 1) (md_P (D.1 64) n r) (sr_l (fun _ => nI 0))))), (5, .long 0)]) dX7_suit_45 (by decide) rfl ?_
          refine wp_iconst (v := nI 0) dX7_suit_47 rfl ?_
          refine wp_istore (lv' := [(0, .ref 63), (1, .int (nI x)), (2, .int (nI y)), (3, .int u), (4, .int (sr_b (md_kn (n + 1) (md_P (D.1 64) n r) (sr_l (fun _ => nI 0))))), (5, .long 0), (7, .int (nI 0))]) dX7_suit_48 (by decide) rfl ?_
          exact hL 0 (by omega) E609 (((((sr_per.rf).tr p581).tr p594).tr p602).tr p611) la612 (by618.trans (md_by_b (by omega)).1)
        · exact absurd c590 hxy
  · refine wp_aload_n dX7_suit_0 rfl rfl ?_
    refine wp_iconst (v := nI 0) dX7_suit_1 rfl ?_
    refine wp_putI dX7_suit_2 fl_X7_43 (by decide) rfl rfl ?_
    refine wp_D (fun D622 eD622 => ?_)
    have p623 : sr_per D D622 := by rw [eD622]; exact sr_per_th
    refine wp_aload_n dX7_suit_5 rfl rfl ?_
    refine wp_iload_n dX7_suit_6 rfl rfl ?_
    refine wp_callV (M2 := M_X7_isRower) (n := 1) (As := [.int v]) (st := []) dX7_suit_7 (c_X7_isRower g D622 v) ca_X7_113 ⟨nm_X7_isRower, by decide, by decide⟩ rfl (by decide) rfl rfl rfl (Nat.le_of_ble_eq_true rfl) (fun r624 E625 q626 => ?_)
    rw [congrFun (((sr_per.rf).tr p623).n64) 0, hn] at q626
    obtain ⟨rfl, rfl⟩ := q626
    show WP g _ _ _ (.int (sr_b (sr_isIn v (nI 0) (nI n - nI 1))) :: _) _ _
    refine wp_if_eq_b (tgt := 26) dX7_suit_10 (by decide) (fun c627 => ?_) (fun c627 => ?_)
    · refine wp_ldc2 (v := -1000000000000000000) dX7_suit_26 ct_X7_181 ?_
      refine wp_lret dX7_suit_29 rfl ⟨?_, (sr_per.rf).tr p623⟩
      rw [if_neg hok]
    · have h1 := c627
      refine wp_aload_n dX7_suit_13 rfl rfl ?_
      refine wp_iload_n dX7_suit_14 rfl rfl ?_
      refine wp_callV (M2 := M_X7_isRower) (n := 1) (As := [.int w]) (st := []) dX7_suit_15 (c_X7_isRower g D622 w) ca_X7_113 ⟨nm_X7_isRower, by decide, by decide⟩ rfl (by decide) rfl rfl rfl (Nat.le_of_ble_eq_true rfl) (fun r628 E629 q630 => ?_)
      rw [congrFun (((sr_per.rf).tr p623).n64) 0, hn] at q630
      obtain ⟨rfl, rfl⟩ := q630
      show WP g _ _ _ (.int (sr_b (sr_isIn w (nI 0) (nI n - nI 1))) :: _) _ _
      refine wp_if_eq_b (tgt := 26) dX7_suit_18 (by decide) (fun c631 => ?_) (fun c631 => ?_)
      · refine wp_ldc2 (v := -1000000000000000000) dX7_suit_26 ct_X7_181 ?_
        refine wp_lret dX7_suit_29 rfl ⟨?_, (sr_per.rf).tr p623⟩
        rw [if_neg hok]
      · have h2 := c631
        refine wp_iload_n dX7_suit_21 rfl rfl ?_
        refine wp_iload_n dX7_suit_22 rfl rfl ?_
        refine wp_icmp_ne (tgt := 30) dX7_suit_23 (by decide) (fun c632 => ?_) (fun c632 => ?_)
        · exact absurd (by unfold sr_row; rw [h1, h2]; simp [c632]) hok
        · refine wp_ldc2 (v := -1000000000000000000) dX7_suit_26 ct_X7_181 ?_
          refine wp_lret dX7_suit_29 rfl ⟨?_, (sr_per.rf).tr p623⟩
          rw [if_neg hok]
/-- is race q with i in A, race t the same with j there -/
def sr_swp (now : Nat → Int32) (q t i j : Nat) : Bool := (sr_ra now q).testBit i && ((sr_rb now q).testBit j && ((sr_ra now t).testBit j && ((sr_rb now t).testBit i && (decide (now (3 + 4 * q + 3) = now (3 + 4 * t + 3)) && (decide (sr_ra now q - 1 * 2 ^ i = sr_ra now t - 1 * 2 ^ j) && decide (sr_rb now q - 1 * 2 ^ j = sr_rb now t - 1 * 2 ^ i))))))
theorem sr_tb_le {w i : Nat} (h : w.testBit i = true) : 1 * 2 ^ i ≤ w := by rw [Nat.one_mul]; exact Nat.ge_two_pow_of_testBit h
set_option maxHeartbeats 4000000 in
set_option maxRecDepth 100000 in
theorem c_X7_isSwap (g : sr_G) (D : sr_St) (n r : Nat) (hlo : sr_logOk (D.1 64) n r) (q t i j : Nat) (hq : q < r) (ht : t < r) (hi : i < n) (hj : j < n) : Con g M_X7_isSwap [.ref 63, .int (nI q), .int (nI t), .int (nI i), .int (nI j)] D (sr_ret (some (.int (sr_b (sr_swp (D.1 64) q t i j)))) D) := by
  refine Con.of pn_X7_isSwap (Nat.le_of_ble_eq_true rfl) ?_
  have hn := hlo.1.1
  have hn6 := hlo.1.2.1
  have hr := hlo.1.2.2.1
  have hr12 := hlo.1.2.2.2
  have l1 := sr_crewN_lt hn6 (hlo.2 q hq).2.2.1
  have l2 := sr_crewN_lt hn6 (hlo.2 t ht).2.2.1
  refine wp_aload_n dX7_isSwap_0 rfl rfl ?_
  refine wp_iload_n dX7_isSwap_1 rfl rfl ?_
  refine wp_iconst (v := nI 0) dX7_isSwap_2 rfl ?_
  refine wp_callV (M2 := M_X7_of) (n := 2) (As := [.int (nI q), .int (nI 0)]) (st := []) dX7_isSwap_3 (c_X7_of g D q 0 (by omega) (by omega) (by omega)) ca_X7_73 ⟨nm_X7_of, by decide, by decide⟩ rfl (by decide) rfl rfl rfl (Nat.le_of_ble_eq_true rfl) (fun r633 E634 q635 => ?_)
  rw [(sr_per.rf).n64] at q635
  have hv636 := hlo.2 q (by omega)
  rw [show 3 + 4 * q + 0 = 3 + 4 * q from rfl, hv636.1] at q635
  obtain ⟨rfl, rfl⟩ := q635
  show WP g _ _ _ (.int (nI (sr_ra (D.1 64) q)) :: _) _ _
  refine wp_iload_n dX7_isSwap_6 rfl rfl ?_
  refine wp_callS (M2 := M_X7_has) (n := 2) (As := [.int (nI (sr_ra (D.1 64) q)), .int (nI i)]) (st := []) dX7_isSwap_7 (c_X7_has g D (sr_ra (D.1 64) q) i (by omega) (by omega)) ca_X7_116 ⟨nm_X7_has, by decide, by decide⟩ rfl rfl (Nat.le_of_ble_eq_true rfl) (fun r637 E638 q639 => ?_)
  obtain ⟨rfl, rfl⟩ := q639
  show WP g _ _ _ (.int (sr_b ((sr_ra (D.1 64) q).testBit i)) :: _) _ _
  refine wp_if_eq_b (tgt := 121) dX7_isSwap_10 (by decide) (fun c640 => ?_) (fun c640 => ?_)
  · have b1 := c640
    refine wp_iconst (v := nI 0) dX7_isSwap_121 rfl ?_
    exact wp_zret dX7_isSwap_122 rfl (Or.inl rfl) ⟨sr_bf (by simp_all [sr_swp]), rfl⟩
  · have b1 := c640
    refine wp_aload_n dX7_isSwap_13 rfl rfl ?_
    refine wp_iload_n dX7_isSwap_14 rfl rfl ?_
    refine wp_iconst (v := nI 1) dX7_isSwap_15 rfl ?_
    refine wp_callV (M2 := M_X7_of) (n := 2) (As := [.int (nI q), .int (nI 1)]) (st := []) dX7_isSwap_16 (c_X7_of g D q 1 (by omega) (by omega) (by omega)) ca_X7_73 ⟨nm_X7_of, by decide, by decide⟩ rfl (by decide) rfl rfl rfl (Nat.le_of_ble_eq_true rfl) (fun r641 E642 q643 => ?_)
    rw [(sr_per.rf).n64] at q643
    have hv644 := hlo.2 q (by omega)
    rw [hv644.2.1] at q643
    obtain ⟨rfl, rfl⟩ := q643
    show WP g _ _ _ (.int (nI (sr_rb (D.1 64) q)) :: _) _ _
    refine wp_iload dX7_isSwap_19 rfl ?_
    refine wp_callS (M2 := M_X7_has) (n := 2) (As := [.int (nI (sr_rb (D.1 64) q)), .int (nI j)]) (st := []) dX7_isSwap_21 (c_X7_has g D (sr_rb (D.1 64) q) j (by omega) (by omega)) ca_X7_116 ⟨nm_X7_has, by decide, by decide⟩ rfl rfl (Nat.le_of_ble_eq_true rfl) (fun r645 E646 q647 => ?_)
    obtain ⟨rfl, rfl⟩ := q647
    show WP g _ _ _ (.int (sr_b ((sr_rb (D.1 64) q).testBit j)) :: _) _ _
    refine wp_if_eq_b (tgt := 121) dX7_isSwap_24 (by decide) (fun c648 => ?_) (fun c648 => ?_)
    · have b2 := c648
      refine wp_iconst (v := nI 0) dX7_isSwap_121 rfl ?_
      exact wp_zret dX7_isSwap_122 rfl (Or.inl rfl) ⟨sr_bf (by simp_all [sr_swp]), rfl⟩
    · have b2 := c648
      refine wp_aload_n dX7_isSwap_27 rfl rfl ?_
      refine wp_iload_n dX7_isSwap_28 rfl rfl ?_
      refine wp_iconst (v := nI 0) dX7_isSwap_29 rfl ?_
      refine wp_callV (M2 := M_X7_of) (n := 2) (As := [.int (nI t), .int (nI 0)]) (st := []) dX7_isSwap_30 (c_X7_of g D t 0 (by omega) (by omega) (by omega)) ca_X7_73 ⟨nm_X7_of, by decide, by decide⟩ rfl (by decide) rfl rfl rfl (Nat.le_of_ble_eq_true rfl) (fun r649 E650 q651 => ?_)
      rw [(sr_per.rf).n64] at q651
      have hv652 := hlo.2 t (by omega)
      rw [show 3 + 4 * t + 0 = 3 + 4 * t from rfl, hv652.1] at q651
      obtain ⟨rfl, rfl⟩ := q651
      show WP g _ _ _ (.int (nI (sr_ra (D.1 64) t)) :: _) _ _
      refine wp_iload dX7_isSwap_33 rfl ?_
      refine wp_callS (M2 := M_X7_has) (n := 2) (As := [.int (nI (sr_ra (D.1 64) t)), .int (nI j)]) (st := []) dX7_isSwap_35 (c_X7_has g D (sr_ra (D.1 64) t) j (by omega) (by omega)) ca_X7_116 ⟨nm_X7_has, by decide, by decide⟩ rfl rfl (Nat.le_of_ble_eq_true rfl) (fun r653 E654 q655 => ?_)
      obtain ⟨rfl, rfl⟩ := q655
      show WP g _ _ _ (.int (sr_b ((sr_ra (D.1 64) t).testBit j)) :: _) _ _
      refine wp_if_eq_b (tgt := 121) dX7_isSwap_38 (by decide) (fun c656 => ?_) (fun c656 => ?_)
      · have b3 := c656
        refine wp_iconst (v := nI 0) dX7_isSwap_121 rfl ?_
        exact wp_zret dX7_isSwap_122 rfl (Or.inl rfl) ⟨sr_bf (by simp_all [sr_swp]), rfl⟩
      · have b3 := c656
        refine wp_aload_n dX7_isSwap_41 rfl rfl ?_
        refine wp_iload_n dX7_isSwap_42 rfl rfl ?_
        refine wp_iconst (v := nI 1) dX7_isSwap_43 rfl ?_
        refine wp_callV (M2 := M_X7_of) (n := 2) (As := [.int (nI t), .int (nI 1)]) (st := []) dX7_isSwap_44 (c_X7_of g D t 1 (by omega) (by omega) (by omega)) ca_X7_73 ⟨nm_X7_of, by decide, by decide⟩ rfl (by decide) rfl rfl rfl (Nat.le_of_ble_eq_true rfl) (fun r657 E658 q659 => ?_)
        rw [(sr_per.rf).n64] at q659
        have hv660 := hlo.2 t (by omega)
        rw [hv660.2.1] at q659
        obtain ⟨rfl, rfl⟩ := q659
        show WP g _ _ _ (.int (nI (sr_rb (D.1 64) t)) :: _) _ _
        refine wp_iload_n dX7_isSwap_47 rfl rfl ?_
        refine wp_callS (M2 := M_X7_has) (n := 2) (As := [.int (nI (sr_rb (D.1 64) t)), .int (nI i)]) (st := []) dX7_isSwap_48 (c_X7_has g D (sr_rb (D.1 64) t) i (by omega) (by omega)) ca_X7_116 ⟨nm_X7_has, by decide, by decide⟩ rfl rfl (Nat.le_of_ble_eq_true rfl) (fun r661 E662 q663 => ?_)
        obtain ⟨rfl, rfl⟩ := q663
        show WP g _ _ _ (.int (sr_b ((sr_rb (D.1 64) t).testBit i)) :: _) _ _
        refine wp_if_eq_b (tgt := 121) dX7_isSwap_51 (by decide) (fun c664 => ?_) (fun c664 => ?_)
        · have b4 := c664
          refine wp_iconst (v := nI 0) dX7_isSwap_121 rfl ?_
          exact wp_zret dX7_isSwap_122 rfl (Or.inl rfl) ⟨sr_bf (by simp_all [sr_swp]), rfl⟩
        · have b4 := c664
          refine wp_aload_n dX7_isSwap_54 rfl rfl ?_
          refine wp_iload_n dX7_isSwap_55 rfl rfl ?_
          refine wp_iconst (v := nI 3) dX7_isSwap_56 rfl ?_
          refine wp_callV (M2 := M_X7_of) (n := 2) (As := [.int (nI q), .int (nI 3)]) (st := []) dX7_isSwap_57 (c_X7_of g D q 3 (by omega) (by omega) (by omega)) ca_X7_73 ⟨nm_X7_of, by decide, by decide⟩ rfl (by decide) rfl rfl rfl (Nat.le_of_ble_eq_true rfl) (fun r665 E666 q667 => ?_)
          rw [(sr_per.rf).n64] at q667
          obtain ⟨rfl, rfl⟩ := q667
          show WP g _ _ _ (.int (D.1 64 (3 + 4 * q + 3)) :: _) _ _
          refine wp_aload_n dX7_isSwap_60 rfl rfl ?_
          refine wp_iload_n dX7_isSwap_61 rfl rfl ?_
          refine wp_iconst (v := nI 3) dX7_isSwap_62 rfl ?_
          refine wp_callV (M2 := M_X7_of) (n := 2) (As := [.int (nI t), .int (nI 3)]) (st := [.int (D.1 64 (3 + 4 * q + 3))]) dX7_isSwap_63 (c_X7_of g D t 3 (by omega) (by omega) (by omega)) ca_X7_73 ⟨nm_X7_of, by decide, by decide⟩ rfl (by decide) rfl rfl rfl (Nat.le_of_ble_eq_true rfl) (fun r668 E669 q670 => ?_)
          rw [(sr_per.rf).n64] at q670
          obtain ⟨rfl, rfl⟩ := q670
          show WP g _ _ _ (.int (D.1 64 (3 + 4 * t + 3)) :: _) _ _
          refine wp_icmp_ne (tgt := 121) dX7_isSwap_66 (by decide) (fun c671 => ?_) (fun c671 => ?_)
          · have b5 := c671
            refine wp_iconst (v := nI 0) dX7_isSwap_121 rfl ?_
            exact wp_zret dX7_isSwap_122 rfl (Or.inl rfl) ⟨sr_bf (by simp_all [sr_swp]), rfl⟩
          · have b5 := c671
            refine wp_aload_n dX7_isSwap_69 rfl rfl ?_
            refine wp_iload_n dX7_isSwap_70 rfl rfl ?_
            refine wp_iconst (v := nI 0) dX7_isSwap_71 rfl ?_
            refine wp_callV (M2 := M_X7_of) (n := 2) (As := [.int (nI q), .int (nI 0)]) (st := []) dX7_isSwap_72 (c_X7_of g D q 0 (by omega) (by omega) (by omega)) ca_X7_73 ⟨nm_X7_of, by decide, by decide⟩ rfl (by decide) rfl rfl rfl (Nat.le_of_ble_eq_true rfl) (fun r672 E673 q674 => ?_)
            rw [(sr_per.rf).n64] at q674
            have hv675 := hlo.2 q (by omega)
            rw [show 3 + 4 * q + 0 = 3 + 4 * q from rfl, hv675.1] at q674
            obtain ⟨rfl, rfl⟩ := q674
            show WP g _ _ _ (.int (nI (sr_ra (D.1 64) q)) :: _) _ _
            refine wp_iconst (v := nI 1) dX7_isSwap_75 rfl ?_
            refine wp_iload_n dX7_isSwap_76 rfl rfl ?_
            refine wp_ishl_n dX7_isSwap_77 (by omega) (sr_pw1 (by omega)) ?_
            refine wp_isub_n dX7_isSwap_78 (sr_tb_le b1) ?_
            refine wp_aload_n dX7_isSwap_79 rfl rfl ?_
            refine wp_iload_n dX7_isSwap_80 rfl rfl ?_
            refine wp_iconst (v := nI 0) dX7_isSwap_81 rfl ?_
            refine wp_callV (M2 := M_X7_of) (n := 2) (As := [.int (nI t), .int (nI 0)]) (st := [.int (nI ((sr_ra (D.1 64) q) - (1 * 2 ^ i)))]) dX7_isSwap_82 (c_X7_of g D t 0 (by omega) (by omega) (by omega)) ca_X7_73 ⟨nm_X7_of, by decide, by decide⟩ rfl (by decide) rfl rfl rfl (Nat.le_of_ble_eq_true rfl) (fun r676 E677 q678 => ?_)
            rw [(sr_per.rf).n64] at q678
            have hv679 := hlo.2 t (by omega)
            rw [show 3 + 4 * t + 0 = 3 + 4 * t from rfl, hv679.1] at q678
            obtain ⟨rfl, rfl⟩ := q678
            show WP g _ _ _ (.int (nI (sr_ra (D.1 64) t)) :: _) _ _
            refine wp_iconst (v := nI 1) dX7_isSwap_85 rfl ?_
            refine wp_iload dX7_isSwap_86 rfl ?_
            refine wp_ishl_n dX7_isSwap_88 (by omega) (sr_pw1 (by omega)) ?_
            refine wp_isub_n dX7_isSwap_89 (sr_tb_le b3) ?_
            refine wp_icmp_ne_n (tgt := 121) dX7_isSwap_90 (by decide) (by first | omega | (split <;> omega)) (by first | omega | (split <;> omega)) (fun c680 => ?_) (fun c680 => ?_)
            · have b6 := c680
              refine wp_iconst (v := nI 0) dX7_isSwap_121 rfl ?_
              exact wp_zret dX7_isSwap_122 rfl (Or.inl rfl) ⟨sr_bf (by simp_all [sr_swp]), rfl⟩
            · have b6 := c680
              refine wp_aload_n dX7_isSwap_93 rfl rfl ?_
              refine wp_iload_n dX7_isSwap_94 rfl rfl ?_
              refine wp_iconst (v := nI 1) dX7_isSwap_95 rfl ?_
              refine wp_callV (M2 := M_X7_of) (n := 2) (As := [.int (nI q), .int (nI 1)]) (st := []) dX7_isSwap_96 (c_X7_of g D q 1 (by omega) (by omega) (by omega)) ca_X7_73 ⟨nm_X7_of, by decide, by decide⟩ rfl (by decide) rfl rfl rfl (Nat.le_of_ble_eq_true rfl) (fun r681 E682 q683 => ?_)
              rw [(sr_per.rf).n64] at q683
              have hv684 := hlo.2 q (by omega)
              rw [hv684.2.1] at q683
              obtain ⟨rfl, rfl⟩ := q683
              show WP g _ _ _ (.int (nI (sr_rb (D.1 64) q)) :: _) _ _
              refine wp_iconst (v := nI 1) dX7_isSwap_99 rfl ?_
              refine wp_iload dX7_isSwap_100 rfl ?_
              refine wp_ishl_n dX7_isSwap_102 (by omega) (sr_pw1 (by omega)) ?_
              refine wp_isub_n dX7_isSwap_103 (sr_tb_le b2) ?_
              refine wp_aload_n dX7_isSwap_104 rfl rfl ?_
              refine wp_iload_n dX7_isSwap_105 rfl rfl ?_
              refine wp_iconst (v := nI 1) dX7_isSwap_106 rfl ?_
              refine wp_callV (M2 := M_X7_of) (n := 2) (As := [.int (nI t), .int (nI 1)]) (st := [.int (nI ((sr_rb (D.1 64) q) - (1 * 2 ^ j)))]) dX7_isSwap_107 (c_X7_of g D t 1 (by omega) (by omega) (by omega)) ca_X7_73 ⟨nm_X7_of, by decide, by decide⟩ rfl (by decide) rfl rfl rfl (Nat.le_of_ble_eq_true rfl) (fun r685 E686 q687 => ?_)
              rw [(sr_per.rf).n64] at q687
              have hv688 := hlo.2 t (by omega)
              rw [hv688.2.1] at q687
              obtain ⟨rfl, rfl⟩ := q687
              show WP g _ _ _ (.int (nI (sr_rb (D.1 64) t)) :: _) _ _
              refine wp_iconst (v := nI 1) dX7_isSwap_110 rfl ?_
              refine wp_iload_n dX7_isSwap_111 rfl rfl ?_
              refine wp_ishl_n dX7_isSwap_112 (by omega) (sr_pw1 (by omega)) ?_
              refine wp_isub_n dX7_isSwap_113 (sr_tb_le b4) ?_
              refine wp_icmp_ne_n (tgt := 121) dX7_isSwap_114 (by decide) (by first | omega | (split <;> omega)) (by first | omega | (split <;> omega)) (fun c689 => ?_) (fun c689 => ?_)
              · have b7 := c689
                refine wp_iconst (v := nI 0) dX7_isSwap_121 rfl ?_
                exact wp_zret dX7_isSwap_122 rfl (Or.inl rfl) ⟨sr_bf (by simp_all [sr_swp]), rfl⟩
              · have b7 := c689
                refine wp_iconst (v := nI 1) dX7_isSwap_117 rfl ?_
                refine wp_goto (tgt := 122) dX7_isSwap_118 (by decide) ?_
                exact wp_zret dX7_isSwap_122 rfl (Or.inr rfl) ⟨sr_bt (by unfold sr_swp; rw [b1, b2, b3, b4, decide_eq_true b5, decide_eq_true b6, decide_eq_true b7]; rfl), rfl⟩
