def cl_rs (now : Nat → Int32) (r q : Nat) : Int64 := (now (3 + 4 * q + 2)).toInt64 * cl_by (cl_G now r) - cl_val (cl_G now r) (cl_r0 now q)
set_option maxHeartbeats 4000000 in
set_option maxRecDepth 100000 in
theorem c_X6_scaledRest (g : sr_G) (D : sr_St) (now : Nat → Int32) (n r : Nat) (hci : CI now n r D) (q : Nat) (hq : q < r) : Con g M_X6_scaledRest [.ref 0, .int (nI q)] D (fun qa D' => qa = some (.long (cl_rs now r q)) ∧ cl_pr D D') := by
  refine Con.of pn_X6_scaledRest (Nat.le_of_ble_eq_true rfl) ?_
  show WP g M_X6_scaledRest 0 [(0, .ref 0), (1, .int (nI q))] [] D _
  have hn6 := hci.n6
  have hr12 := hci.r12
  have h64 := sr_lo64 hci.1 hq
  refine wp_aload_n dX6_scaledRest_0 rfl rfl ?_
  refine wp_getR (r := 14) dX6_scaledRest_1 fl_X6_26 (by decide) rfl rfl rfl ?_
  refine wp_aload_n dX6_scaledRest_4 rfl rfl ?_
  refine wp_getR (r := 1) dX6_scaledRest_5 fl_X6_10 (by decide) rfl rfl rfl ?_
  refine wp_getR (r := 2) dX6_scaledRest_8 fl_X6_153 (by decide) rfl rfl rfl ?_
  refine wp_iload_n dX6_scaledRest_11 rfl rfl ?_
  refine wp_iald dX6_scaledRest_12 (by decide) rfl (show _ < 12 by omega) (by first | omega | (split <;> omega)) ?_
  rw [hci.a (by omega)]
  refine wp_aload_n dX6_scaledRest_13 rfl rfl ?_
  refine wp_getR (r := 1) dX6_scaledRest_14 fl_X6_10 (by decide) rfl rfl rfl ?_
  refine wp_getR (r := 3) dX6_scaledRest_17 fl_X6_156 (by decide) rfl rfl rfl ?_
  refine wp_iload_n dX6_scaledRest_20 rfl rfl ?_
  refine wp_iald dX6_scaledRest_21 (by decide) rfl (show _ < 12 by omega) (by first | omega | (split <;> omega)) ?_
  rw [hci.b (by omega)]
  refine wp_aload_n dX6_scaledRest_22 rfl rfl ?_
  refine wp_getR (r := 1) dX6_scaledRest_23 fl_X6_10 (by decide) rfl rfl rfl ?_
  refine wp_getR (r := 5) dX6_scaledRest_26 fl_X6_162 (by decide) rfl rfl rfl ?_
  refine wp_iload_n dX6_scaledRest_29 rfl rfl ?_
  refine wp_iald dX6_scaledRest_30 (by decide) rfl (show _ < 12 by omega) (by first | omega | (split <;> omega)) ?_
  rw [hci.s (by omega)]
  refine wp_iconst (v := nI 0) dX6_scaledRest_31 rfl ?_
  refine wp_callV (M2 := M_X1_load) (n := 4) (As := [.int (nI (sr_ra now q)), .int (nI (sr_rb now q)), .int (now (3 + 4 * q + 3)), .int (nI 0)]) (st := []) dX6_scaledRest_32 (c_X1_load14 g D (sr_ra now q) (sr_rb now q) (by omega) (by omega) (now (3 + 4 * q + 3)) (nI 0)) ca_X6_250 ⟨nm_X1_load, by decide, by decide⟩ rfl (by decide) rfl rfl rfl (Nat.le_of_ble_eq_true rfl) (fun r339 E340 q341 => ?_)
  obtain ⟨rfl, hf342, fa343⟩ := q341
  show WP g _ _ _ _ _ _
  have pr344 := (cl_pr.rf).tr fa343.pr
  refine wp_aload_n dX6_scaledRest_35 rfl rfl ?_
  refine wp_getR (r := 1) dX6_scaledRest_36 fl_X6_10 (by decide) rfl rfl rfl ?_
  refine wp_getR (r := 4) dX6_scaledRest_39 fl_X6_159 (by decide) rfl rfl rfl ?_
  refine wp_iload_n dX6_scaledRest_42 rfl rfl ?_
  refine wp_iald dX6_scaledRest_43 (by decide) rfl (show _ < 12 by omega) (by first | omega | (split <;> omega)) ?_
  rw [(hci.pr pr344).m (by omega)]
  refine wp_i2l dX6_scaledRest_44 ?_
  refine wp_aload_n dX6_scaledRest_45 rfl rfl ?_
  refine wp_getR (r := 14) dX6_scaledRest_46 fl_X6_26 (by decide) rfl rfl rfl ?_
  refine wp_getJ dX6_scaledRest_49 fl_X6_180 (by decide) rfl rfl ?_
  rw [(hci.pr pr344).2.2.2.2.1]
  show WP g _ _ _ (.long (cl_by (cl_G now r)) :: _) _ _
  refine wp_lmul dX6_scaledRest_52 ?_
  refine wp_aload_n dX6_scaledRest_53 rfl rfl ?_
  refine wp_getR (r := 14) dX6_scaledRest_54 fl_X6_26 (by decide) rfl rfl rfl ?_
  refine wp_callV (M2 := M_X1_scaledValue) (n := 0) (As := []) (st := [.long (((now (3 + 4 * q + 2)).toInt64) * (cl_by (cl_G now r)))]) dX6_scaledRest_57 (c_X1_scaledValue14 g E340 (cl_G now r) (hci.pr pr344).2.2.2 (cl_form (sr_ra now q) (sr_rb now q) (now (3 + 4 * q + 3)) (nI 0)) hf342) ca_X6_282 ⟨nm_X1_scaledValue, by decide, by decide⟩ rfl (by decide) rfl rfl rfl (Nat.le_of_ble_eq_true rfl) (fun r345 E346 q347 => ?_)
  obtain ⟨rfl, rfl⟩ := q347
  show WP g _ _ _ (.long (cl_val (cl_G now r) (cl_form (sr_ra now q) (sr_rb now q) (now (3 + 4 * q + 3)) (nI 0))) :: _) _ _
  refine wp_lsub dX6_scaledRest_60 ?_
  refine wp_lret dX6_scaledRest_61 rfl ⟨?_, pr344⟩
  rfl
def cl_gr (Y : cl_T) (i : Nat) : Nat → Nat
  | 0 => 0
  | j + 1 => if cl_kn Y (cl_cf i j) = true then cl_gr Y i j ||| 1 * 2 ^ j else cl_gr Y i j
theorem cl_gr_lt {Y : cl_T} {i : Nat} : ∀ j, cl_gr Y i j < 2 ^ j
  | 0 => by show 0 < 1; decide
  | j + 1 => by
    have h := cl_gr_lt (Y := Y) (i := i) j
    have hp : 2 ^ (j + 1) = 2 * 2 ^ j := by rw [Nat.pow_succ, Nat.mul_comm]
    unfold cl_gr
    split
    · exact Nat.or_lt_two_pow (by omega) (by omega)
    · omega
set_option maxHeartbeats 4000000 in
set_option maxRecDepth 100000 in
theorem c_X6_groupOf (g : sr_G) (D : sr_St) (now : Nat → Int32) (n r : Nat) (hci : CI now n r D) (i : Nat) (hi : i < 6) : Con g M_X6_groupOf [.ref 0, .int (nI i)] D (fun qa D' => qa = some (.int (nI (cl_gr (cl_G now r) i n))) ∧ cl_pr D D') := by
  refine Con.of pn_X6_groupOf (Nat.le_of_ble_eq_true rfl) ?_
  show WP g M_X6_groupOf 0 [(0, .ref 0), (1, .int (nI i))] [] D _
  have hn6 := hci.n6
  have hr12 := hci.r12
  have hp2 : ∀ z, z < 6 → 2 ^ z ≤ 32 := fun z hz => Nat.le_trans (Nat.pow_le_pow_right (by decide) (show z ≤ 5 by omega)) (by decide)
  have hL : ∀ j, j ≤ n → ∀ E : sr_St, cl_pr D E → WP g M_X6_groupOf 4 [(0, .ref 0), (1, .int (nI i)), (2, .int (nI (cl_gr (cl_G now r) i j))), (3, .int (nI j))] [] E (fun qa D' => qa = some (.int (nI (cl_gr (cl_G now r) i n))) ∧ cl_pr D D') := by
    refine sr_up (fun j hj ih E hpr => ?_)
    have hpi := hp2 i hi
    have hgl := cl_gr_lt (Y := (cl_G now r)) (i := i) j
    have hpj := sr_pw (show j ≤ 6 by omega)
    have hpj2 := hp2 j
    refine wp_iload_n dX6_groupOf_4 rfl rfl ?_
    refine wp_aload_n dX6_groupOf_5 rfl rfl ?_
    refine wp_getR (r := 1) dX6_groupOf_6 fl_X6_10 (by decide) rfl rfl rfl ?_
    refine wp_getI_n (n := n) dX6_groupOf_9 fl_X6_132 (by decide) rfl rfl ((hci.pr hpr).2.1.1) ?_
    refine wp_icmp_ge_n (tgt := 52) dX6_groupOf_12 (by decide) (by first | omega | (split <;> omega)) (by first | omega | (split <;> omega)) (fun c348 => ?_) (fun c348 => ?_)
    · refine wp_iload_n dX6_groupOf_52 rfl rfl ?_
      refine wp_iret dX6_groupOf_53 rfl ⟨?_, hpr⟩
      have hje : j = n := by omega
      rw [hje]
    · refine wp_aload_n dX6_groupOf_15 rfl rfl ?_
      refine wp_getR (r := 14) dX6_groupOf_16 fl_X6_26 (by decide) rfl rfl rfl ?_
      refine wp_iconst (v := nI 1) dX6_groupOf_19 rfl ?_
      refine wp_iload_n dX6_groupOf_20 rfl rfl ?_
      refine wp_ishl_n dX6_groupOf_21 (by omega) (sr_pw1 (by omega)) ?_
      refine wp_iconst (v := nI 1) dX6_groupOf_22 rfl ?_
      refine wp_iload_n dX6_groupOf_23 rfl rfl ?_
      refine wp_ishl_n dX6_groupOf_24 (by omega) (sr_pw1 (by omega)) ?_
      refine wp_iconst (v := nI 0) dX6_groupOf_25 rfl ?_
      refine wp_iconst (v := nI 0) dX6_groupOf_26 rfl ?_
      refine wp_callV (M2 := M_X1_load) (n := 4) (As := [.int (nI (1 * 2 ^ i)), .int (nI (1 * 2 ^ j)), .int (nI 0), .int (nI 0)]) (st := []) dX6_groupOf_27 (c_X1_load14 g E (1 * 2 ^ i) (1 * 2 ^ j) (by omega) (by omega) (nI 0) (nI 0)) ca_X6_250 ⟨nm_X1_load, by decide, by decide⟩ rfl (by decide) rfl rfl rfl (Nat.le_of_ble_eq_true rfl) (fun r349 E350 q351 => ?_)
      obtain ⟨rfl, hf352, fa353⟩ := q351
      show WP g _ _ _ _ _ _
      have hf354 : ∀ k, k < 8 → E350.1 34 k = cl_cf i j k := hf352
      have pr355 := (hpr).tr fa353.pr
      refine wp_aload_n dX6_groupOf_30 rfl rfl ?_
      refine wp_getR (r := 14) dX6_groupOf_31 fl_X6_26 (by decide) rfl rfl rfl ?_
      refine wp_callV (M2 := M_X1_isKnown) (n := 0) (As := []) (st := []) dX6_groupOf_34 (c_X1_isKnown14 g E350 (cl_G now r) (hci.pr pr355).2.2.2 (cl_cf i j) hf354) ca_X6_253 ⟨nm_X1_isKnown, by decide, by decide⟩ rfl (by decide) rfl rfl rfl (Nat.le_of_ble_eq_true rfl) (fun r356 E357 q358 => ?_)
      obtain ⟨rfl, rfl⟩ := q358
      show WP g _ _ _ (.int (sr_b (cl_kn (cl_G now r) (cl_cf i j))) :: _) _ _
      refine wp_if_eq_b (tgt := 46) dX6_groupOf_37 (by decide) (fun c359 => ?_) (fun c359 => ?_)
      · have hkn := c359
        refine wp_iinc_n (b := 1) (lv' := [(0, .ref 0), (1, .int (nI i)), (2, .int (nI (cl_gr (cl_G now r) i j))), (3, .int (nI (j + 1)))]) dX6_groupOf_46 rfl rfl (by decide) rfl ?_
        refine wp_goto (tgt := 4) dX6_groupOf_49 (by decide) ?_
        have h := ih (by omega) E350 (pr355)
        rw [show cl_gr (cl_G now r) i (j + 1) = _ from if_neg (by rw [hkn]; decide)] at h
        exact h
      · have hkn := c359
        refine wp_iload_n dX6_groupOf_40 rfl rfl ?_
        refine wp_iconst (v := nI 1) dX6_groupOf_41 rfl ?_
        refine wp_iload_n dX6_groupOf_42 rfl rfl ?_
        refine wp_ishl_n dX6_groupOf_43 (by omega) (sr_pw1 (by omega)) ?_
        refine wp_ior_n dX6_groupOf_44 ?_
        refine wp_istore_n (lv' := [(0, .ref 0), (1, .int (nI i)), (2, .int (nI ((cl_gr (cl_G now r) i j) ||| (1 * 2 ^ j)))), (3, .int (nI j))]) dX6_groupOf_45 rfl (by decide) rfl ?_
        refine wp_iinc_n (b := 1) (lv' := [(0, .ref 0), (1, .int (nI i)), (2, .int (nI ((cl_gr (cl_G now r) i j) ||| (1 * 2 ^ j)))), (3, .int (nI (j + 1)))]) dX6_groupOf_46 rfl rfl (by decide) rfl ?_
        refine wp_goto (tgt := 4) dX6_groupOf_49 (by decide) ?_
        have h := ih (by omega) E350 (pr355)
        rw [show cl_gr (cl_G now r) i (j + 1) = _ from if_pos hkn] at h
        exact h
  refine wp_iconst (v := nI 0) dX6_groupOf_0 rfl ?_
  refine wp_istore_n (lv' := [(0, .ref 0), (1, .int (nI i)), (2, .int (nI 0))]) dX6_groupOf_1 rfl (by decide) rfl ?_
  refine wp_iconst (v := nI 0) dX6_groupOf_2 rfl ?_
  refine wp_istore_n (lv' := [(0, .ref 0), (1, .int (nI i)), (2, .int (nI 0)), (3, .int (nI 0))]) dX6_groupOf_3 rfl (by decide) rfl ?_
  exact hL 0 (by omega) D cl_pr.rf
def cl_gs (Y : cl_T) (n : Nat) : Nat → Nat
  | 0 => 0
  | i + 1 => if cl_gr Y i n &&& (1 * 2 ^ i - 1) = 0 then cl_gs Y n i + 1 else cl_gs Y n i
theorem cl_gs_le {Y : cl_T} {n : Nat} : ∀ i, cl_gs Y n i ≤ i
  | 0 => Nat.le_refl _
  | i + 1 => by
    have h := cl_gs_le (Y := Y) (n := n) i
    unfold cl_gs
    split
    · omega
    · omega
set_option maxHeartbeats 4000000 in
set_option maxRecDepth 100000 in
theorem c_X6_countGroups (g : sr_G) (D : sr_St) (now : Nat → Int32) (n r : Nat) (hci : CI now n r D)  : Con g M_X6_countGroups [.ref 0] D (fun qa D' => qa = some (.int (nI (cl_gs (cl_G now r) n n))) ∧ cl_pr D D') := by
  refine Con.of pn_X6_countGroups (Nat.le_of_ble_eq_true rfl) ?_
  show WP g M_X6_countGroups 0 [(0, .ref 0)] [] D _
  have hn6 := hci.n6
  have hr12 := hci.r12
  have hp2 : ∀ z, z < 6 → 2 ^ z ≤ 32 := fun z hz => Nat.le_trans (Nat.pow_le_pow_right (by decide) (show z ≤ 5 by omega)) (by decide)
  have hL : ∀ j, j ≤ n → ∀ E : sr_St, cl_pr D E → WP g M_X6_countGroups 4 [(0, .ref 0), (1, .int (nI (cl_gs (cl_G now r) n j))), (2, .int (nI j))] [] E (fun qa D' => qa = some (.int (nI (cl_gs (cl_G now r) n n))) ∧ cl_pr D D') := by
    refine sr_up (fun j hj ih E hpr => ?_)
    have hgl := cl_gr_lt (Y := (cl_G now r)) (i := j) n
    have hpn := sr_pw (show n ≤ 6 by omega)
    have hgs := cl_gs_le (Y := (cl_G now r)) (n := n) j
    have hpp := Nat.two_pow_pos j
    have hpj2 := hp2 j
    refine wp_iload_n dX6_countGroups_4 rfl rfl ?_
    refine wp_aload_n dX6_countGroups_5 rfl rfl ?_
    refine wp_getR (r := 1) dX6_countGroups_6 fl_X6_10 (by decide) rfl rfl rfl ?_
    refine wp_getI_n (n := n) dX6_countGroups_9 fl_X6_132 (by decide) rfl rfl ((hci.pr hpr).2.1.1) ?_
    refine wp_icmp_ge_n (tgt := 40) dX6_countGroups_12 (by decide) (by first | omega | (split <;> omega)) (by first | omega | (split <;> omega)) (fun c360 => ?_) (fun c360 => ?_)
    · refine wp_iload_n dX6_countGroups_40 rfl rfl ?_
      refine wp_iret dX6_countGroups_41 rfl ⟨?_, hpr⟩
      have hje : j = n := by omega
      rw [hje]
    · refine wp_iconst (v := nI 1) dX6_countGroups_15 rfl ?_
      refine wp_iload_n dX6_countGroups_16 rfl rfl ?_
      refine wp_ishl_n dX6_countGroups_17 (by omega) (sr_pw1 (by omega)) ?_
      refine wp_iconst (v := nI 1) dX6_countGroups_18 rfl ?_
      refine wp_isub_n dX6_countGroups_19 (by omega) ?_
      refine wp_istore_n (lv' := [(0, .ref 0), (1, .int (nI (cl_gs (cl_G now r) n j))), (2, .int (nI j)), (3, .int (nI ((1 * 2 ^ j) - 1)))]) dX6_countGroups_20 rfl (by decide) rfl ?_
      refine wp_aload_n dX6_countGroups_21 rfl rfl ?_
      refine wp_iload_n dX6_countGroups_22 rfl rfl ?_
      refine wp_callV (M2 := M_X6_groupOf) (n := 1) (As := [.int (nI j)]) (st := []) dX6_countGroups_23 (c_X6_groupOf g E now n r (hci.pr hpr) j (by omega)) ca_X6_204 ⟨nm_X6_groupOf, by decide, by decide⟩ rfl (by decide) rfl rfl rfl (Nat.le_of_ble_eq_true rfl) (fun r361 E362 q363 => ?_)
      obtain ⟨rfl, pr364⟩ := q363
      show WP g _ _ _ (.int (nI (cl_gr (cl_G now r) j n)) :: _) _ _
      have pr365 := (hpr).tr pr364
      refine wp_iload_n dX6_countGroups_26 rfl rfl ?_
      refine wp_iand_n dX6_countGroups_27 ?_
      refine wp_if_ne_n (tgt := 34) dX6_countGroups_28 (by decide) (Nat.lt_of_le_of_lt Nat.and_le_left (by omega)) (fun c366 => ?_) (fun c366 => ?_)
      · have hz := c366
        refine wp_iinc_n (b := 1) (lv' := [(0, .ref 0), (1, .int (nI (cl_gs (cl_G now r) n j))), (2, .int (nI (j + 1))), (3, .int (nI ((1 * 2 ^ j) - 1)))]) dX6_countGroups_34 rfl rfl (by decide) rfl ?_
        refine wp_goto (tgt := 4) dX6_countGroups_37 (by decide) ?_
        have h := ih (by omega) E362 (pr365)
        rw [show cl_gs (cl_G now r) n (j + 1) = _ from if_neg hz] at h
        exact wp_pick [0, 1, 2] rfl h
      · have hz := c366
        refine wp_iinc_n (b := 1) (lv' := [(0, .ref 0), (1, .int (nI (cl_gs (cl_G now r) n j + 1))), (2, .int (nI j)), (3, .int (nI ((1 * 2 ^ j) - 1)))]) dX6_countGroups_31 rfl rfl (by decide) rfl ?_
        refine wp_iinc_n (b := 1) (lv' := [(0, .ref 0), (1, .int (nI (cl_gs (cl_G now r) n j + 1))), (2, .int (nI (j + 1))), (3, .int (nI ((1 * 2 ^ j) - 1)))]) dX6_countGroups_34 rfl rfl (by decide) rfl ?_
        refine wp_goto (tgt := 4) dX6_countGroups_37 (by decide) ?_
        have h := ih (by omega) E362 (pr365)
        rw [show cl_gs (cl_G now r) n (j + 1) = _ from if_pos hz] at h
        exact wp_pick [0, 1, 2] rfl h
  refine wp_iconst (v := nI 0) dX6_countGroups_0 rfl ?_
  refine wp_istore_n (lv' := [(0, .ref 0), (1, .int (nI 0))]) dX6_countGroups_1 rfl (by decide) rfl ?_
  refine wp_iconst (v := nI 0) dX6_countGroups_2 rfl ?_
  refine wp_istore_n (lv' := [(0, .ref 0), (1, .int (nI 0)), (2, .int (nI 0))]) dX6_countGroups_3 rfl (by decide) rfl ?_
  exact hL 0 (by omega) D cl_pr.rf
def cl_ah (Y : cl_T) (i j : Nat) (t : Int32) : Bool := cl_kn Y (cl_cf i j) && !decide (cl_val Y (cl_cf i j) ≤ t.toInt64 * cl_dou Y (cl_cf i j))
set_option maxHeartbeats 4000000 in
set_option maxRecDepth 100000 in
theorem c_X6_isAhead (g : sr_G) (D : sr_St) (now : Nat → Int32) (n r : Nat) (hci : CI now n r D) (i j : Nat) (hi : i < 6) (hj : j < 6) (t : Int32) : Con g M_X6_isAhead [.ref 0, .int (nI i), .int (nI j), .int t] D (fun qa D' => qa = some (.int (sr_b (cl_ah (cl_G now r) i j t))) ∧ cl_pr D D') := by
  refine Con.of pn_X6_isAhead (Nat.le_of_ble_eq_true rfl) ?_
  show WP g M_X6_isAhead 0 [(0, .ref 0), (1, .int (nI i)), (2, .int (nI j)), (3, .int t)] [] D _
  have hn6 := hci.n6
  have hr12 := hci.r12
  have hp2 : ∀ z, z < 6 → 2 ^ z ≤ 32 := fun z hz => Nat.le_trans (Nat.pow_le_pow_right (by decide) (show z ≤ 5 by omega)) (by decide)
  have hpi := hp2 i hi
  have hpj := hp2 j hj
  refine wp_aload_n dX6_isAhead_0 rfl rfl ?_
  refine wp_getR (r := 14) dX6_isAhead_1 fl_X6_26 (by decide) rfl rfl rfl ?_
  refine wp_iconst (v := nI 1) dX6_isAhead_4 rfl ?_
  refine wp_iload_n dX6_isAhead_5 rfl rfl ?_
  refine wp_ishl_n dX6_isAhead_6 (by omega) (sr_pw1 (by omega)) ?_
  refine wp_iconst (v := nI 1) dX6_isAhead_7 rfl ?_
  refine wp_iload_n dX6_isAhead_8 rfl rfl ?_
  refine wp_ishl_n dX6_isAhead_9 (by omega) (sr_pw1 (by omega)) ?_
  refine wp_iconst (v := nI 0) dX6_isAhead_10 rfl ?_
  refine wp_iconst (v := nI 0) dX6_isAhead_11 rfl ?_
  refine wp_callV (M2 := M_X1_load) (n := 4) (As := [.int (nI (1 * 2 ^ i)), .int (nI (1 * 2 ^ j)), .int (nI 0), .int (nI 0)]) (st := []) dX6_isAhead_12 (c_X1_load14 g D (1 * 2 ^ i) (1 * 2 ^ j) (by omega) (by omega) (nI 0) (nI 0)) ca_X6_250 ⟨nm_X1_load, by decide, by decide⟩ rfl (by decide) rfl rfl rfl (Nat.le_of_ble_eq_true rfl) (fun r367 E368 q369 => ?_)
  obtain ⟨rfl, hf370, fa371⟩ := q369
  show WP g _ _ _ _ _ _
  have hf372 : ∀ k, k < 8 → E368.1 34 k = cl_cf i j k := hf370
  have pr373 := (cl_pr.rf).tr fa371.pr
  refine wp_aload_n dX6_isAhead_15 rfl rfl ?_
  refine wp_getR (r := 14) dX6_isAhead_16 fl_X6_26 (by decide) rfl rfl rfl ?_
  refine wp_callV (M2 := M_X1_isKnown) (n := 0) (As := []) (st := []) dX6_isAhead_19 (c_X1_isKnown14 g E368 (cl_G now r) (hci.pr pr373).2.2.2 (cl_cf i j) hf372) ca_X6_253 ⟨nm_X1_isKnown, by decide, by decide⟩ rfl (by decide) rfl rfl rfl (Nat.le_of_ble_eq_true rfl) (fun r374 E375 q376 => ?_)
  obtain ⟨rfl, rfl⟩ := q376
  show WP g _ _ _ (.int (sr_b (cl_kn (cl_G now r) (cl_cf i j))) :: _) _ _
  refine wp_if_eq_b (tgt := 50) dX6_isAhead_22 (by decide) (fun c377 => ?_) (fun c377 => ?_)
  · have hkn := c377
    refine wp_iconst (v := nI 0) dX6_isAhead_50 rfl ?_
    refine wp_zret dX6_isAhead_51 rfl (Or.inl rfl) ⟨?_, pr373⟩
    have hx : cl_ah (cl_G now r) i j t = false := by
      show (cl_kn _ (cl_cf i j) && _) = false
      rw [show cl_kn _ (cl_cf i j) = false from hkn]; rfl
    rw [hx]; rfl
  · have hkn := c377
    refine wp_aload_n dX6_isAhead_25 rfl rfl ?_
    refine wp_getR (r := 14) dX6_isAhead_26 fl_X6_26 (by decide) rfl rfl rfl ?_
    refine wp_callV (M2 := M_X1_scaledValue) (n := 0) (As := []) (st := []) dX6_isAhead_29 (c_X1_scaledValue14 g E368 (cl_G now r) (hci.pr pr373).2.2.2 (cl_cf i j) hf372) ca_X6_282 ⟨nm_X1_scaledValue, by decide, by decide⟩ rfl (by decide) rfl rfl rfl (Nat.le_of_ble_eq_true rfl) (fun r378 E379 q380 => ?_)
    obtain ⟨rfl, rfl⟩ := q380
    show WP g _ _ _ (.long (cl_val (cl_G now r) (cl_cf i j)) :: _) _ _
    refine wp_iload_n dX6_isAhead_32 rfl rfl ?_
    refine wp_i2l dX6_isAhead_33 ?_
    refine wp_aload_n dX6_isAhead_34 rfl rfl ?_
    refine wp_getR (r := 14) dX6_isAhead_35 fl_X6_26 (by decide) rfl rfl rfl ?_
    refine wp_callV (M2 := M_X1_scaledDoubt) (n := 0) (As := []) (st := [.long t.toInt64, .long (cl_val (cl_G now r) (cl_cf i j))]) dX6_isAhead_38 (c_X1_scaledDoubt14 g E368 (cl_G now r) (hci.pr pr373).2.2.2 (cl_cf i j) hf372) ca_X6_279 ⟨nm_X1_scaledDoubt, by decide, by decide⟩ rfl (by decide) rfl rfl rfl (Nat.le_of_ble_eq_true rfl) (fun r381 E382 q383 => ?_)
    obtain ⟨rfl, rfl⟩ := q383
    show WP g _ _ _ (.long (cl_dou (cl_G now r) (cl_cf i j)) :: _) _ _
    refine wp_lmul dX6_isAhead_41 ?_
    refine wp_lcmp_le (tgt := 50) dX6_isAhead_42 dX6_isAhead_43 (by decide) (fun c384 => ?_) (fun c384 => ?_)
    · have hle := c384
      refine wp_iconst (v := nI 0) dX6_isAhead_50 rfl ?_
      refine wp_zret dX6_isAhead_51 rfl (Or.inl rfl) ⟨?_, pr373⟩
      have hx : cl_ah (cl_G now r) i j t = false := by
        show (cl_kn _ (cl_cf i j) && _) = false
        rw [show cl_kn _ (cl_cf i j) = true from hkn, decide_eq_true hle]; rfl
      rw [hx]; rfl
    · have hle := c384
      refine wp_iconst (v := nI 1) dX6_isAhead_46 rfl ?_
      refine wp_goto (tgt := 51) dX6_isAhead_47 (by decide) ?_
      refine wp_zret dX6_isAhead_51 rfl (Or.inr rfl) ⟨?_, pr373⟩
      have hx : cl_ah (cl_G now r) i j t = true := by
        show (cl_kn _ (cl_cf i j) && _) = true
        rw [show cl_kn _ (cl_cf i j) = true from hkn, decide_eq_false hle]; rfl
      rw [hx]; rfl
def cl_th (Y : cl_T) (i : Nat) (t : Int32) : Nat → Nat
  | 0 => 0
  | j + 1 => if cl_ah Y j i t = true then cl_th Y i t j ||| 1 * 2 ^ j else cl_th Y i t j
theorem cl_th_lt {Y : cl_T} {i : Nat} {t : Int32} : ∀ j, cl_th Y i t j < 2 ^ j
  | 0 => by show 0 < 1; decide
  | j + 1 => by
    have h := cl_th_lt (Y := Y) (i := i) (t := t) j
    have hp : 2 ^ (j + 1) = 2 * 2 ^ j := by rw [Nat.pow_succ, Nat.mul_comm]
    unfold cl_th
    split
    · exact Nat.or_lt_two_pow (by omega) (by omega)
    · omega
def cl_be (Y : cl_T) (i : Nat) (t : Int32) : Nat → Nat
  | 0 => 0
  | j + 1 => if cl_ah Y i j t = true then cl_be Y i t j + 1 else cl_be Y i t j
theorem cl_be_le {Y : cl_T} {i : Nat} {t : Int32} : ∀ j, cl_be Y i t j ≤ j
  | 0 => Nat.le_refl _
  | j + 1 => by
    have h := cl_be_le (Y := Y) (i := i) (t := t) j
    unfold cl_be
    split <;> omega
set_option maxHeartbeats 4000000 in
set_option maxRecDepth 100000 in
theorem c_X6_thoseAheadOf (g : sr_G) (D : sr_St) (now : Nat → Int32) (n r : Nat) (hci : CI now n r D) (i : Nat) (hi : i < 6) (t : Int32) : Con g M_X6_thoseAheadOf [.ref 0, .int (nI i), .int t] D (fun qa D' => qa = some (.int (nI (cl_th (cl_G now r) i t n))) ∧ cl_pr D D') := by
  refine Con.of pn_X6_thoseAheadOf (Nat.le_of_ble_eq_true rfl) ?_
  show WP g M_X6_thoseAheadOf 0 [(0, .ref 0), (1, .int (nI i)), (2, .int t)] [] D _
  have hn6 := hci.n6
  have hr12 := hci.r12
  have hp2 : ∀ z, z < 6 → 2 ^ z ≤ 32 := fun z hz => Nat.le_trans (Nat.pow_le_pow_right (by decide) (show z ≤ 5 by omega)) (by decide)
  have hL : ∀ j, j ≤ n → ∀ E : sr_St, cl_pr D E → WP g M_X6_thoseAheadOf 5 [(0, .ref 0), (1, .int (nI i)), (2, .int t), (3, .int (nI (cl_th (cl_G now r) i t j))), (4, .int (nI j))] [] E (fun qa D' => qa = some (.int (nI (cl_th (cl_G now r) i t n))) ∧ cl_pr D D') := by
    refine sr_up (fun j hj ih E hpr => ?_)
    have hgl := cl_th_lt (Y := (cl_G now r)) (i := i) (t := t) j
    have hpj := sr_pw (show j ≤ 6 by omega)
    have hpj2 := hp2 j
    refine wp_iload dX6_thoseAheadOf_5 rfl ?_
    refine wp_aload_n dX6_thoseAheadOf_7 rfl rfl ?_
    refine wp_getR (r := 1) dX6_thoseAheadOf_8 fl_X6_10 (by decide) rfl rfl rfl ?_
    refine wp_getI_n (n := n) dX6_thoseAheadOf_11 fl_X6_132 (by decide) rfl rfl ((hci.pr hpr).2.1.1) ?_
    refine wp_icmp_ge_n (tgt := 41) dX6_thoseAheadOf_14 (by decide) (by first | omega | (split <;> omega)) (by first | omega | (split <;> omega)) (fun c385 => ?_) (fun c385 => ?_)
    · refine wp_iload_n dX6_thoseAheadOf_41 rfl rfl ?_
      refine wp_iret dX6_thoseAheadOf_42 rfl ⟨?_, hpr⟩
      have hje : j = n := by omega
      rw [hje]
    · refine wp_aload_n dX6_thoseAheadOf_17 rfl rfl ?_
      refine wp_iload dX6_thoseAheadOf_18 rfl ?_
      refine wp_iload_n dX6_thoseAheadOf_20 rfl rfl ?_
      refine wp_iload_n dX6_thoseAheadOf_21 rfl rfl ?_
      refine wp_callV (M2 := M_X6_isAhead) (n := 3) (As := [.int (nI j), .int (nI i), .int t]) (st := []) dX6_thoseAheadOf_22 (c_X6_isAhead g E now n r (hci.pr hpr) j i (by omega) (by omega) t) ca_X6_285 ⟨nm_X6_isAhead, by decide, by decide⟩ rfl (by decide) rfl rfl rfl (Nat.le_of_ble_eq_true rfl) (fun r386 E387 q388 => ?_)
      obtain ⟨rfl, pr389⟩ := q388
      show WP g _ _ _ (.int (sr_b (cl_ah (cl_G now r) j i t)) :: _) _ _
      have pr390 := (hpr).tr pr389
      refine wp_if_eq_b (tgt := 35) dX6_thoseAheadOf_25 (by decide) (fun c391 => ?_) (fun c391 => ?_)
      · have hkn := c391
        refine wp_iinc_n (b := 1) (lv' := [(0, .ref 0), (1, .int (nI i)), (2, .int t), (3, .int (nI (cl_th (cl_G now r) i t j))), (4, .int (nI (j + 1)))]) dX6_thoseAheadOf_35 rfl rfl (by decide) rfl ?_
        refine wp_goto (tgt := 5) dX6_thoseAheadOf_38 (by decide) ?_
        have h := ih (by omega) E387 (pr390)
        rw [show cl_th (cl_G now r) i t (j + 1) = _ from if_neg (by rw [hkn]; decide)] at h
        exact h
      · have hkn := c391
        refine wp_iload_n dX6_thoseAheadOf_28 rfl rfl ?_
        refine wp_iconst (v := nI 1) dX6_thoseAheadOf_29 rfl ?_
        refine wp_iload dX6_thoseAheadOf_30 rfl ?_
        refine wp_ishl_n dX6_thoseAheadOf_32 (by omega) (sr_pw1 (by omega)) ?_
        refine wp_ior_n dX6_thoseAheadOf_33 ?_
        refine wp_istore_n (lv' := [(0, .ref 0), (1, .int (nI i)), (2, .int t), (3, .int (nI ((cl_th (cl_G now r) i t j) ||| (1 * 2 ^ j)))), (4, .int (nI j))]) dX6_thoseAheadOf_34 rfl (by decide) rfl ?_
        refine wp_iinc_n (b := 1) (lv' := [(0, .ref 0), (1, .int (nI i)), (2, .int t), (3, .int (nI ((cl_th (cl_G now r) i t j) ||| (1 * 2 ^ j)))), (4, .int (nI (j + 1)))]) dX6_thoseAheadOf_35 rfl rfl (by decide) rfl ?_
        refine wp_goto (tgt := 5) dX6_thoseAheadOf_38 (by decide) ?_
        have h := ih (by omega) E387 (pr390)
        rw [show cl_th (cl_G now r) i t (j + 1) = _ from if_pos hkn] at h
        exact h
  refine wp_iconst (v := nI 0) dX6_thoseAheadOf_0 rfl ?_
  refine wp_istore_n (lv' := [(0, .ref 0), (1, .int (nI i)), (2, .int t), (3, .int (nI 0))]) dX6_thoseAheadOf_1 rfl (by decide) rfl ?_
  refine wp_iconst (v := nI 0) dX6_thoseAheadOf_2 rfl ?_
  refine wp_istore (lv' := [(0, .ref 0), (1, .int (nI i)), (2, .int t), (3, .int (nI 0)), (4, .int (nI 0))]) dX6_thoseAheadOf_3 (by decide) rfl ?_
  exact hL 0 (by omega) D cl_pr.rf
set_option maxHeartbeats 4000000 in
set_option maxRecDepth 100000 in
theorem c_X6_countSurelyBehind (g : sr_G) (D : sr_St) (now : Nat → Int32) (n r : Nat) (hci : CI now n r D) (i : Nat) (hi : i < 6) : Con g M_X6_countSurelyBehind [.ref 0, .int (nI i)] D (fun qa D' => qa = some (.int (nI (cl_be (cl_G now r) i (now 1) n))) ∧ cl_pr D D') := by
  refine Con.of pn_X6_countSurelyBehind (Nat.le_of_ble_eq_true rfl) ?_
  show WP g M_X6_countSurelyBehind 0 [(0, .ref 0), (1, .int (nI i))] [] D _
  have hn6 := hci.n6
  have hr12 := hci.r12
  have hp2 : ∀ z, z < 6 → 2 ^ z ≤ 32 := fun z hz => Nat.le_trans (Nat.pow_le_pow_right (by decide) (show z ≤ 5 by omega)) (by decide)
  have hL : ∀ j, j ≤ n → ∀ E : sr_St, cl_pr D E → WP g M_X6_countSurelyBehind 4 [(0, .ref 0), (1, .int (nI i)), (2, .int (nI (cl_be (cl_G now r) i (now 1) j))), (3, .int (nI j))] [] E (fun qa D' => qa = some (.int (nI (cl_be (cl_G now r) i (now 1) n))) ∧ cl_pr D D') := by
    refine sr_up (fun j hj ih E hpr => ?_)
    have hgl := cl_be_le (Y := (cl_G now r)) (i := i) (t := now 1) j
    refine wp_iload_n dX6_countSurelyBehind_4 rfl rfl ?_
    refine wp_aload_n dX6_countSurelyBehind_5 rfl rfl ?_
    refine wp_getR (r := 1) dX6_countSurelyBehind_6 fl_X6_10 (by decide) rfl rfl rfl ?_
    refine wp_getI_n (n := n) dX6_countSurelyBehind_9 fl_X6_132 (by decide) rfl rfl ((hci.pr hpr).2.1.1) ?_
    refine wp_icmp_ge_n (tgt := 40) dX6_countSurelyBehind_12 (by decide) (by first | omega | (split <;> omega)) (by first | omega | (split <;> omega)) (fun c392 => ?_) (fun c392 => ?_)
    · refine wp_iload_n dX6_countSurelyBehind_40 rfl rfl ?_
      refine wp_iret dX6_countSurelyBehind_41 rfl ⟨?_, hpr⟩
      have hje : j = n := by omega
      rw [hje]
    · refine wp_aload_n dX6_countSurelyBehind_15 rfl rfl ?_
      refine wp_iload_n dX6_countSurelyBehind_16 rfl rfl ?_
      refine wp_iload_n dX6_countSurelyBehind_17 rfl rfl ?_
      refine wp_aload_n dX6_countSurelyBehind_18 rfl rfl ?_
      refine wp_getR (r := 1) dX6_countSurelyBehind_19 fl_X6_10 (by decide) rfl rfl rfl ?_
      refine wp_getI dX6_countSurelyBehind_22 fl_X6_110 (by decide) rfl rfl ?_
      rw [(hci.pr hpr).2.1.2.1]
      refine wp_callV (M2 := M_X6_isAhead) (n := 3) (As := [.int (nI i), .int (nI j), .int (now 1)]) (st := []) dX6_countSurelyBehind_25 (c_X6_isAhead g E now n r (hci.pr hpr) i j (by omega) (by omega) (now 1)) ca_X6_285 ⟨nm_X6_isAhead, by decide, by decide⟩ rfl (by decide) rfl rfl rfl (Nat.le_of_ble_eq_true rfl) (fun r393 E394 q395 => ?_)
      obtain ⟨rfl, pr396⟩ := q395
      show WP g _ _ _ (.int (sr_b (cl_ah (cl_G now r) i j (now 1))) :: _) _ _
      have pr397 := (hpr).tr pr396
      refine wp_if_eq_b (tgt := 34) dX6_countSurelyBehind_28 (by decide) (fun c398 => ?_) (fun c398 => ?_)
      · have hkn := c398
        refine wp_iinc_n (b := 1) (lv' := [(0, .ref 0), (1, .int (nI i)), (2, .int (nI (cl_be (cl_G now r) i (now 1) j))), (3, .int (nI (j + 1)))]) dX6_countSurelyBehind_34 rfl rfl (by decide) rfl ?_
        refine wp_goto (tgt := 4) dX6_countSurelyBehind_37 (by decide) ?_
        have h := ih (by omega) E394 (pr397)
        rw [show cl_be (cl_G now r) i (now 1) (j + 1) = _ from if_neg (by rw [hkn]; decide)] at h
        exact h
      · have hkn := c398
        refine wp_iinc_n (b := 1) (lv' := [(0, .ref 0), (1, .int (nI i)), (2, .int (nI (cl_be (cl_G now r) i (now 1) j + 1))), (3, .int (nI j))]) dX6_countSurelyBehind_31 rfl rfl (by decide) rfl ?_
        refine wp_iinc_n (b := 1) (lv' := [(0, .ref 0), (1, .int (nI i)), (2, .int (nI (cl_be (cl_G now r) i (now 1) j + 1))), (3, .int (nI (j + 1)))]) dX6_countSurelyBehind_34 rfl rfl (by decide) rfl ?_
        refine wp_goto (tgt := 4) dX6_countSurelyBehind_37 (by decide) ?_
        have h := ih (by omega) E394 (pr397)
        rw [show cl_be (cl_G now r) i (now 1) (j + 1) = _ from if_pos hkn] at h
        exact h
  refine wp_iconst (v := nI 0) dX6_countSurelyBehind_0 rfl ?_
  refine wp_istore_n (lv' := [(0, .ref 0), (1, .int (nI i)), (2, .int (nI 0))]) dX6_countSurelyBehind_1 rfl (by decide) rfl ?_
  refine wp_iconst (v := nI 0) dX6_countSurelyBehind_2 rfl ?_
  refine wp_istore_n (lv' := [(0, .ref 0), (1, .int (nI i)), (2, .int (nI 0)), (3, .int (nI 0))]) dX6_countSurelyBehind_3 rfl (by decide) rfl ?_
  exact hL 0 (by omega) D cl_pr.rf
