/-- 0: not ahead, or not known; 1: ahead; 2: surely -/
def md_ah (n : Nat) (p s : Nat → Int64) (lim : Int32) (i j : Nat) : Nat := if md_kn (n + 1) p (sr_l (sr_dform i j)) = true ∧ 0 < md_val (n + 1) p s (sr_l (sr_dform i j)) then (if lim.toInt64 * md_dou (n + 1) p (sr_l (sr_dform i j)) < md_val (n + 1) p s (sr_l (sr_dform i j)) then 2 else 1) else 0
set_option maxHeartbeats 4000000 in
set_option maxRecDepth 100000 in
theorem c_X7_isAhead (g : sr_G) (D : sr_St) (n : Nat) (hn : D.1 64 0 = nI n) (hn6 : n ≤ 6) (p s : Nat → Int64) (hl : md_laid (n + 1) p s D) (hgood : md_good (n + 1) p) (i j : Nat) (hi : i < n) (hj : j < n) : Con g M_X7_isAhead [.ref 63, .int (nI i), .int (nI j)] D (fun a D' => a = some (.int (nI (md_ah n p s (D.1 64 1) i j))) ∧ md_kp D D' ∧ md_laid (n + 1) p s D') := by
  refine Con.of pn_X7_isAhead (Nat.le_of_ble_eq_true rfl) ?_
  refine wp_aload_n dX7_isAhead_0 rfl rfl ?_
  refine wp_iload_n dX7_isAhead_1 rfl rfl ?_
  refine wp_iload_n dX7_isAhead_2 rfl rfl ?_
  refine wp_callV (M2 := M_X7_difference) (n := 2) (As := [.int (nI i), .int (nI j)]) (st := []) dX7_isAhead_3 (c_diff g D i j (by omega) (by omega)) ca_X7_186 ⟨nm_X7_difference, by decide, by decide⟩ rfl (by decide) rfl rfl rfl (Nat.le_of_ble_eq_true rfl) (fun r1 E2 q3 => ?_)
  obtain ⟨rfl, p4, l5, f6, g7, o8⟩ := q3
  show WP g _ _ _ _ _ _
  have la9 := l5 _ _ _ hl
  refine wp_aload_n dX7_isAhead_6 rfl rfl ?_
  refine wp_callV (M2 := M_X7_isKnown) (n := 0) (As := []) (st := []) dX7_isAhead_7 (c_kn g E2 (n + 1) p s (sr_dform i j) (by omega) la9 f6 hgood) ca_X7_189 ⟨nm_X7_isKnown, by decide, by decide⟩ rfl (by decide) rfl rfl rfl (Nat.le_of_ble_eq_true rfl) (fun r10 E11 q12 => ?_)
  obtain ⟨rfl, aft22⟩ := q12
  obtain ⟨p13, la14, f15, x16, y17, z18, rk19, by20, sv21⟩ := id aft22
  have hf23 : ∀ z9, z9 < 7 → E11.1 67 z9 = (sr_dform i j) z9 := fun z9 hz9 => by rw [f15]; exact f6 z9 hz9
  show WP g _ _ _ (.int (sr_b (md_kn (n + 1) p (sr_l (sr_dform i j)))) :: _) _ _
  refine wp_if_eq_b (tgt := 22) dX7_isAhead_10 (by decide) (fun c24 => ?_) (fun c24 => ?_)
  · have hk := c24
    refine wp_iconst (v := nI 0) dX7_isAhead_22 rfl ?_
    refine wp_iret dX7_isAhead_23 rfl ⟨?_, ((md_kp.rf).tr (md_kp_f p4 g7 o8)).tr (md_kp_a aft22), la14⟩
    unfold md_ah
    rw [if_neg (fun z => by first | exact hv z.2 | (rw [hk] at z; cases z.1))]
  · have hk := c24
    refine wp_aload_n dX7_isAhead_13 rfl rfl ?_
    refine wp_callV (M2 := M_X7_value) (n := 0) (As := []) (st := []) dX7_isAhead_14 (c_val g E11 (n + 1) p s (sr_l (sr_dform i j)) (by omega) la14 sv21) ca_X7_192 ⟨nm_X7_value, by decide, by decide⟩ rfl (by decide) rfl rfl rfl (Nat.le_of_ble_eq_true rfl) (fun r25 E26 q27 => ?_)
    obtain ⟨rfl, rfl⟩ := q27
    show WP g _ _ _ (.long (md_val (n + 1) p s (sr_l (sr_dform i j))) :: _) _ _
    refine wp_lconst (v := 0) dX7_isAhead_17 rfl ?_
    refine wp_lcmp_gt (tgt := 24) dX7_isAhead_18 dX7_isAhead_19 (by decide) (fun c28 => ?_) (fun c28 => ?_)
    · have hv := c28
      refine wp_aload_n dX7_isAhead_24 rfl rfl ?_
      refine wp_callV (M2 := M_X7_value) (n := 0) (As := []) (st := []) dX7_isAhead_25 (c_val g E11 (n + 1) p s (sr_l (sr_dform i j)) (by omega) la14 sv21) ca_X7_192 ⟨nm_X7_value, by decide, by decide⟩ rfl (by decide) rfl rfl rfl (Nat.le_of_ble_eq_true rfl) (fun r29 E30 q31 => ?_)
      obtain ⟨rfl, rfl⟩ := q31
      show WP g _ _ _ (.long (md_val (n + 1) p s (sr_l (sr_dform i j))) :: _) _ _
      refine wp_aload_n dX7_isAhead_28 rfl rfl ?_
      refine wp_getR (r := 64) dX7_isAhead_29 fl_X7_7 (by decide) rfl rfl rfl ?_
      refine wp_iconst (v := nI 1) dX7_isAhead_32 rfl ?_
      refine wp_iald dX7_isAhead_33 (by decide) rfl (by decide) (by first | omega | (split <;> omega)) ?_
      rw [congrFun ((((sr_per.rf).tr p4).tr p13).n64) 1]
      refine wp_i2l dX7_isAhead_34 ?_
      refine wp_aload_n dX7_isAhead_35 rfl rfl ?_
      refine wp_callV (M2 := M_X7_doubt) (n := 0) (As := []) (st := [.long ((D.1 64 1).toInt64), .long (md_val (n + 1) p s (sr_l (sr_dform i j)))]) dX7_isAhead_36 (c_dou g E11 (n + 1) p s (sr_l (sr_dform i j)) (by omega) la14 sv21 (fun z9 hz9 => by rw [hf23 z9 hz9]; rfl)) ca_X7_199 ⟨nm_X7_doubt, by decide, by decide⟩ rfl (by decide) rfl rfl rfl (Nat.le_of_ble_eq_true rfl) (fun r32 E33 q34 => ?_)
      obtain ⟨rfl, rfl⟩ := q34
      show WP g _ _ _ (.long (md_dou (n + 1) p (sr_l (sr_dform i j))) :: _) _ _
      refine wp_lmul dX7_isAhead_39 ?_
      refine wp_lcmp_le (tgt := 48) dX7_isAhead_40 dX7_isAhead_41 (by decide) (fun c35 => ?_) (fun c35 => ?_)
      · have hs := c35
        refine wp_iconst (v := nI 1) dX7_isAhead_48 rfl ?_
        refine wp_iret dX7_isAhead_49 rfl ⟨?_, ((md_kp.rf).tr (md_kp_f p4 g7 o8)).tr (md_kp_a aft22), la14⟩
        unfold md_ah
        rw [if_pos ⟨hk, hv⟩, if_neg (by rw [Int64.lt_iff_toInt_lt]; rw [Int64.le_iff_toInt_le] at hs; omega)]
      · have hs := c35
        refine wp_iconst (v := nI 2) dX7_isAhead_44 rfl ?_
        refine wp_goto (tgt := 49) dX7_isAhead_45 (by decide) ?_
        refine wp_iret dX7_isAhead_49 rfl ⟨?_, ((md_kp.rf).tr (md_kp_f p4 g7 o8)).tr (md_kp_a aft22), la14⟩
        unfold md_ah
        rw [if_pos ⟨hk, hv⟩, if_pos (by rw [Int64.lt_iff_toInt_lt]; rw [Int64.le_iff_toInt_le] at hs; omega)]
    · have hv := c28
      refine wp_iconst (v := nI 0) dX7_isAhead_22 rfl ?_
      refine wp_iret dX7_isAhead_23 rfl ⟨?_, ((md_kp.rf).tr (md_kp_f p4 g7 o8)).tr (md_kp_a aft22), la14⟩
      unfold md_ah
      rw [if_neg (fun z => by first | exact hv z.2 | (rw [hk] at z; cases z.1))]
/-- the group of i among the first m -/
def md_gr (n : Nat) (p : Nat → Int64) (i : Nat) : Nat → Nat
  | 0 => 0
  | m + 1 => md_gr n p i m ||| (if md_kn (n + 1) p (sr_l (sr_dform i m)) = true then 1 * 2 ^ m else 0)
theorem md_gr_lt {n : Nat} {p : Nat → Int64} {i : Nat} : ∀ m, md_gr n p i m < 2 ^ m
  | 0 => Nat.zero_lt_one
  | m + 1 => by
    have h := md_gr_lt (n := n) (p := p) (i := i) m
    show md_gr n p i m ||| _ < _
    refine sr_or_lt (Nat.lt_of_lt_of_le h (Nat.pow_le_pow_right (by decide) (Nat.le_succ m))) ?_
    split
    · rw [Nat.one_mul]; exact Nat.pow_lt_pow_right (by decide) (Nat.lt_succ_self m)
    · exact Nat.two_pow_pos _
set_option maxHeartbeats 4000000 in
set_option maxRecDepth 100000 in
theorem c_X7_groupOf (g : sr_G) (D : sr_St) (n : Nat) (hn : D.1 64 0 = nI n) (hn6 : n ≤ 6) (p s : Nat → Int64) (hl : md_laid (n + 1) p s D) (hgood : md_good (n + 1) p) (i : Nat) (hi : i < n) : Con g M_X7_groupOf [.ref 63, .int (nI i)] D (fun a D' => a = some (.int (nI (md_gr n p i n))) ∧ md_kp D D' ∧ md_laid (n + 1) p s D') := by
  refine Con.of pn_X7_groupOf (Nat.le_of_ble_eq_true rfl) ?_
  show WP g M_X7_groupOf 0 [(0, .ref 63), (1, .int (nI i))] [] D _
  have hL : ∀ m, m ≤ n → ∀ E : sr_St, md_kp D E → md_laid (n + 1) p s E → WP g M_X7_groupOf 4 [(0, .ref 63), (1, .int (nI i)), (2, .int (nI (md_gr n p i m))), (3, .int (nI m))] [] E (fun a D' => a = some (.int (nI (md_gr n p i n))) ∧ md_kp D D' ∧ md_laid (n + 1) p s D') := by
    refine sr_up (fun m hm ih E hk hl => ?_)
    refine wp_iload_n dX7_groupOf_4 rfl rfl ?_
    refine wp_aload_n dX7_groupOf_5 rfl rfl ?_
    refine wp_callV (M2 := M_X7_n) (n := 0) (As := []) (st := [.int (nI m)]) dX7_groupOf_6 (c_X7_n_n g E n (by rw [(hk.1).n64]; exact hn)) ca_X7_46 ⟨nm_X7_n, by decide, by decide⟩ rfl (by decide) rfl rfl rfl (Nat.le_of_ble_eq_true rfl) (fun r36 E37 q38 => ?_)
    obtain ⟨rfl, rfl⟩ := q38
    show WP g _ _ _ (.int (nI n) :: _) _ _
    refine wp_icmp_ge_n (tgt := 41) dX7_groupOf_9 (by decide) (by first | omega | (split <;> omega)) (by first | omega | (split <;> omega)) (fun c39 => ?_) (fun c39 => ?_)
    · refine wp_iload_n dX7_groupOf_41 rfl rfl ?_
      have hmn : m = n := by omega
      subst hmn
      exact wp_iret dX7_groupOf_42 rfl ⟨rfl, hk, hl⟩
    · refine wp_aload_n dX7_groupOf_12 rfl rfl ?_
      refine wp_iload_n dX7_groupOf_13 rfl rfl ?_
      refine wp_iload_n dX7_groupOf_14 rfl rfl ?_
      refine wp_callV (M2 := M_X7_difference) (n := 2) (As := [.int (nI i), .int (nI m)]) (st := []) dX7_groupOf_15 (c_diff g E i m (by omega) (by omega)) ca_X7_186 ⟨nm_X7_difference, by decide, by decide⟩ rfl (by decide) rfl rfl rfl (Nat.le_of_ble_eq_true rfl) (fun r40 E41 q42 => ?_)
      obtain ⟨rfl, p43, l44, f45, g46, o47⟩ := q42
      show WP g _ _ _ _ _ _
      have la48 := l44 _ _ _ hl
      refine wp_iload_n dX7_groupOf_18 rfl rfl ?_
      refine wp_aload_n dX7_groupOf_19 rfl rfl ?_
      refine wp_callV (M2 := M_X7_isKnown) (n := 0) (As := []) (st := [.int (nI (md_gr n p i m))]) dX7_groupOf_20 (c_kn g E41 (n + 1) p s (sr_dform i m) (by omega) la48 f45 hgood) ca_X7_189 ⟨nm_X7_isKnown, by decide, by decide⟩ rfl (by decide) rfl rfl rfl (Nat.le_of_ble_eq_true rfl) (fun r49 E50 q51 => ?_)
      obtain ⟨rfl, aft61⟩ := q51
      obtain ⟨p52, la53, f54, x55, y56, z57, rk58, by59, sv60⟩ := id aft61
      have hf62 : ∀ z9, z9 < 7 → E50.1 67 z9 = (sr_dform i m) z9 := fun z9 hz9 => by rw [f54]; exact f45 z9 hz9
      show WP g _ _ _ (.int (sr_b (md_kn (n + 1) p (sr_l (sr_dform i m)))) :: _) _ _
      refine wp_if_eq_b (tgt := 32) dX7_groupOf_23 (by decide) (fun c63 => ?_) (fun c63 => ?_)
      · have hkn := c63
        refine wp_iconst (v := nI 0) dX7_groupOf_32 rfl ?_
        refine wp_ior_n dX7_groupOf_33 ?_
        refine wp_istore_n (lv' := [(0, .ref 63), (1, .int (nI i)), (2, .int (nI ((md_gr n p i m) ||| 0))), (3, .int (nI m))]) dX7_groupOf_34 rfl (by decide) rfl ?_
        refine wp_iinc_n (b := 1) (lv' := [(0, .ref 63), (1, .int (nI i)), (2, .int (nI ((md_gr n p i m) ||| 0))), (3, .int (nI (m + 1)))]) dX7_groupOf_35 rfl rfl (by decide) rfl ?_
        refine wp_goto (tgt := 4) dX7_groupOf_38 (by decide) ?_
        have h := ih (by omega) E50 (((hk).tr (md_kp_f p43 g46 o47)).tr (md_kp_a aft61)) la53
        rw [show md_gr n p i (m + 1) = md_gr n p i m ||| (if md_kn (n + 1) p (sr_l (sr_dform i m)) = true then 1 * 2 ^ m else 0) from rfl] at h
        rw [if_neg (by rw [hkn]; decide)] at h
        exact h
      · have hkn := c63
        refine wp_iconst (v := nI 1) dX7_groupOf_26 rfl ?_
        refine wp_iload_n dX7_groupOf_27 rfl rfl ?_
        refine wp_ishl_n dX7_groupOf_28 (by omega) (sr_pw1 (by omega)) ?_
        refine wp_goto (tgt := 33) dX7_groupOf_29 (by decide) ?_
        refine wp_ior_n dX7_groupOf_33 ?_
        refine wp_istore_n (lv' := [(0, .ref 63), (1, .int (nI i)), (2, .int (nI ((md_gr n p i m) ||| (1 * 2 ^ m)))), (3, .int (nI m))]) dX7_groupOf_34 rfl (by decide) rfl ?_
        refine wp_iinc_n (b := 1) (lv' := [(0, .ref 63), (1, .int (nI i)), (2, .int (nI ((md_gr n p i m) ||| (1 * 2 ^ m)))), (3, .int (nI (m + 1)))]) dX7_groupOf_35 rfl rfl (by decide) rfl ?_
        refine wp_goto (tgt := 4) dX7_groupOf_38 (by decide) ?_
        have h := ih (by omega) E50 (((hk).tr (md_kp_f p43 g46 o47)).tr (md_kp_a aft61)) la53
        rw [show md_gr n p i (m + 1) = md_gr n p i m ||| (if md_kn (n + 1) p (sr_l (sr_dform i m)) = true then 1 * 2 ^ m else 0) from rfl] at h
        rw [if_pos hkn] at h
        exact h
  refine wp_iconst (v := nI 0) dX7_groupOf_0 rfl ?_
  refine wp_istore_n (lv' := [(0, .ref 63), (1, .int (nI i)), (2, .int (nI 0))]) dX7_groupOf_1 rfl (by decide) rfl ?_
  refine wp_iconst (v := nI 0) dX7_groupOf_2 rfl ?_
  refine wp_istore_n (lv' := [(0, .ref 63), (1, .int (nI i)), (2, .int (nI 0)), (3, .int (nI 0))]) dX7_groupOf_3 rfl (by decide) rfl ?_
  exact hL 0 (by omega) D md_kp.rf hl
set_option maxHeartbeats 4000000 in
set_option maxRecDepth 100000 in
theorem c_X7_rankNow (g : sr_G) (D : sr_St) (n : Nat) (hn : D.1 64 0 = nI n) (hn6 : n ≤ 6) (p s : Nat → Int64) (hl : md_laid (n + 1) p s D) (hgood : md_good (n + 1) p) : Con g M_X7_rankNow [.ref 63] D (fun a D' => a = some (.int (if md_kn (n + 1) p (sr_l (fun _ => nI 0)) = true then nI (md_rk (n + 1) p (sr_l (fun _ => nI 0))) else nI 0)) ∧ md_kp D D' ∧ md_laid (n + 1) p s D') := by
  refine Con.of pn_X7_rankNow (Nat.le_of_ble_eq_true rfl) ?_
  refine wp_aload_n dX7_rankNow_0 rfl rfl ?_
  refine wp_callV (M2 := M_X7_clearsForm) (n := 0) (As := []) (st := []) dX7_rankNow_1 (c_clr g D) ca_X7_143 ⟨nm_X7_clearsForm, by decide, by decide⟩ rfl (by decide) rfl rfl rfl (Nat.le_of_ble_eq_true rfl) (fun r64 E65 q66 => ?_)
  obtain ⟨rfl, p67, l68, f69, g70, o71⟩ := q66
  show WP g _ _ _ _ _ _
  have la72 := l68 _ _ _ hl
  refine wp_aload_n dX7_rankNow_4 rfl rfl ?_
  refine wp_callV (M2 := M_X7_isKnown) (n := 0) (As := []) (st := []) dX7_rankNow_5 (c_kn g E65 (n + 1) p s (fun _ => nI 0) (by omega) la72 f69 hgood) ca_X7_189 ⟨nm_X7_isKnown, by decide, by decide⟩ rfl (by decide) rfl rfl rfl (Nat.le_of_ble_eq_true rfl) (fun r73 E74 q75 => ?_)
  obtain ⟨rfl, aft85⟩ := q75
  obtain ⟨p76, la77, f78, x79, y80, z81, rk82, by83, sv84⟩ := id aft85
  have hf86 : ∀ z9, z9 < 7 → E74.1 67 z9 = (fun _ => nI 0) z9 := fun z9 hz9 => by rw [f78]; exact f69 z9 hz9
  show WP g _ _ _ (.int (sr_b (md_kn (n + 1) p (sr_l (fun _ => nI 0)))) :: _) _ _
  refine wp_istore_n (lv' := [(0, .ref 63), (1, .int (sr_b (md_kn (n + 1) p (sr_l (fun _ => nI 0)))))]) dX7_rankNow_8 rfl (by decide) rfl ?_
  refine wp_iload_n dX7_rankNow_9 rfl rfl ?_
  refine wp_if_eq_b (tgt := 20) dX7_rankNow_10 (by decide) (fun c87 => ?_) (fun c87 => ?_)
  · have hk := c87
    refine wp_iconst (v := nI 0) dX7_rankNow_20 rfl ?_
    refine wp_iret dX7_rankNow_21 rfl ⟨?_, ((md_kp.rf).tr (md_kp_f p67 g70 o71)).tr (md_kp_a aft85), la77⟩
    rw [if_neg (by rw [hk]; decide)]
  · have hk := c87
    refine wp_aload_n dX7_rankNow_13 rfl rfl ?_
    refine wp_getI dX7_rankNow_14 fl_X7_156 (by decide) rfl rfl ?_
    rw [rk82]
    refine wp_goto (tgt := 21) dX7_rankNow_17 (by decide) ?_
    refine wp_iret dX7_rankNow_21 rfl ⟨?_, ((md_kp.rf).tr (md_kp_f p67 g70 o71)).tr (md_kp_a aft85), la77⟩
    rw [if_pos hk]
def md_gs (n : Nat) (p : Nat → Int64) : Nat → Nat
  | 0 => 0
  | m + 1 => md_gs n p m + (if md_gr n p m n % (1 * 2 ^ m) = 0 then 1 else 0)
set_option maxHeartbeats 4000000 in
set_option maxRecDepth 100000 in
theorem c_X7_groups (g : sr_G) (D : sr_St) (n : Nat) (hn : D.1 64 0 = nI n) (hn6 : n ≤ 6) (p s : Nat → Int64) (hl : md_laid (n + 1) p s D) (hgood : md_good (n + 1) p) : Con g M_X7_groups [.ref 63] D (fun a D' => a = some (.int (nI (md_gs n p n))) ∧ md_kp D D' ∧ md_laid (n + 1) p s D') := by
  refine Con.of pn_X7_groups (Nat.le_of_ble_eq_true rfl) ?_
  show WP g M_X7_groups 0 [(0, .ref 63)] [] D _
  have hL : ∀ m, m ≤ n → ∀ E : sr_St, md_kp D E → md_laid (n + 1) p s E → WP g M_X7_groups 4 [(0, .ref 63), (1, .int (nI (md_gs n p m))), (2, .int (nI m))] [] E (fun a D' => a = some (.int (nI (md_gs n p n))) ∧ md_kp D D' ∧ md_laid (n + 1) p s D') := by
    refine sr_up (fun m hm ih E hk hl => ?_)
    have hpw := sr_pw (show m ≤ 6 by omega)
    have hg6 := md_gr_lt (n := n) (p := p) (i := m) n
    have hpn := sr_pw hn6
    have hpp := Nat.two_pow_pos m
    refine wp_iload_n dX7_groups_4 rfl rfl ?_
    refine wp_aload_n dX7_groups_5 rfl rfl ?_
    refine wp_callV (M2 := M_X7_n) (n := 0) (As := []) (st := [.int (nI m)]) dX7_groups_6 (c_X7_n_n g E n (by rw [(hk.1).n64]; exact hn)) ca_X7_46 ⟨nm_X7_n, by decide, by decide⟩ rfl (by decide) rfl rfl rfl (Nat.le_of_ble_eq_true rfl) (fun r88 E89 q90 => ?_)
    obtain ⟨rfl, rfl⟩ := q90
    show WP g _ _ _ (.int (nI n) :: _) _ _
    refine wp_icmp_ge_n (tgt := 38) dX7_groups_9 (by decide) (by first | omega | (split <;> omega)) (by first | omega | (split <;> omega)) (fun c91 => ?_) (fun c91 => ?_)
    · refine wp_iload_n dX7_groups_38 rfl rfl ?_
      have hmn : m = n := by omega
      subst hmn
      exact wp_iret dX7_groups_39 rfl ⟨rfl, hk, hl⟩
    · refine wp_iload_n dX7_groups_12 rfl rfl ?_
      refine wp_aload_n dX7_groups_13 rfl rfl ?_
      refine wp_iload_n dX7_groups_14 rfl rfl ?_
      refine wp_callV (M2 := M_X7_groupOf) (n := 1) (As := [.int (nI m)]) (st := [.int (nI (md_gs n p m))]) dX7_groups_15 (c_X7_groupOf g E n (by rw [(hk.1).n64]; exact hn) hn6 p s hl hgood m (by omega)) ca_X7_212 ⟨nm_X7_groupOf, by decide, by decide⟩ rfl (by decide) rfl rfl rfl (Nat.le_of_ble_eq_true rfl) (fun r92 E93 q94 => ?_)
      obtain ⟨rfl, kp95, la96⟩ := q94
      show WP g _ _ _ (.int (nI (md_gr n p m n)) :: _) _ _
      refine wp_iconst (v := nI 1) dX7_groups_18 rfl ?_
      refine wp_iload_n dX7_groups_19 rfl rfl ?_
      refine wp_ishl_n dX7_groups_20 (by omega) (sr_pw1 (by omega)) ?_
      refine wp_irem_n dX7_groups_21 (by omega) (by omega) (by omega) ?_
      refine wp_if_ne_n (tgt := 29) dX7_groups_22 (by decide) (by have := Nat.mod_lt (md_gr n p m n) (show 0 < 1 * 2 ^ m by omega); omega) (fun c97 => ?_) (fun c97 => ?_)
      · have hz := c97
        refine wp_iconst (v := nI 0) dX7_groups_29 rfl ?_
        refine wp_iadd_n dX7_groups_30 ?_
        refine wp_istore_n (lv' := [(0, .ref 63), (1, .int (nI ((md_gs n p m) + 0))), (2, .int (nI m))]) dX7_groups_31 rfl (by decide) rfl ?_
        refine wp_iinc_n (b := 1) (lv' := [(0, .ref 63), (1, .int (nI ((md_gs n p m) + 0))), (2, .int (nI (m + 1)))]) dX7_groups_32 rfl rfl (by decide) rfl ?_
        refine wp_goto (tgt := 4) dX7_groups_35 (by decide) ?_
        have h := ih (by omega) E93 ((hk).tr kp95) la96
        rw [show md_gs n p (m + 1) = md_gs n p m + (if md_gr n p m n % (1 * 2 ^ m) = 0 then 1 else 0) from rfl] at h
        rw [if_neg hz] at h
        exact h
      · have hz := c97
        refine wp_iconst (v := nI 1) dX7_groups_25 rfl ?_
        refine wp_goto (tgt := 30) dX7_groups_26 (by decide) ?_
        refine wp_iadd_n dX7_groups_30 ?_
        refine wp_istore_n (lv' := [(0, .ref 63), (1, .int (nI ((md_gs n p m) + 1))), (2, .int (nI m))]) dX7_groups_31 rfl (by decide) rfl ?_
        refine wp_iinc_n (b := 1) (lv' := [(0, .ref 63), (1, .int (nI ((md_gs n p m) + 1))), (2, .int (nI (m + 1)))]) dX7_groups_32 rfl rfl (by decide) rfl ?_
        refine wp_goto (tgt := 4) dX7_groups_35 (by decide) ?_
        have h := ih (by omega) E93 ((hk).tr kp95) la96
        rw [show md_gs n p (m + 1) = md_gs n p m + (if md_gr n p m n % (1 * 2 ^ m) = 0 then 1 else 0) from rfl] at h
        rw [if_pos hz] at h
        exact h
  refine wp_iconst (v := nI 0) dX7_groups_0 rfl ?_
  refine wp_istore_n (lv' := [(0, .ref 63), (1, .int (nI 0))]) dX7_groups_1 rfl (by decide) rfl ?_
  refine wp_iconst (v := nI 0) dX7_groups_2 rfl ?_
  refine wp_istore_n (lv' := [(0, .ref 63), (1, .int (nI 0)), (2, .int (nI 0))]) dX7_groups_3 rfl (by decide) rfl ?_
  exact hL 0 (by omega) D md_kp.rf hl
/-- couples known, and their doubts together: of the first i, and those of i with the ones below j -/
def md_cp (n : Nat) (p : Nat → Int64) (i : Nat) : Nat → Nat × Int64 → Nat × Int64
  | 0, a => a
  | k + 1, a => if md_kn (n + 1) p (sr_l (sr_dform i (i + 1 + k))) = true then ((md_cp n p i k a).1 + 1, (md_cp n p i k a).2 + md_dou (n + 1) p (sr_l (sr_dform i (i + 1 + k)))) else md_cp n p i k a
def md_cs (n : Nat) (p : Nat → Int64) : Nat → Nat × Int64
  | 0 => (0, 0)
  | i + 1 => md_cp n p i (n - (i + 1)) (md_cs n p i)
theorem md_kp_20 {E : sr_St} {v : Int64} : md_kp E (sr_sJ E 63 20 v) := ⟨⟨fun o a b c d => rfl, fun k a b c d e f => rfl, fun o a b c d e => by simp [sr_sJ, a]⟩, rfl, fun k _ => rfl, fun k a b => by rw [sr_sJ_2, if_neg (fun z => b z.2)]⟩
theorem md_laid_20 {w : Nat} {p s : Nat → Int64} {E : sr_St} {k : Nat} {v : Int64} (h : md_laid w p s E) : md_laid w p s (sr_sJ E 63 k v) := ⟨h.1, fun j hj => by rw [sr_sJ_2, if_neg (by omega)]; exact h.2.1 j hj, fun j hj => by rw [sr_sJ_2, if_neg (by omega)]; exact h.2.2 j hj⟩
set_option maxHeartbeats 4000000 in
set_option maxRecDepth 100000 in
theorem c_X7_couples (g : sr_G) (D : sr_St) (n : Nat) (hn : D.1 64 0 = nI n) (hn6 : n ≤ 6) (p s : Nat → Int64) (hl : md_laid (n + 1) p s D) (hgood : md_good (n + 1) p) (hz : md_kn (n + 1) p (sr_l (fun _ => nI 0)) = true) : Con g M_X7_couples [.ref 63] D (fun a D' => a = some (.int (nI (md_cs n p n).1)) ∧ md_kp D D' ∧ md_laid (n + 1) p s D' ∧ D'.2 63 20 = (md_cs n p n).2 ∧ ∃ f, D'.2 63 17 = md_by (n + 1) p f) := by
  refine Con.of pn_X7_couples (Nat.le_of_ble_eq_true rfl) ?_
  show WP g M_X7_couples 0 [(0, .ref 63)] [] D _
  have hL : ∀ i, i ≤ n → ∀ E : sr_St, md_kp D E → md_laid (n + 1) p s E → E.2 63 20 = (md_cs n p i).2 → (∃ f, E.2 63 17 = md_by (n + 1) p f) → WP g M_X7_couples 18 [(0, .ref 63), (1, .int (nI (md_cs n p i).1)), (2, .int (sr_b (md_kn (n + 1) p (sr_l (fun _ => nI 0))))), (3, .int (nI i))] [] E (fun a D' => a = some (.int (nI (md_cs n p n).1)) ∧ md_kp D D' ∧ md_laid (n + 1) p s D' ∧ D'.2 63 20 = (md_cs n p n).2 ∧ ∃ f, D'.2 63 17 = md_by (n + 1) p f) := by
    refine sr_up (fun i hi ih E hk hl hd hb => ?_)
    have h83 : i < n → ∀ E : sr_St, md_kp D E → md_laid (n + 1) p s E → E.2 63 20 = (md_cs n p (i + 1)).2 → (∃ f, E.2 63 17 = md_by (n + 1) p f) → WP g M_X7_couples 83 [(0, .ref 63), (1, .int (nI (md_cs n p (i + 1)).1)), (2, .int (sr_b (md_kn (n + 1) p (sr_l (fun _ => nI 0))))), (3, .int (nI i))] [] E (fun a D' => a = some (.int (nI (md_cs n p n).1)) ∧ md_kp D D' ∧ md_laid (n + 1) p s D' ∧ D'.2 63 20 = (md_cs n p n).2 ∧ ∃ f, D'.2 63 17 = md_by (n + 1) p f) := by
      intro hin E hk hl hd hb
      refine wp_iinc_n (b := 1) (lv' := [(0, .ref 63), (1, .int (nI ((md_cs n p (i + 1)).1))), (2, .int (sr_b (md_kn (n + 1) p (sr_l (fun _ => nI 0))))), (3, .int (nI (i + 1)))]) dX7_couples_83 rfl rfl (by decide) rfl ?_
      refine wp_goto (tgt := 18) dX7_couples_86 (by decide) ?_
      exact ih (by omega) E hk hl hd hb
    have hI : i < n → ∀ k, k ≤ n - (i + 1) → ∀ E : sr_St, md_kp D E → md_laid (n + 1) p s E → E.2 63 20 = (md_cp n p i k (md_cs n p i)).2 → (∃ f, E.2 63 17 = md_by (n + 1) p f) → WP g M_X7_couples 35 [(0, .ref 63), (1, .int (nI (md_cp n p i k (md_cs n p i)).1)), (2, .int (sr_b (md_kn (n + 1) p (sr_l (fun _ => nI 0))))), (3, .int (nI i)), (4, .int (nI (i + 1 + k)))] [] E (fun a D' => a = some (.int (nI (md_cs n p n).1)) ∧ md_kp D D' ∧ md_laid (n + 1) p s D' ∧ D'.2 63 20 = (md_cs n p n).2 ∧ ∃ f, D'.2 63 17 = md_by (n + 1) p f) := by
      intro hin
      refine sr_up (fun k hkk ihk E hk hl hd hb => ?_)
      refine wp_iload dX7_couples_35 rfl ?_
      refine wp_aload_n dX7_couples_37 rfl rfl ?_
      refine wp_callV (M2 := M_X7_n) (n := 0) (As := []) (st := [.int (nI (i + 1 + k))]) dX7_couples_38 (c_X7_n_n g E n (by rw [(hk.1).n64]; exact hn)) ca_X7_46 ⟨nm_X7_n, by decide, by decide⟩ rfl (by decide) rfl rfl rfl (Nat.le_of_ble_eq_true rfl) (fun r98 E99 q100 => ?_)
      obtain ⟨rfl, rfl⟩ := q100
      show WP g _ _ _ (.int (nI n) :: _) _ _
      refine wp_icmp_ge_n (tgt := 83) dX7_couples_41 (by decide) (by first | omega | (split <;> omega)) (by first | omega | (split <;> omega)) (fun c101 => ?_) (fun c101 => ?_)
      · have hke : k = n - (i + 1) := by omega
        subst hke
        exact wp_pick [0, 1, 2, 3] rfl (h83 hin E hk hl hd hb)
      · refine wp_aload_n dX7_couples_44 rfl rfl ?_
        refine wp_iload_n dX7_couples_45 rfl rfl ?_
        refine wp_iload dX7_couples_46 rfl ?_
        refine wp_callV (M2 := M_X7_difference) (n := 2) (As := [.int (nI i), .int (nI (i + 1 + k))]) (st := []) dX7_couples_48 (c_diff g E i (i + 1 + k) (by omega) (by omega)) ca_X7_186 ⟨nm_X7_difference, by decide, by decide⟩ rfl (by decide) rfl rfl rfl (Nat.le_of_ble_eq_true rfl) (fun r102 E103 q104 => ?_)
        obtain ⟨rfl, p105, l106, f107, g108, o109⟩ := q104
        show WP g _ _ _ _ _ _
        have la110 := l106 _ _ _ hl
        have j111 : E103.2 63 20 = (md_cp n p i k (md_cs n p i)).2 := by rw [g108]; exact hd
        refine wp_aload_n dX7_couples_51 rfl rfl ?_
        refine wp_callV (M2 := M_X7_isKnown) (n := 0) (As := []) (st := []) dX7_couples_52 (c_kn g E103 (n + 1) p s (sr_dform i (i + 1 + k)) (by omega) la110 f107 hgood) ca_X7_189 ⟨nm_X7_isKnown, by decide, by decide⟩ rfl (by decide) rfl rfl rfl (Nat.le_of_ble_eq_true rfl) (fun r112 E113 q114 => ?_)
        obtain ⟨rfl, aft124⟩ := q114
        obtain ⟨p115, la116, f117, x118, y119, z120, rk121, by122, sv123⟩ := id aft124
        have hf125 : ∀ z9, z9 < 7 → E113.1 67 z9 = (sr_dform i (i + 1 + k)) z9 := fun z9 hz9 => by rw [f117]; exact f107 z9 hz9
        show WP g _ _ _ (.int (sr_b (md_kn (n + 1) p (sr_l (sr_dform i (i + 1 + k))))) :: _) _ _
        have j126 : E113.2 63 20 = (md_cp n p i k (md_cs n p i)).2 := by rw [z120 20 (by decide)]; exact j111
        refine wp_if_ne_b (tgt := 61) dX7_couples_55 (by decide) (fun c127 => ?_) (fun c127 => ?_)
        · have hkn := c127
          refine wp_iinc_n (b := 1) (lv' := [(0, .ref 63), (1, .int (nI ((md_cp n p i k (md_cs n p i)).1 + 1))), (2, .int (sr_b (md_kn (n + 1) p (sr_l (fun _ => nI 0))))), (3, .int (nI i)), (4, .int (nI (i + 1 + k)))]) dX7_couples_61 rfl rfl (by decide) rfl ?_
          refine wp_aload_n dX7_couples_64 rfl rfl ?_
          refine wp_dup dX7_couples_65 rfl ?_
          refine wp_getJ dX7_couples_66 fl_X7_218 (by decide) rfl rfl ?_
          rw [j126]
          refine wp_aload_n dX7_couples_69 rfl rfl ?_
          refine wp_callV (M2 := M_X7_doubt) (n := 0) (As := []) (st := [.long ((md_cp n p i k (md_cs n p i)).2), .ref 63]) dX7_couples_70 (c_dou g E113 (n + 1) p s (sr_l (sr_dform i (i + 1 + k))) (by omega) la116 sv123 (fun z9 hz9 => by rw [hf125 z9 hz9]; rfl)) ca_X7_199 ⟨nm_X7_doubt, by decide, by decide⟩ rfl (by decide) rfl rfl rfl (Nat.le_of_ble_eq_true rfl) (fun r128 E129 q130 => ?_)
          obtain ⟨rfl, rfl⟩ := q130
          show WP g _ _ _ (.long (md_dou (n + 1) p (sr_l (sr_dform i (i + 1 + k)))) :: _) _ _
          refine wp_ladd dX7_couples_73 ?_
          refine wp_putJ dX7_couples_74 fl_X7_218 (by decide) rfl rfl ?_
          refine wp_D (fun D131 eD131 => ?_)
          have kp132 : md_kp E113 D131 := by rw [eD131]; exact md_kp_20
          have la133 : md_laid (n + 1) p s D131 := by rw [eD131]; exact md_laid_20 la116
          have by134 : D131.2 63 17 = md_by (n + 1) p (sr_l (sr_dform i (i + 1 + k))) := by rw [eD131, sr_sJ_2, if_neg (by decide)]; exact by122
          have j135 : D131.2 63 20 = ((md_cp n p i k (md_cs n p i)).2) + (md_dou (n + 1) p (sr_l (sr_dform i (i + 1 + k)))) := by rw [eD131, sr_sJ_2, if_pos ⟨rfl, rfl⟩]
          refine wp_iinc_n (b := 1) (lv' := [(0, .ref 63), (1, .int (nI ((md_cp n p i k (md_cs n p i)).1 + 1))), (2, .int (sr_b (md_kn (n + 1) p (sr_l (fun _ => nI 0))))), (3, .int (nI i)), (4, .int (nI (i + 1 + k + 1)))]) dX7_couples_77 rfl rfl (by decide) rfl ?_
          refine wp_goto (tgt := 35) dX7_couples_80 (by decide) ?_
          have h := ihk (by omega) D131 ((((hk).tr (md_kp_f p105 g108 o109)).tr (md_kp_a aft124)).tr kp132) la133
          rw [show md_cp n p i (k + 1) (md_cs n p i) = (if md_kn (n + 1) p (sr_l (sr_dform i (i + 1 + k))) = true then ((md_cp n p i k (md_cs n p i)).1 + 1, (md_cp n p i k (md_cs n p i)).2 + md_dou (n + 1) p (sr_l (sr_dform i (i + 1 + k)))) else md_cp n p i k (md_cs n p i)) from rfl] at h
          rw [if_pos hkn] at h
          exact h j135 ⟨_, by134⟩
        · have hkn := c127
          refine wp_goto (tgt := 77) dX7_couples_58 (by decide) ?_
          refine wp_iinc_n (b := 1) (lv' := [(0, .ref 63), (1, .int (nI ((md_cp n p i k (md_cs n p i)).1))), (2, .int (sr_b (md_kn (n + 1) p (sr_l (fun _ => nI 0))))), (3, .int (nI i)), (4, .int (nI (i + 1 + k + 1)))]) dX7_couples_77 rfl rfl (by decide) rfl ?_
          refine wp_goto (tgt := 35) dX7_couples_80 (by decide) ?_
          have h := ihk (by omega) E113 (((hk).tr (md_kp_f p105 g108 o109)).tr (md_kp_a aft124)) la116
          rw [show md_cp n p i (k + 1) (md_cs n p i) = (if md_kn (n + 1) p (sr_l (sr_dform i (i + 1 + k))) = true then ((md_cp n p i k (md_cs n p i)).1 + 1, (md_cp n p i k (md_cs n p i)).2 + md_dou (n + 1) p (sr_l (sr_dform i (i + 1 + k)))) else md_cp n p i k (md_cs n p i)) from rfl] at h
          rw [if_neg (by rw [hkn]; decide)] at h
          exact h j126 ⟨_, by122⟩
    refine wp_iload_n dX7_couples_18 rfl rfl ?_
    refine wp_aload_n dX7_couples_19 rfl rfl ?_
    refine wp_callV (M2 := M_X7_n) (n := 0) (As := []) (st := [.int (nI i)]) dX7_couples_20 (c_X7_n_n g E n (by rw [(hk.1).n64]; exact hn)) ca_X7_46 ⟨nm_X7_n, by decide, by decide⟩ rfl (by decide) rfl rfl rfl (Nat.le_of_ble_eq_true rfl) (fun r136 E137 q138 => ?_)
    obtain ⟨rfl, rfl⟩ := q138
    show WP g _ _ _ (.int (nI n) :: _) _ _
    refine wp_icmp_ge_n (tgt := 89) dX7_couples_23 (by decide) (by first | omega | (split <;> omega)) (by first | omega | (split <;> omega)) (fun c139 => ?_) (fun c139 => ?_)
    · refine wp_iload_n dX7_couples_89 rfl rfl ?_
      have hin : i = n := by omega
      subst hin
      exact wp_iret dX7_couples_90 rfl ⟨rfl, hk, hl, hd, hb⟩
    · refine wp_iload_n dX7_couples_26 rfl rfl ?_
      refine wp_if_eq_b (tgt := 89) dX7_couples_27 (by decide) (fun c140 => ?_) (fun c140 => ?_)
      · exact absurd hz (by rw [c140]; decide)
      · refine wp_iload_n dX7_couples_30 rfl rfl ?_
        refine wp_iconst (v := nI 1) dX7_couples_31 rfl ?_
        refine wp_iadd_n dX7_couples_32 ?_
        refine wp_istore (lv' := [(0, .ref 63), (1, .int (nI ((md_cs n p i).1))), (2, .int (sr_b (md_kn (n + 1) p (sr_l (fun _ => nI 0))))), (3, .int (nI i)), (4, .int (nI (i + 1)))]) dX7_couples_33 (by decide) rfl ?_
        exact hI (by omega) 0 (by omega) E hk hl hd hb
  refine wp_iconst (v := nI 0) dX7_couples_0 rfl ?_
  refine wp_istore_n (lv' := [(0, .ref 63), (1, .int (nI 0))]) dX7_couples_1 rfl (by decide) rfl ?_
  refine wp_aload_n dX7_couples_2 rfl rfl ?_
  refine wp_lconst (v := 0) dX7_couples_3 rfl ?_
  refine wp_putJ dX7_couples_4 fl_X7_218 (by decide) rfl rfl ?_
  refine wp_D (fun D141 eD141 => ?_)
  have kp142 : md_kp D D141 := by rw [eD141]; exact md_kp_20
  have la143 : md_laid (n + 1) p s D141 := by rw [eD141]; exact md_laid_20 hl
  have j145 : D141.2 63 20 = 0 := by rw [eD141, sr_sJ_2, if_pos ⟨rfl, rfl⟩]
  refine wp_aload_n dX7_couples_7 rfl rfl ?_
  refine wp_callV (M2 := M_X7_clearsForm) (n := 0) (As := []) (st := []) dX7_couples_8 (c_clr g D141) ca_X7_143 ⟨nm_X7_clearsForm, by decide, by decide⟩ rfl (by decide) rfl rfl rfl (Nat.le_of_ble_eq_true rfl) (fun r146 E147 q148 => ?_)
  obtain ⟨rfl, p149, l150, f151, g152, o153⟩ := q148
  show WP g _ _ _ _ _ _
  have la154 := l150 _ _ _ la143
  have j155 : E147.2 63 20 = 0 := by rw [g152]; exact j145
  refine wp_aload_n dX7_couples_11 rfl rfl ?_
  refine wp_callV (M2 := M_X7_isKnown) (n := 0) (As := []) (st := []) dX7_couples_12 (c_kn g E147 (n + 1) p s (fun _ => nI 0) (by omega) la154 f151 hgood) ca_X7_189 ⟨nm_X7_isKnown, by decide, by decide⟩ rfl (by decide) rfl rfl rfl (Nat.le_of_ble_eq_true rfl) (fun r156 E157 q158 => ?_)
  obtain ⟨rfl, aft168⟩ := q158
  obtain ⟨p159, la160, f161, x162, y163, z164, rk165, by166, sv167⟩ := id aft168
  have hf169 : ∀ z9, z9 < 7 → E157.1 67 z9 = (fun _ => nI 0) z9 := fun z9 hz9 => by rw [f161]; exact f151 z9 hz9
  show WP g _ _ _ (.int (sr_b (md_kn (n + 1) p (sr_l (fun _ => nI 0)))) :: _) _ _
  have j170 : E157.2 63 20 = 0 := by rw [z164 20 (by decide)]; exact j155
  refine wp_istore_n (lv' := [(0, .ref 63), (1, .int (nI 0)), (2, .int (sr_b (md_kn (n + 1) p (sr_l (fun _ => nI 0)))))]) dX7_couples_15 rfl (by decide) rfl ?_
  refine wp_iconst (v := nI 0) dX7_couples_16 rfl ?_
  refine wp_istore_n (lv' := [(0, .ref 63), (1, .int (nI 0)), (2, .int (sr_b (md_kn (n + 1) p (sr_l (fun _ => nI 0))))), (3, .int (nI 0))]) dX7_couples_17 rfl (by decide) rfl ?_
  exact hL 0 (by omega) E157 ((((md_kp.rf).tr kp142).tr (md_kp_f p149 g152 o153)).tr (md_kp_a aft168)) la160 j170 ⟨_, by166⟩
