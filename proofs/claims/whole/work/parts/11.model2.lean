theorem c_X7_n_n (g : sr_G) (D : sr_St) (n : Nat) (h : D.1 64 0 = nI n) : Con g M_X7_n [.ref 63] D (sr_ret (some (.int (nI n))) D) := by rw [← h]; exact c_X7_n g D
theorem c_X7_races_n (g : sr_G) (D : sr_St) (n : Nat) (h : D.1 64 2 = nI n) : Con g M_X7_races [.ref 63] D (sr_ret (some (.int (nI n))) D) := by rw [← h]; exact c_X7_races g D
set_option maxHeartbeats 4000000 in
set_option maxRecDepth 100000 in
theorem c_X7_isRower (g : sr_G) (D : sr_St) (i : Int32)  : Con g M_X7_isRower [.ref 63, .int i] D (sr_ret (some (.int (sr_b (sr_isIn i (nI 0) (D.1 64 0 - nI 1))))) D) := by
  refine Con.of pn_X7_isRower (Nat.le_of_ble_eq_true rfl) ?_
  show WP g M_X7_isRower 0 [(0, .ref 63), (1, .int i)] [] D _
  refine wp_iload_n dX7_isRower_0 rfl rfl ?_
  refine wp_iconst (v := nI 0) dX7_isRower_1 rfl ?_
  refine wp_aload_n dX7_isRower_2 rfl rfl ?_
  refine wp_callV (M2 := M_X7_n) (n := 0) (As := []) (st := [.int (nI 0), .int i]) dX7_isRower_3 (c_X7_n g D) ca_X7_46 ⟨nm_X7_n, by decide, by decide⟩ rfl (by decide) rfl rfl rfl (Nat.le_of_ble_eq_true rfl) (fun r1 E2 q3 => ?_)
  obtain ⟨rfl, rfl⟩ := q3
  show WP g _ _ _ (.int (D.1 64 0) :: _) _ _
  refine wp_iconst (v := nI 1) dX7_isRower_6 rfl ?_
  refine wp_isub dX7_isRower_7 ?_
  refine wp_callS (M2 := M_X7_isIn) (n := 3) (As := [.int i, .int (nI 0), .int ((D.1 64 0) - (nI 1))]) (st := []) dX7_isRower_8 (c_X7_isIn g D i (nI 0) ((D.1 64 0) - (nI 1))) ca_X7_50 ⟨nm_X7_isIn, by decide, by decide⟩ rfl rfl (Nat.le_of_ble_eq_true rfl) (fun r4 E5 q6 => ?_)
  obtain ⟨rfl, rfl⟩ := q6
  show WP g _ _ _ (.int (sr_b (sr_isIn i (nI 0) ((D.1 64 0) - (nI 1)))) :: _) _ _
  refine wp_zret dX7_isRower_11 rfl (sr_b01 _) ?_
  exact ⟨rfl, rfl⟩
/-- crews that can be, of n rowers -/
def sr_crewN (n x y : Nat) : Bool := decide (0 < x) && decide (0 < y) && decide (x < 2 ^ n) && decide (y < 2 ^ n) && decide (x &&& y = 0) && decide (sr_bits x = sr_bits y) && decide (sr_bits x ≤ 3)
def sr_crew (n : Nat) (a b : Int32) : Bool := !decide (a < 0) && !decide (b < 0) && sr_crewN n a.toNatClampNeg b.toNatClampNeg
theorem sr_cases (a : Int32) : a < 0 ∨ ∃ x, x < 2 ^ 31 ∧ a = nI x := (Decidable.em (a < 0)).imp id (fun h => nI_of h)
theorem sr_crew_n {n x y : Nat} (hx : x < 2 ^ 31) (hy : y < 2 ^ 31) : sr_crew n (nI x) (nI y) = sr_crewN n x y := by
  simp [sr_crew, nI_clamp hx, nI_clamp hy, nI_pos hx, nI_pos hy]
theorem sr_crew_a {n : Nat} {a b : Int32} (h : a < 0) : sr_crew n a b = false := by simp [sr_crew, h]
theorem sr_crew_b {n : Nat} {a b : Int32} (h : b < 0) : sr_crew n a b = false := by simp [sr_crew, h]
theorem sr_bits_le (x : Nat) : sr_bits x ≤ 31 := sr_pc_le 31 x
theorem sr_neg_le {a : Int32} (h : a < 0) : a ≤ 0 := by rw [Int32.lt_iff_toInt_lt] at h; rw [Int32.le_iff_toInt_le]; omega
set_option maxHeartbeats 4000000 in
set_option maxRecDepth 100000 in
theorem c_X7_areCrews (g : sr_G) (D : sr_St) (n : Nat) (hn : D.1 64 0 = nI n) (hn6 : n ≤ 6) (a b : Int32)  : Con g M_X7_areCrews [.ref 63, .int a, .int b] D (sr_ret (some (.int (sr_b (sr_crew n a b)))) D) := by
  refine Con.of pn_X7_areCrews (Nat.le_of_ble_eq_true rfl) ?_
  show WP g M_X7_areCrews 0 [(0, .ref 63), (1, .int a), (2, .int b)] [] D _
  rcases sr_cases a with ha | ⟨x, hx, rfl⟩
  · refine wp_iload_n dX7_areCrews_0 rfl rfl ?_
    refine wp_if_le (tgt := 57) dX7_areCrews_1 (by decide) (fun c7 => ?_) (fun c7 => ?_)
    · refine wp_iconst (v := nI 0) dX7_areCrews_57 rfl ?_
      exact wp_zret dX7_areCrews_58 rfl (Or.inl rfl) ⟨sr_bf (sr_crew_a ha), rfl⟩
    · exact absurd (sr_neg_le ha) c7
  rcases sr_cases b with hb | ⟨y, hy, rfl⟩
  · refine wp_iload_n dX7_areCrews_0 rfl rfl ?_
    refine wp_if_le_n (tgt := 57) dX7_areCrews_1 (by decide) (by omega) (fun c8 => ?_) (fun c8 => ?_)
    · refine wp_iconst (v := nI 0) dX7_areCrews_57 rfl ?_
      exact wp_zret dX7_areCrews_58 rfl (Or.inl rfl) ⟨sr_bf (sr_crew_b hb), rfl⟩
    · refine wp_iload_n dX7_areCrews_4 rfl rfl ?_
      refine wp_if_le (tgt := 57) dX7_areCrews_5 (by decide) (fun c9 => ?_) (fun c9 => ?_)
      · refine wp_iconst (v := nI 0) dX7_areCrews_57 rfl ?_
        exact wp_zret dX7_areCrews_58 rfl (Or.inl rfl) ⟨sr_bf (sr_crew_b hb), rfl⟩
      · exact absurd (sr_neg_le hb) c9
  refine wp_iload_n dX7_areCrews_0 rfl rfl ?_
  refine wp_if_le_n (tgt := 57) dX7_areCrews_1 (by decide) (by omega) (fun c10 => ?_) (fun c10 => ?_)
  · refine wp_iconst (v := nI 0) dX7_areCrews_57 rfl ?_
    refine wp_zret dX7_areCrews_58 rfl (Or.inl rfl) ?_
    exact ⟨sr_bf (by rw [sr_crew_n hx hy]; simp only [sr_crewN, Bool.and_eq_false_iff, decide_eq_false_iff_not]; omega), rfl⟩
  · refine wp_iload_n dX7_areCrews_4 rfl rfl ?_
    refine wp_if_le_n (tgt := 57) dX7_areCrews_5 (by decide) (by omega) (fun c11 => ?_) (fun c11 => ?_)
    · refine wp_iconst (v := nI 0) dX7_areCrews_57 rfl ?_
      refine wp_zret dX7_areCrews_58 rfl (Or.inl rfl) ?_
      exact ⟨sr_bf (by rw [sr_crew_n hx hy]; simp only [sr_crewN, Bool.and_eq_false_iff, decide_eq_false_iff_not]; omega), rfl⟩
    · refine wp_iload_n dX7_areCrews_8 rfl rfl ?_
      refine wp_iconst (v := nI 1) dX7_areCrews_9 rfl ?_
      refine wp_aload_n dX7_areCrews_10 rfl rfl ?_
      refine wp_callV (M2 := M_X7_n) (n := 0) (As := []) (st := [.int (nI 1), .int (nI x)]) dX7_areCrews_11 (c_X7_n_n g D n hn) ca_X7_46 ⟨nm_X7_n, by decide, by decide⟩ rfl (by decide) rfl rfl rfl (Nat.le_of_ble_eq_true rfl) (fun r12 E13 q14 => ?_)
      obtain ⟨rfl, rfl⟩ := q14
      show WP g _ _ _ (.int (nI n) :: _) _ _
      refine wp_ishl_n dX7_areCrews_14 (by omega) (sr_pw1 hn6) ?_
      refine wp_icmp_ge_n (tgt := 57) dX7_areCrews_15 (by decide) (by omega) (by have := sr_pw hn6; omega) (fun c15 => ?_) (fun c15 => ?_)
      · refine wp_iconst (v := nI 0) dX7_areCrews_57 rfl ?_
        refine wp_zret dX7_areCrews_58 rfl (Or.inl rfl) ?_
        exact ⟨sr_bf (by rw [sr_crew_n hx hy]; simp only [sr_crewN, Bool.and_eq_false_iff, decide_eq_false_iff_not]; omega), rfl⟩
      · refine wp_iload_n dX7_areCrews_18 rfl rfl ?_
        refine wp_iconst (v := nI 1) dX7_areCrews_19 rfl ?_
        refine wp_aload_n dX7_areCrews_20 rfl rfl ?_
        refine wp_callV (M2 := M_X7_n) (n := 0) (As := []) (st := [.int (nI 1), .int (nI y)]) dX7_areCrews_21 (c_X7_n_n g D n hn) ca_X7_46 ⟨nm_X7_n, by decide, by decide⟩ rfl (by decide) rfl rfl rfl (Nat.le_of_ble_eq_true rfl) (fun r16 E17 q18 => ?_)
        obtain ⟨rfl, rfl⟩ := q18
        show WP g _ _ _ (.int (nI n) :: _) _ _
        refine wp_ishl_n dX7_areCrews_24 (by omega) (sr_pw1 hn6) ?_
        refine wp_icmp_ge_n (tgt := 57) dX7_areCrews_25 (by decide) (by omega) (by have := sr_pw hn6; omega) (fun c19 => ?_) (fun c19 => ?_)
        · refine wp_iconst (v := nI 0) dX7_areCrews_57 rfl ?_
          refine wp_zret dX7_areCrews_58 rfl (Or.inl rfl) ?_
          exact ⟨sr_bf (by rw [sr_crew_n hx hy]; simp only [sr_crewN, Bool.and_eq_false_iff, decide_eq_false_iff_not]; omega), rfl⟩
        · refine wp_iload_n dX7_areCrews_28 rfl rfl ?_
          refine wp_iload_n dX7_areCrews_29 rfl rfl ?_
          refine wp_iand_n dX7_areCrews_30 ?_
          refine wp_if_ne_n (tgt := 57) dX7_areCrews_31 (by decide) (Nat.lt_of_le_of_lt Nat.and_le_left hx) (fun c20 => ?_) (fun c20 => ?_)
          · refine wp_iconst (v := nI 0) dX7_areCrews_57 rfl ?_
            refine wp_zret dX7_areCrews_58 rfl (Or.inl rfl) ?_
            exact ⟨sr_bf (by rw [sr_crew_n hx hy]; simp only [sr_crewN, Bool.and_eq_false_iff, decide_eq_false_iff_not]; omega), rfl⟩
          · refine wp_iload_n dX7_areCrews_34 rfl rfl ?_
            refine wp_callS (M2 := M_X7_bits) (n := 1) (As := [.int (nI x)]) (st := []) dX7_areCrews_35 (c_X7_bits g D x (by omega)) ca_X7_54 ⟨nm_X7_bits, by decide, by decide⟩ rfl rfl (Nat.le_of_ble_eq_true rfl) (fun r21 E22 q23 => ?_)
            obtain ⟨rfl, rfl⟩ := q23
            show WP g _ _ _ (.int (nI (sr_bits x)) :: _) _ _
            refine wp_iload_n dX7_areCrews_38 rfl rfl ?_
            refine wp_callS (M2 := M_X7_bits) (n := 1) (As := [.int (nI y)]) (st := [.int (nI (sr_bits x))]) dX7_areCrews_39 (c_X7_bits g D y (by omega)) ca_X7_54 ⟨nm_X7_bits, by decide, by decide⟩ rfl rfl (Nat.le_of_ble_eq_true rfl) (fun r24 E25 q26 => ?_)
            obtain ⟨rfl, rfl⟩ := q26
            show WP g _ _ _ (.int (nI (sr_bits y)) :: _) _ _
            refine wp_icmp_ne_n (tgt := 57) dX7_areCrews_42 (by decide) (by have := sr_bits_le x; omega) (by have := sr_bits_le y; omega) (fun c27 => ?_) (fun c27 => ?_)
            · refine wp_iconst (v := nI 0) dX7_areCrews_57 rfl ?_
              refine wp_zret dX7_areCrews_58 rfl (Or.inl rfl) ?_
              exact ⟨sr_bf (by rw [sr_crew_n hx hy]; simp only [sr_crewN, Bool.and_eq_false_iff, decide_eq_false_iff_not]; omega), rfl⟩
            · refine wp_iload_n dX7_areCrews_45 rfl rfl ?_
              refine wp_callS (M2 := M_X7_bits) (n := 1) (As := [.int (nI x)]) (st := []) dX7_areCrews_46 (c_X7_bits g D x (by omega)) ca_X7_54 ⟨nm_X7_bits, by decide, by decide⟩ rfl rfl (Nat.le_of_ble_eq_true rfl) (fun r28 E29 q30 => ?_)
              obtain ⟨rfl, rfl⟩ := q30
              show WP g _ _ _ (.int (nI (sr_bits x)) :: _) _ _
              refine wp_iconst (v := nI 3) dX7_areCrews_49 rfl ?_
              refine wp_icmp_gt_n (tgt := 57) dX7_areCrews_50 (by decide) (by have := sr_bits_le x; omega) (by omega) (fun c31 => ?_) (fun c31 => ?_)
              · refine wp_iconst (v := nI 0) dX7_areCrews_57 rfl ?_
                refine wp_zret dX7_areCrews_58 rfl (Or.inl rfl) ?_
                exact ⟨sr_bf (by rw [sr_crew_n hx hy]; simp only [sr_crewN, Bool.and_eq_false_iff, decide_eq_false_iff_not]; omega), rfl⟩
              · refine wp_iconst (v := nI 1) dX7_areCrews_53 rfl ?_
                refine wp_goto (tgt := 58) dX7_areCrews_54 (by decide) ?_
                refine wp_zret dX7_areCrews_58 rfl (Or.inr rfl) ?_
                exact ⟨sr_bt (by rw [sr_crew_n hx hy]; simp only [sr_crewN, Bool.and_eq_true, decide_eq_true_eq]; omega), rfl⟩
/-- one race more behind r races -/
def sr_more (f : Nat → Int32) (r : Nat) (a b m t : Int32) : Nat → Int32 := fun k => if k = 2 then nI (r + 1) else if k = 3 + 4 * r then a else if k = 3 + 4 * r + 1 then b else if k = 3 + 4 * r + 2 then m else if k = 3 + 4 * r + 3 then t else f k
set_option maxHeartbeats 4000000 in
set_option maxRecDepth 100000 in
theorem c_X7_more (g : sr_G) (D : sr_St) (r : Nat) (hr : D.1 64 2 = nI r) (hr12 : r < 12) (a b m t : Int32)  : Con g M_X7_more [.ref 63, .int a, .int b, .int m, .int t] D (sr_ret (none) (sr_rI D 64 (sr_more (D.1 64) r a b m t))) := by
  refine Con.of pn_X7_more (Nat.le_of_ble_eq_true rfl) ?_
  show WP g M_X7_more 0 [(0, .ref 63), (1, .int a), (2, .int b), (3, .int m), (4, .int t)] [] D _
  refine wp_iconst (v := nI 3) dX7_more_0 rfl ?_
  refine wp_iconst (v := nI 4) dX7_more_1 rfl ?_
  refine wp_aload_n dX7_more_2 rfl rfl ?_
  refine wp_callV (M2 := M_X7_races) (n := 0) (As := []) (st := [.int (nI 4), .int (nI 3)]) dX7_more_3 (c_X7_races_n g D r hr) ca_X7_58 ⟨nm_X7_races, by decide, by decide⟩ rfl (by decide) rfl rfl rfl (Nat.le_of_ble_eq_true rfl) (fun r32 E33 q34 => ?_)
  obtain ⟨rfl, rfl⟩ := q34
  show WP g _ _ _ (.int (nI r) :: _) _ _
  refine wp_imul_n dX7_more_6 ?_
  refine wp_iadd_n dX7_more_7 ?_
  refine wp_istore (lv' := [(0, .ref 63), (1, .int a), (2, .int b), (3, .int m), (4, .int t), (5, .int (nI (3 + (4 * r))))]) dX7_more_8 (by decide) rfl ?_
  refine wp_aload_n dX7_more_10 rfl rfl ?_
  refine wp_getR (r := 64) dX7_more_11 fl_X7_7 (by decide) rfl rfl rfl ?_
  refine wp_iload dX7_more_14 rfl ?_
  refine wp_iload_n dX7_more_16 rfl rfl ?_
  refine wp_iast dX7_more_17 (by decide) rfl (show _ < 60 by omega) (by omega) ?_
  refine wp_D (fun D35 eD35 => ?_)
  refine wp_aload_n dX7_more_18 rfl rfl ?_
  refine wp_getR (r := 64) dX7_more_19 fl_X7_7 (by decide) rfl rfl rfl ?_
  refine wp_iload dX7_more_22 rfl ?_
  refine wp_iconst (v := nI 1) dX7_more_24 rfl ?_
  refine wp_iadd_n dX7_more_25 ?_
  refine wp_iload_n dX7_more_26 rfl rfl ?_
  refine wp_iast dX7_more_27 (by decide) rfl (show _ < 60 by omega) (by omega) ?_
  refine wp_D (fun D36 eD36 => ?_)
  refine wp_aload_n dX7_more_28 rfl rfl ?_
  refine wp_getR (r := 64) dX7_more_29 fl_X7_7 (by decide) rfl rfl rfl ?_
  refine wp_iload dX7_more_32 rfl ?_
  refine wp_iconst (v := nI 2) dX7_more_34 rfl ?_
  refine wp_iadd_n dX7_more_35 ?_
  refine wp_iload_n dX7_more_36 rfl rfl ?_
  refine wp_iast dX7_more_37 (by decide) rfl (show _ < 60 by omega) (by omega) ?_
  refine wp_D (fun D37 eD37 => ?_)
  refine wp_aload_n dX7_more_38 rfl rfl ?_
  refine wp_getR (r := 64) dX7_more_39 fl_X7_7 (by decide) rfl rfl rfl ?_
  refine wp_iload dX7_more_42 rfl ?_
  refine wp_iconst (v := nI 3) dX7_more_44 rfl ?_
  refine wp_iadd_n dX7_more_45 ?_
  refine wp_iload dX7_more_46 rfl ?_
  refine wp_iast dX7_more_48 (by decide) rfl (show _ < 60 by omega) (by omega) ?_
  refine wp_D (fun D38 eD38 => ?_)
  refine wp_aload_n dX7_more_49 rfl rfl ?_
  refine wp_getR (r := 64) dX7_more_50 fl_X7_7 (by decide) rfl rfl rfl ?_
  refine wp_iconst (v := nI 2) dX7_more_53 rfl ?_
  refine wp_dup2 dX7_more_54 rfl rfl ?_
  refine wp_iald dX7_more_55 (by decide) rfl (by decide) (by omega) ?_
  rw [show D38.1 64 2 = nI r from by subst_vars; simp only [sr_sI_1]; (repeat rw [if_neg (by omega)]); exact hr]
  refine wp_iconst (v := nI 1) dX7_more_56 rfl ?_
  refine wp_iadd_n dX7_more_57 ?_
  refine wp_iast dX7_more_58 (by decide) rfl (by decide) (by omega) ?_
  refine wp_D (fun D39 eD39 => ?_)
  refine wp_vret dX7_more_59 rfl ?_
  refine ⟨rfl, ?_⟩
  subst_vars
  simp only [sr_sI_r, sr_rI_rI, sr_rI_1, if_true]
  congr 1
  funext k
  simp only [upd, sr_more]
  repeat' split
  all_goals first | rfl | omega
