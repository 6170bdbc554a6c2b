theorem sr_in_t {v a b : Int32} (h1 : ¬ v < a) (h2 : ¬ b < v) : (decide (a ≤ v) && decide (v ≤ b)) = true := by
  simp only [Int32.lt_iff_toInt_lt] at h1 h2
  simp only [Bool.and_eq_true, decide_eq_true_eq, Int32.le_iff_toInt_le]
  omega
theorem sr_in_f1 {v a b : Int32} (h1 : v < a) : (decide (a ≤ v) && decide (v ≤ b)) = false := by
  simp only [Int32.lt_iff_toInt_lt] at h1
  simp only [Bool.and_eq_false_iff, decide_eq_false_iff_not, Int32.le_iff_toInt_le]
  omega
theorem sr_in_f2 {v a b : Int32} (h1 : b < v) : (decide (a ≤ v) && decide (v ≤ b)) = false := by
  simp only [Int32.lt_iff_toInt_lt] at h1
  simp only [Bool.and_eq_false_iff, decide_eq_false_iff_not, Int32.le_iff_toInt_le]
  omega
/-- v from least to most -/
def sr_isIn (v a b : Int32) : Bool := decide (a ≤ v) && decide (v ≤ b)
set_option maxHeartbeats 4000000 in
set_option maxRecDepth 100000 in
theorem c_X7_isIn (g : sr_G) (D : sr_St) (v a b : Int32)  : Con g M_X7_isIn [.int v, .int a, .int b] D (sr_ret (some (.int (sr_b (sr_isIn v a b)))) D) := by
  refine Con.of pn_X7_isIn (Nat.le_of_ble_eq_true rfl) ?_
  show WP g M_X7_isIn 0 [(0, .int v), (1, .int a), (2, .int b)] [] D _
  refine wp_iload_n dX7_isIn_0 rfl rfl ?_
  refine wp_iload_n dX7_isIn_1 rfl rfl ?_
  refine wp_icmp_lt (tgt := 14) dX7_isIn_2 (by decide) (fun c1 => ?_) (fun c1 => ?_)
  · refine wp_iconst (v := nI 0) dX7_isIn_14 rfl ?_
    refine wp_zret dX7_isIn_15 rfl (Or.inl rfl) ?_
    first | exact ⟨sr_bt (sr_in_t (by assumption) (by assumption)), rfl⟩ | exact ⟨sr_bf (sr_in_f1 (by assumption)), rfl⟩ | exact ⟨sr_bf (sr_in_f2 (by assumption)), rfl⟩
  · refine wp_iload_n dX7_isIn_5 rfl rfl ?_
    refine wp_iload_n dX7_isIn_6 rfl rfl ?_
    refine wp_icmp_gt (tgt := 14) dX7_isIn_7 (by decide) (fun c2 => ?_) (fun c2 => ?_)
    · refine wp_iconst (v := nI 0) dX7_isIn_14 rfl ?_
      refine wp_zret dX7_isIn_15 rfl (Or.inl rfl) ?_
      first | exact ⟨sr_bt (sr_in_t (by assumption) (by assumption)), rfl⟩ | exact ⟨sr_bf (sr_in_f1 (by assumption)), rfl⟩ | exact ⟨sr_bf (sr_in_f2 (by assumption)), rfl⟩
    · refine wp_iconst (v := nI 1) dX7_isIn_10 rfl ?_
      refine wp_goto (tgt := 15) dX7_isIn_11 (by decide) ?_
      refine wp_zret dX7_isIn_15 rfl (Or.inr rfl) ?_
      first | exact ⟨sr_bt (sr_in_t (by assumption) (by assumption)), rfl⟩ | exact ⟨sr_bf (sr_in_f1 (by assumption)), rfl⟩ | exact ⟨sr_bf (sr_in_f2 (by assumption)), rfl⟩
theorem sr_tb {w i : Nat} : w / 2 ^ i &&& 1 = 1 ↔ w.testBit i = true := by
  rw [Nat.testBit_eq_decide_div_mod_eq, Nat.and_one_is_mod]
  simp
set_option maxHeartbeats 4000000 in
set_option maxRecDepth 100000 in
theorem c_X7_has (g : sr_G) (D : sr_St) (w i : Nat) (hw : w < 2 ^ 31) (hi : i < 32)  : Con g M_X7_has [.int (nI w), .int (nI i)] D (sr_ret (some (.int (sr_b (w.testBit i)))) D) := by
  refine Con.of pn_X7_has (Nat.le_of_ble_eq_true rfl) ?_
  show WP g M_X7_has 0 [(0, .int (nI w)), (1, .int (nI i))] [] D _
  refine wp_iload_n dX7_has_0 rfl rfl ?_
  refine wp_iload_n dX7_has_1 rfl rfl ?_
  refine wp_ishr_n dX7_has_2 (by omega) (by omega) ?_
  refine wp_iconst (v := nI 1) dX7_has_3 rfl ?_
  refine wp_iand_n dX7_has_4 ?_
  refine wp_iconst (v := nI 1) dX7_has_5 rfl ?_
  refine wp_icmp_ne_n (tgt := 13) dX7_has_6 (by decide) (Nat.lt_of_le_of_lt (Nat.and_le_right) (by decide)) (by omega) (fun c3 => ?_) (fun c3 => ?_)
  · refine wp_iconst (v := nI 0) dX7_has_13 rfl ?_
    refine wp_zret dX7_has_14 rfl (Or.inl rfl) ?_
    first | exact ⟨sr_bt (sr_tb.mp (by assumption)), rfl⟩ | exact ⟨sr_bf (Bool.eq_false_iff.mpr (fun h => absurd (sr_tb.mpr h) (by assumption))), rfl⟩
  · refine wp_iconst (v := nI 1) dX7_has_9 rfl ?_
    refine wp_goto (tgt := 14) dX7_has_10 (by decide) ?_
    refine wp_zret dX7_has_14 rfl (Or.inr rfl) ?_
    first | exact ⟨sr_bt (sr_tb.mp (by assumption)), rfl⟩ | exact ⟨sr_bf (Bool.eq_false_iff.mpr (fun h => absurd (sr_tb.mpr h) (by assumption))), rfl⟩
set_option maxHeartbeats 4000000 in
set_option maxRecDepth 100000 in
theorem c_X7_bits (g : sr_G) (D : sr_St) (w : Nat) (hw : w < 2 ^ 31)  : Con g M_X7_bits [.int (nI w)] D (sr_ret (some (.int (nI (sr_bits w)))) D) := by
  refine Con.of pn_X7_bits (Nat.le_of_ble_eq_true rfl) ?_
  show WP g M_X7_bits 0 [(0, .int (nI w))] [] D _
  have hL : ∀ (f v n : Nat), v < 2 ^ f → n + sr_pc f v = sr_bits w → f ≤ 31 → WP g M_X7_bits 4 [(0, .int (nI w)), (1, .int (nI n)), (2, .int (nI v))] [] D (sr_ret (some (.int (nI (sr_bits w)))) D) := by
    intro f
    induction f with
    | zero =>
      intro v n hv hn _
      have hv0 : v = 0 := by omega
      subst hv0
      refine wp_iload_n dX7_bits_4 rfl rfl ?_
      refine wp_if_le_n (tgt := 21) dX7_bits_5 (by decide) (by omega) (fun c4 => ?_) (fun c4 => ?_)
      · refine wp_iload_n dX7_bits_21 rfl rfl ?_
        refine wp_iret dX7_bits_22 rfl ⟨?_, rfl⟩
        rw [← hn]; simp [sr_pc]
      · exact absurd c4 (by decide)
    | succ f ih =>
      intro v n hv hn hf
      have h31 : (2:Nat) ^ (f + 1) ≤ 2 ^ 31 := Nat.pow_le_pow_right (by decide) hf
      have hp : 2 ^ (f + 1) = 2 * 2 ^ f := by rw [Nat.pow_succ, Nat.mul_comm]
      refine wp_iload_n dX7_bits_4 rfl rfl ?_
      refine wp_if_le_n (tgt := 21) dX7_bits_5 (by decide) (by omega) (fun c5 => ?_) (fun c5 => ?_)
      · refine wp_iload_n dX7_bits_21 rfl rfl ?_
        refine wp_iret dX7_bits_22 rfl ⟨?_, rfl⟩
        rw [← hn, c5, sr_pc_0]; rfl
      · refine wp_iload_n dX7_bits_8 rfl rfl ?_
        refine wp_iload_n dX7_bits_9 rfl rfl ?_
        refine wp_iconst (v := nI 2) dX7_bits_10 rfl ?_
        refine wp_irem_n dX7_bits_11 (by omega) (by decide) (by decide) ?_
        refine wp_iadd_n dX7_bits_12 ?_
        refine wp_istore_n (lv' := [(0, .int (nI w)), (1, .int (nI (n + (v % 2)))), (2, .int (nI v))]) dX7_bits_13 rfl (by decide) rfl ?_
        refine wp_iload_n dX7_bits_14 rfl rfl ?_
        refine wp_iconst (v := nI 2) dX7_bits_15 rfl ?_
        refine wp_idiv_n dX7_bits_16 (by omega) (by decide) (by decide) ?_
        refine wp_istore_n (lv' := [(0, .int (nI w)), (1, .int (nI (n + (v % 2)))), (2, .int (nI (v / 2)))]) dX7_bits_17 rfl (by decide) rfl ?_
        refine wp_goto (tgt := 4) dX7_bits_18 (by decide) ?_
        exact ih _ _ (by omega) (by rw [← hn]; simp [sr_pc]; omega) (by omega)
  refine wp_iconst (v := nI 0) dX7_bits_0 rfl ?_
  refine wp_istore_n (lv' := [(0, .int (nI w)), (1, .int (nI 0))]) dX7_bits_1 rfl (by decide) rfl ?_
  refine wp_iload_n dX7_bits_2 rfl rfl ?_
  refine wp_istore_n (lv' := [(0, .int (nI w)), (1, .int (nI 0)), (2, .int (nI w))]) dX7_bits_3 rfl (by decide) rfl ?_
  exact hL 31 w 0 hw (by simp [sr_bits]) (by decide)
/-- the size of a long -/
def sr_size (v : Int64) : Int64 := if v < 0 then -v else v
set_option maxHeartbeats 4000000 in
set_option maxRecDepth 100000 in
theorem c_X7_size (g : sr_G) (D : sr_St) (v : Int64)  : Con g M_X7_size [.long v] D (sr_ret (some (.long (sr_size v))) D) := by
  refine Con.of pn_X7_size (Nat.le_of_ble_eq_true rfl) ?_
  show WP g M_X7_size 0 [(0, .long v)] [] D _
  refine wp_lload_n dX7_size_0 rfl rfl ?_
  refine wp_lconst (v := 0) dX7_size_1 rfl ?_
  refine wp_lcmp_ge (tgt := 11) dX7_size_2 dX7_size_3 (by decide) (fun c6 => ?_) (fun c6 => ?_)
  · refine wp_lload_n dX7_size_11 rfl rfl ?_
    refine wp_lret dX7_size_12 rfl ?_
    refine ⟨?_, rfl⟩
    simp only [Int64.lt_iff_toInt_lt, Int64.le_iff_toInt_le] at *
    unfold sr_size
    first | rw [if_pos (by rw [Int64.lt_iff_toInt_lt]; omega)] | rw [if_neg (by rw [Int64.lt_iff_toInt_lt]; omega)]
  · refine wp_lload_n dX7_size_6 rfl rfl ?_
    refine wp_lneg dX7_size_7 ?_
    refine wp_goto (tgt := 12) dX7_size_8 (by decide) ?_
    refine wp_lret dX7_size_12 rfl ?_
    refine ⟨?_, rfl⟩
    simp only [Int64.lt_iff_toInt_lt, Int64.le_iff_toInt_le] at *
    unfold sr_size
    first | rw [if_pos (by rw [Int64.lt_iff_toInt_lt]; omega)] | rw [if_neg (by rw [Int64.lt_iff_toInt_lt]; omega)]
set_option maxHeartbeats 4000000 in
set_option maxRecDepth 100000 in
theorem c_X7_n (g : sr_G) (D : sr_St)   : Con g M_X7_n [.ref 63] D (sr_ret (some (.int (D.1 64 0))) D) := by
  refine Con.of pn_X7_n (Nat.le_of_ble_eq_true rfl) ?_
  show WP g M_X7_n 0 [(0, .ref 63)] [] D _
  refine wp_aload_n dX7_n_0 rfl rfl ?_
  refine wp_getR (r := 64) dX7_n_1 fl_X7_7 (by decide) rfl rfl rfl ?_
  refine wp_iconst (v := nI 0) dX7_n_4 rfl ?_
  refine wp_iald dX7_n_5 (by decide) rfl (by decide) (by omega) ?_
  exact wp_iret dX7_n_6 rfl ⟨rfl, rfl⟩
set_option maxHeartbeats 4000000 in
set_option maxRecDepth 100000 in
theorem c_X7_races (g : sr_G) (D : sr_St)   : Con g M_X7_races [.ref 63] D (sr_ret (some (.int (D.1 64 2))) D) := by
  refine Con.of pn_X7_races (Nat.le_of_ble_eq_true rfl) ?_
  show WP g M_X7_races 0 [(0, .ref 63)] [] D _
  refine wp_aload_n dX7_races_0 rfl rfl ?_
  refine wp_getR (r := 64) dX7_races_1 fl_X7_7 (by decide) rfl rfl rfl ?_
  refine wp_iconst (v := nI 2) dX7_races_4 rfl ?_
  refine wp_iald dX7_races_5 (by decide) rfl (by decide) (by omega) ?_
  exact wp_iret dX7_races_6 rfl ⟨rfl, rfl⟩
set_option maxHeartbeats 4000000 in
set_option maxRecDepth 100000 in
theorem c_X7_thrown (g : sr_G) (D : sr_St)   : Con g M_X7_thrown [.ref 63] D (sr_ret (some (.int (D.1 63 0))) D) := by
  refine Con.of pn_X7_thrown (Nat.le_of_ble_eq_true rfl) ?_
  show WP g M_X7_thrown 0 [(0, .ref 63)] [] D _
  refine wp_aload_n dX7_thrown_0 rfl rfl ?_
  refine wp_getI dX7_thrown_1 fl_X7_43 (by decide) rfl rfl ?_
  exact wp_iret dX7_thrown_4 rfl ⟨rfl, rfl⟩
set_option maxHeartbeats 4000000 in
set_option maxRecDepth 100000 in
theorem c_X7_of (g : sr_G) (D : sr_St) (r k : Nat) (hr : r < 14) (hk : k < 4) (hrk : 3 + 4 * r + k < 60)  : Con g M_X7_of [.ref 63, .int (nI r), .int (nI k)] D (sr_ret (some (.int (D.1 64 (3 + 4 * r + k)))) D) := by
  refine Con.of pn_X7_of (Nat.le_of_ble_eq_true rfl) ?_
  show WP g M_X7_of 0 [(0, .ref 63), (1, .int (nI r)), (2, .int (nI k))] [] D _
  refine wp_aload_n dX7_of_0 rfl rfl ?_
  refine wp_getR (r := 64) dX7_of_1 fl_X7_7 (by decide) rfl rfl rfl ?_
  refine wp_iconst (v := nI 3) dX7_of_4 rfl ?_
  refine wp_iconst (v := nI 4) dX7_of_5 rfl ?_
  refine wp_iload_n dX7_of_6 rfl rfl ?_
  refine wp_imul_n dX7_of_7 ?_
  refine wp_iadd_n dX7_of_8 ?_
  refine wp_iload_n dX7_of_9 rfl rfl ?_
  refine wp_iadd_n dX7_of_10 ?_
  refine wp_iald dX7_of_11 (by decide) rfl (show _ < 60 by omega) (by omega) ?_
  exact wp_iret dX7_of_12 rfl ⟨rfl, rfl⟩
