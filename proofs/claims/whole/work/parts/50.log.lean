/-! ===== the class: its log ===== -/
section WPl
variable {g : sr_G} {M : sr_Md} {pc : Nat} {lv lv' : List (Nat × Value)} {st : List Value} {D : sr_St} {Q : Option Value → sr_St → Prop}
def sr_ush (x y : Int32) : Int32 := (x.toUInt32 >>> (y.toUInt32 &&& Int32.toUInt32 31)).toInt32
theorem wp_iushr {x y : Int32} (hd : decode M.2.1 pc = .ok (.iushr, 1)) (k : WP g M (pc + 1) lv (.int (sr_ush x y) :: st) D Q) : WP g M pc lv (.int y :: .int x :: st) D Q := by
  intro p e s m args below meth c H locs ls C hP hS hl
  exact lv_iushr C.1 C.2.1 hd rfl (k p e s m args below meth c H locs ls C hP hS hl)
theorem wp_ldcw {i : Nat} {v : Int32} (hd : decode M.2.1 pc = .ok (.ldc_w i, 3)) (hc : Cond.constant M.1.cls i v ∈ sr_ws) (k : WP g M (pc + 3) lv (.int v :: st) D Q) : WP g M pc lv st D Q := by
  intro p e s m args below meth c H locs ls C hP hS hl
  exact lv_ldcw C.1 C.2.1 C.2.2.2.2.1 (C.2.2.2.2.2.2.1 _ hc) hd (k p e s m args below meth c H locs ls C hP hS hl)
end WPl
def sr_bc1 (v : Int32) : Int32 := v - (sr_ush v (nI 1) &&& 1431655765)
def sr_bc2 (v : Int32) : Int32 := (v &&& 858993459) + (sr_ush v (nI 2) &&& 858993459)
def sr_bc3 (v : Int32) : Int32 := (v + sr_ush v (nI 4)) &&& 252645135
def sr_bc4 (v : Int32) : Int32 := v + sr_ush v (nI 8)
def sr_bc5 (v : Int32) : Int32 := v + sr_ush v (nI 16)
def sr_bc (v : Int32) : Int32 := sr_bc5 (sr_bc4 (sr_bc3 (sr_bc2 (sr_bc1 v)))) &&& nI 63
theorem sr_bc_n : ∀ x, x < 64 → sr_bc (nI x) = nI (sr_bits x) := by decide +kernel
set_option maxHeartbeats 4000000 in
set_option maxRecDepth 100000 in
theorem c_J6_bitCount_0f7a4 (g : sr_G) (D : sr_St) (v : Int32)  : Con g M_J6_bitCount_0f7a4 [.int v] D (sr_ret (some (.int (sr_bc v))) D) := by
  refine Con.of pn_J6_bitCount_0f7a4 (Nat.le_of_ble_eq_true rfl) ?_
  show WP g M_J6_bitCount_0f7a4 0 [(0, .int v)] [] D _
  refine wp_iload_n dJ6_bitCount_0f7a4_0 rfl rfl ?_
  refine wp_iload_n dJ6_bitCount_0f7a4_1 rfl rfl ?_
  refine wp_iconst (v := nI 1) dJ6_bitCount_0f7a4_2 rfl ?_
  refine wp_iushr dJ6_bitCount_0f7a4_3 ?_
  refine wp_ldcw (v := 1431655765) dJ6_bitCount_0f7a4_4 ct_J6_265 ?_
  refine wp_iand dJ6_bitCount_0f7a4_7 ?_
  refine wp_isub dJ6_bitCount_0f7a4_8 ?_
  refine wp_topi (fun x1 ex1 => ?_)
  refine wp_istore_n (lv' := [(0, .int x1)]) dJ6_bitCount_0f7a4_9 rfl (by decide) rfl ?_
  refine wp_iload_n dJ6_bitCount_0f7a4_10 rfl rfl ?_
  refine wp_ldcw (v := 858993459) dJ6_bitCount_0f7a4_11 ct_J6_266 ?_
  refine wp_iand dJ6_bitCount_0f7a4_14 ?_
  refine wp_iload_n dJ6_bitCount_0f7a4_15 rfl rfl ?_
  refine wp_iconst (v := nI 2) dJ6_bitCount_0f7a4_16 rfl ?_
  refine wp_iushr dJ6_bitCount_0f7a4_17 ?_
  refine wp_ldcw (v := 858993459) dJ6_bitCount_0f7a4_18 ct_J6_266 ?_
  refine wp_iand dJ6_bitCount_0f7a4_21 ?_
  refine wp_iadd dJ6_bitCount_0f7a4_22 ?_
  refine wp_topi (fun x2 ex2 => ?_)
  refine wp_istore_n (lv' := [(0, .int x2)]) dJ6_bitCount_0f7a4_23 rfl (by decide) rfl ?_
  refine wp_iload_n dJ6_bitCount_0f7a4_24 rfl rfl ?_
  refine wp_iload_n dJ6_bitCount_0f7a4_25 rfl rfl ?_
  refine wp_iconst (v := nI 4) dJ6_bitCount_0f7a4_26 rfl ?_
  refine wp_iushr dJ6_bitCount_0f7a4_27 ?_
  refine wp_iadd dJ6_bitCount_0f7a4_28 ?_
  refine wp_ldcw (v := 252645135) dJ6_bitCount_0f7a4_29 ct_J6_267 ?_
  refine wp_iand dJ6_bitCount_0f7a4_32 ?_
  refine wp_topi (fun x3 ex3 => ?_)
  refine wp_istore_n (lv' := [(0, .int x3)]) dJ6_bitCount_0f7a4_33 rfl (by decide) rfl ?_
  refine wp_iload_n dJ6_bitCount_0f7a4_34 rfl rfl ?_
  refine wp_iload_n dJ6_bitCount_0f7a4_35 rfl rfl ?_
  refine wp_bipush (v := nI 8) dJ6_bitCount_0f7a4_36 rfl ?_
  refine wp_iushr dJ6_bitCount_0f7a4_38 ?_
  refine wp_iadd dJ6_bitCount_0f7a4_39 ?_
  refine wp_topi (fun x4 ex4 => ?_)
  refine wp_istore_n (lv' := [(0, .int x4)]) dJ6_bitCount_0f7a4_40 rfl (by decide) rfl ?_
  refine wp_iload_n dJ6_bitCount_0f7a4_41 rfl rfl ?_
  refine wp_iload_n dJ6_bitCount_0f7a4_42 rfl rfl ?_
  refine wp_bipush (v := nI 16) dJ6_bitCount_0f7a4_43 rfl ?_
  refine wp_iushr dJ6_bitCount_0f7a4_45 ?_
  refine wp_iadd dJ6_bitCount_0f7a4_46 ?_
  refine wp_topi (fun x5 ex5 => ?_)
  refine wp_istore_n (lv' := [(0, .int x5)]) dJ6_bitCount_0f7a4_47 rfl (by decide) rfl ?_
  refine wp_iload_n dJ6_bitCount_0f7a4_48 rfl rfl ?_
  refine wp_bipush (v := nI 63) dJ6_bitCount_0f7a4_49 rfl ?_
  refine wp_iand dJ6_bitCount_0f7a4_51 ?_
  refine wp_iret dJ6_bitCount_0f7a4_52 rfl ?_
  refine ⟨?_, rfl⟩
  subst ex1
  subst ex2
  subst ex3
  subst ex4
  subst ex5
  rfl
theorem sr_row_iff {n : Nat} {v : Int32} (hn : n ≤ 1000) : sr_isIn v (nI 0) (nI n - nI 1) = true ↔ ¬ v < 0 ∧ ¬ nI n ≤ v := by
  rw [sr_in_n hn, Int32.lt_iff_toInt_lt, Int32.le_iff_toInt_le]
  have e0 : (0 : Int32).toInt = 0 := rfl
  constructor
  · rintro ⟨x, hx, rfl⟩; rw [nI_toInt (n := x) (by omega), nI_toInt (n := n) (by omega)]; omega
  · rintro ⟨h1, h2⟩
    obtain ⟨x, hx, rfl⟩ := nI_of (x := v) (by rw [Int32.lt_iff_toInt_lt]; exact h1)
    rw [nI_toInt (n := x) hx, nI_toInt (n := n) (by omega)] at h2
    exact ⟨x, by omega, rfl⟩
set_option maxHeartbeats 4000000 in
set_option maxRecDepth 100000 in
theorem c_X3_isRowerCount (g : sr_G) (D : sr_St) (v : Int32)  : Con g M_X3_isRowerCount [.int v] D (sr_ret (some (.int (sr_b (sr_isIn v (nI 0) (nI 6))))) D) := by
  refine Con.of pn_X3_isRowerCount (Nat.le_of_ble_eq_true rfl) ?_
  show WP g M_X3_isRowerCount 0 [(0, .int v)] [] D _
  refine wp_iload_n dX3_isRowerCount_0 rfl rfl ?_
  refine wp_if_lt (tgt := 14) dX3_isRowerCount_1 (by decide) (fun c6 => ?_) (fun c6 => ?_)
  · refine wp_iconst (v := nI 0) dX3_isRowerCount_14 rfl ?_
    refine wp_zret dX3_isRowerCount_15 rfl (Or.inl rfl) ?_
    first | exact ⟨sr_bt (sr_in_t (by assumption) (by assumption)), rfl⟩ | exact ⟨sr_bf (sr_in_f1 (by assumption)), rfl⟩ | exact ⟨sr_bf (sr_in_f2 (by assumption)), rfl⟩
  · refine wp_iload_n dX3_isRowerCount_4 rfl rfl ?_
    refine wp_bipush (v := nI 6) dX3_isRowerCount_5 rfl ?_
    refine wp_icmp_gt (tgt := 14) dX3_isRowerCount_7 (by decide) (fun c7 => ?_) (fun c7 => ?_)
    · refine wp_iconst (v := nI 0) dX3_isRowerCount_14 rfl ?_
      refine wp_zret dX3_isRowerCount_15 rfl (Or.inl rfl) ?_
      first | exact ⟨sr_bt (sr_in_t (by assumption) (by assumption)), rfl⟩ | exact ⟨sr_bf (sr_in_f1 (by assumption)), rfl⟩ | exact ⟨sr_bf (sr_in_f2 (by assumption)), rfl⟩
    · refine wp_iconst (v := nI 1) dX3_isRowerCount_10 rfl ?_
      refine wp_goto (tgt := 15) dX3_isRowerCount_11 (by decide) ?_
      refine wp_zret dX3_isRowerCount_15 rfl (Or.inr rfl) ?_
      first | exact ⟨sr_bt (sr_in_t (by assumption) (by assumption)), rfl⟩ | exact ⟨sr_bf (sr_in_f1 (by assumption)), rfl⟩ | exact ⟨sr_bf (sr_in_f2 (by assumption)), rfl⟩
set_option maxHeartbeats 4000000 in
set_option maxRecDepth 100000 in
theorem c_X3_isBound (g : sr_G) (D : sr_St) (v : Int32)  : Con g M_X3_isBound [.int v] D (sr_ret (some (.int (sr_b (sr_isIn v (nI 1) (nI 99))))) D) := by
  refine Con.of pn_X3_isBound (Nat.le_of_ble_eq_true rfl) ?_
  show WP g M_X3_isBound 0 [(0, .int v)] [] D _
  refine wp_iload_n dX3_isBound_0 rfl rfl ?_
  refine wp_iconst (v := nI 1) dX3_isBound_1 rfl ?_
  refine wp_icmp_lt (tgt := 15) dX3_isBound_2 (by decide) (fun c8 => ?_) (fun c8 => ?_)
  · refine wp_iconst (v := nI 0) dX3_isBound_15 rfl ?_
    refine wp_zret dX3_isBound_16 rfl (Or.inl rfl) ?_
    first | exact ⟨sr_bt (sr_in_t (by assumption) (by assumption)), rfl⟩ | exact ⟨sr_bf (sr_in_f1 (by assumption)), rfl⟩ | exact ⟨sr_bf (sr_in_f2 (by assumption)), rfl⟩
  · refine wp_iload_n dX3_isBound_5 rfl rfl ?_
    refine wp_bipush (v := nI 99) dX3_isBound_6 rfl ?_
    refine wp_icmp_gt (tgt := 15) dX3_isBound_8 (by decide) (fun c9 => ?_) (fun c9 => ?_)
    · refine wp_iconst (v := nI 0) dX3_isBound_15 rfl ?_
      refine wp_zret dX3_isBound_16 rfl (Or.inl rfl) ?_
      first | exact ⟨sr_bt (sr_in_t (by assumption) (by assumption)), rfl⟩ | exact ⟨sr_bf (sr_in_f1 (by assumption)), rfl⟩ | exact ⟨sr_bf (sr_in_f2 (by assumption)), rfl⟩
    · refine wp_iconst (v := nI 1) dX3_isBound_11 rfl ?_
      refine wp_goto (tgt := 16) dX3_isBound_12 (by decide) ?_
      refine wp_zret dX3_isBound_16 rfl (Or.inr rfl) ?_
      first | exact ⟨sr_bt (sr_in_t (by assumption) (by assumption)), rfl⟩ | exact ⟨sr_bf (sr_in_f1 (by assumption)), rfl⟩ | exact ⟨sr_bf (sr_in_f2 (by assumption)), rfl⟩
set_option maxHeartbeats 4000000 in
set_option maxRecDepth 100000 in
theorem c_X3_begin1 (g : sr_G) (D : sr_St) (v : Int32)  : Con g M_X3_begin [.ref 1, .int v] D (sr_ret (none) (sr_sI (sr_sI D 1 0 v) 1 2 (nI 0))) := by
  refine Con.of pn_X3_begin (Nat.le_of_ble_eq_true rfl) ?_
  show WP g M_X3_begin 0 [(0, .ref 1), (1, .int v)] [] D _
  refine wp_aload_n dX3_begin_0 rfl rfl ?_
  refine wp_iload_n dX3_begin_1 rfl rfl ?_
  refine wp_putI dX3_begin_2 fl_X3_9 (by decide) rfl rfl ?_
  refine wp_D (fun D10 eD10 => ?_)
  refine wp_aload_n dX3_begin_5 rfl rfl ?_
  refine wp_iconst (v := nI 0) dX3_begin_6 rfl ?_
  refine wp_putI dX3_begin_7 fl_X3_18 (by decide) rfl rfl ?_
  refine wp_D (fun D11 eD11 => ?_)
  refine wp_vret dX3_begin_10 rfl ⟨rfl, ?_⟩
  subst eD10 eD11
  rfl
set_option maxHeartbeats 4000000 in
set_option maxRecDepth 100000 in
theorem c_X3_begin9 (g : sr_G) (D : sr_St) (v : Int32)  : Con g M_X3_begin [.ref 9, .int v] D (sr_ret (none) (sr_sI (sr_sI D 9 0 v) 9 2 (nI 0))) := by
  refine Con.of pn_X3_begin (Nat.le_of_ble_eq_true rfl) ?_
  show WP g M_X3_begin 0 [(0, .ref 9), (1, .int v)] [] D _
  refine wp_aload_n dX3_begin_0 rfl rfl ?_
  refine wp_iload_n dX3_begin_1 rfl rfl ?_
  refine wp_putI dX3_begin_2 fl_X3_9 (by decide) rfl rfl ?_
  refine wp_D (fun D12 eD12 => ?_)
  refine wp_aload_n dX3_begin_5 rfl rfl ?_
  refine wp_iconst (v := nI 0) dX3_begin_6 rfl ?_
  refine wp_putI dX3_begin_7 fl_X3_18 (by decide) rfl rfl ?_
  refine wp_D (fun D13 eD13 => ?_)
  refine wp_vret dX3_begin_10 rfl ⟨rfl, ?_⟩
  subst eD12 eD13
  rfl
set_option maxHeartbeats 4000000 in
set_option maxRecDepth 100000 in
theorem c_X3_hasRower1 (g : sr_G) (D : sr_St) (n : Nat) (hn : D.1 1 0 = nI n) (hn6 : n ≤ 1000) (v : Int32)  : Con g M_X3_hasRower [.ref 1, .int v] D (sr_ret (some (.int (sr_b (sr_isIn v (nI 0) (nI n - nI 1))))) D) := by
  refine Con.of pn_X3_hasRower (Nat.le_of_ble_eq_true rfl) ?_
  show WP g M_X3_hasRower 0 [(0, .ref 1), (1, .int v)] [] D _
  refine wp_iload_n dX3_hasRower_0 rfl rfl ?_
  refine wp_if_lt (tgt := 16) dX3_hasRower_1 (by decide) (fun c14 => ?_) (fun c14 => ?_)
  · refine wp_iconst (v := nI 0) dX3_hasRower_16 rfl ?_
    refine wp_zret dX3_hasRower_17 rfl (Or.inl rfl) ?_
    first | exact ⟨sr_bt ((sr_row_iff hn6).mpr ⟨by assumption, by assumption⟩), rfl⟩ | exact ⟨sr_bf (Bool.eq_false_iff.mpr (fun h => absurd (by assumption) ((sr_row_iff hn6).mp h).1)), rfl⟩ | exact ⟨sr_bf (Bool.eq_false_iff.mpr (fun h => absurd (by assumption) ((sr_row_iff hn6).mp h).2)), rfl⟩
  · refine wp_iload_n dX3_hasRower_4 rfl rfl ?_
    refine wp_aload_n dX3_hasRower_5 rfl rfl ?_
    refine wp_getI_n (n := n) dX3_hasRower_6 fl_X3_9 (by decide) rfl rfl (hn) ?_
    refine wp_icmp_ge (tgt := 16) dX3_hasRower_9 (by decide) (fun c15 => ?_) (fun c15 => ?_)
    · refine wp_iconst (v := nI 0) dX3_hasRower_16 rfl ?_
      refine wp_zret dX3_hasRower_17 rfl (Or.inl rfl) ?_
      first | exact ⟨sr_bt ((sr_row_iff hn6).mpr ⟨by assumption, by assumption⟩), rfl⟩ | exact ⟨sr_bf (Bool.eq_false_iff.mpr (fun h => absurd (by assumption) ((sr_row_iff hn6).mp h).1)), rfl⟩ | exact ⟨sr_bf (Bool.eq_false_iff.mpr (fun h => absurd (by assumption) ((sr_row_iff hn6).mp h).2)), rfl⟩
    · refine wp_iconst (v := nI 1) dX3_hasRower_12 rfl ?_
      refine wp_goto (tgt := 17) dX3_hasRower_13 (by decide) ?_
      refine wp_zret dX3_hasRower_17 rfl (Or.inr rfl) ?_
      first | exact ⟨sr_bt ((sr_row_iff hn6).mpr ⟨by assumption, by assumption⟩), rfl⟩ | exact ⟨sr_bf (Bool.eq_false_iff.mpr (fun h => absurd (by assumption) ((sr_row_iff hn6).mp h).1)), rfl⟩ | exact ⟨sr_bf (Bool.eq_false_iff.mpr (fun h => absurd (by assumption) ((sr_row_iff hn6).mp h).2)), rfl⟩
set_option maxHeartbeats 4000000 in
set_option maxRecDepth 100000 in
theorem c_X3_hasRower9 (g : sr_G) (D : sr_St) (n : Nat) (hn : D.1 9 0 = nI n) (hn6 : n ≤ 1000) (v : Int32)  : Con g M_X3_hasRower [.ref 9, .int v] D (sr_ret (some (.int (sr_b (sr_isIn v (nI 0) (nI n - nI 1))))) D) := by
  refine Con.of pn_X3_hasRower (Nat.le_of_ble_eq_true rfl) ?_
  show WP g M_X3_hasRower 0 [(0, .ref 9), (1, .int v)] [] D _
  refine wp_iload_n dX3_hasRower_0 rfl rfl ?_
  refine wp_if_lt (tgt := 16) dX3_hasRower_1 (by decide) (fun c16 => ?_) (fun c16 => ?_)
  · refine wp_iconst (v := nI 0) dX3_hasRower_16 rfl ?_
    refine wp_zret dX3_hasRower_17 rfl (Or.inl rfl) ?_
    first | exact ⟨sr_bt ((sr_row_iff hn6).mpr ⟨by assumption, by assumption⟩), rfl⟩ | exact ⟨sr_bf (Bool.eq_false_iff.mpr (fun h => absurd (by assumption) ((sr_row_iff hn6).mp h).1)), rfl⟩ | exact ⟨sr_bf (Bool.eq_false_iff.mpr (fun h => absurd (by assumption) ((sr_row_iff hn6).mp h).2)), rfl⟩
  · refine wp_iload_n dX3_hasRower_4 rfl rfl ?_
    refine wp_aload_n dX3_hasRower_5 rfl rfl ?_
    refine wp_getI_n (n := n) dX3_hasRower_6 fl_X3_9 (by decide) rfl rfl (hn) ?_
    refine wp_icmp_ge (tgt := 16) dX3_hasRower_9 (by decide) (fun c17 => ?_) (fun c17 => ?_)
    · refine wp_iconst (v := nI 0) dX3_hasRower_16 rfl ?_
      refine wp_zret dX3_hasRower_17 rfl (Or.inl rfl) ?_
      first | exact ⟨sr_bt ((sr_row_iff hn6).mpr ⟨by assumption, by assumption⟩), rfl⟩ | exact ⟨sr_bf (Bool.eq_false_iff.mpr (fun h => absurd (by assumption) ((sr_row_iff hn6).mp h).1)), rfl⟩ | exact ⟨sr_bf (Bool.eq_false_iff.mpr (fun h => absurd (by assumption) ((sr_row_iff hn6).mp h).2)), rfl⟩
    · refine wp_iconst (v := nI 1) dX3_hasRower_12 rfl ?_
      refine wp_goto (tgt := 17) dX3_hasRower_13 (by decide) ?_
      refine wp_zret dX3_hasRower_17 rfl (Or.inr rfl) ?_
      first | exact ⟨sr_bt ((sr_row_iff hn6).mpr ⟨by assumption, by assumption⟩), rfl⟩ | exact ⟨sr_bf (Bool.eq_false_iff.mpr (fun h => absurd (by assumption) ((sr_row_iff hn6).mp h).1)), rfl⟩ | exact ⟨sr_bf (Bool.eq_false_iff.mpr (fun h => absurd (by assumption) ((sr_row_iff hn6).mp h).2)), rfl⟩
set_option maxHeartbeats 4000000 in
set_option maxRecDepth 100000 in
theorem c_X3_hasRace1 (g : sr_G) (D : sr_St) (n : Nat) (hn : D.1 1 2 = nI n) (hn6 : n ≤ 1000) (v : Int32)  : Con g M_X3_hasRace [.ref 1, .int v] D (sr_ret (some (.int (sr_b (sr_isIn v (nI 0) (nI n - nI 1))))) D) := by
  refine Con.of pn_X3_hasRace (Nat.le_of_ble_eq_true rfl) ?_
  show WP g M_X3_hasRace 0 [(0, .ref 1), (1, .int v)] [] D _
  refine wp_iload_n dX3_hasRace_0 rfl rfl ?_
  refine wp_if_lt (tgt := 16) dX3_hasRace_1 (by decide) (fun c18 => ?_) (fun c18 => ?_)
  · refine wp_iconst (v := nI 0) dX3_hasRace_16 rfl ?_
    refine wp_zret dX3_hasRace_17 rfl (Or.inl rfl) ?_
    first | exact ⟨sr_bt ((sr_row_iff hn6).mpr ⟨by assumption, by assumption⟩), rfl⟩ | exact ⟨sr_bf (Bool.eq_false_iff.mpr (fun h => absurd (by assumption) ((sr_row_iff hn6).mp h).1)), rfl⟩ | exact ⟨sr_bf (Bool.eq_false_iff.mpr (fun h => absurd (by assumption) ((sr_row_iff hn6).mp h).2)), rfl⟩
  · refine wp_iload_n dX3_hasRace_4 rfl rfl ?_
    refine wp_aload_n dX3_hasRace_5 rfl rfl ?_
    refine wp_getI_n (n := n) dX3_hasRace_6 fl_X3_18 (by decide) rfl rfl (hn) ?_
    refine wp_icmp_ge (tgt := 16) dX3_hasRace_9 (by decide) (fun c19 => ?_) (fun c19 => ?_)
    · refine wp_iconst (v := nI 0) dX3_hasRace_16 rfl ?_
      refine wp_zret dX3_hasRace_17 rfl (Or.inl rfl) ?_
      first | exact ⟨sr_bt ((sr_row_iff hn6).mpr ⟨by assumption, by assumption⟩), rfl⟩ | exact ⟨sr_bf (Bool.eq_false_iff.mpr (fun h => absurd (by assumption) ((sr_row_iff hn6).mp h).1)), rfl⟩ | exact ⟨sr_bf (Bool.eq_false_iff.mpr (fun h => absurd (by assumption) ((sr_row_iff hn6).mp h).2)), rfl⟩
    · refine wp_iconst (v := nI 1) dX3_hasRace_12 rfl ?_
      refine wp_goto (tgt := 17) dX3_hasRace_13 (by decide) ?_
      refine wp_zret dX3_hasRace_17 rfl (Or.inr rfl) ?_
      first | exact ⟨sr_bt ((sr_row_iff hn6).mpr ⟨by assumption, by assumption⟩), rfl⟩ | exact ⟨sr_bf (Bool.eq_false_iff.mpr (fun h => absurd (by assumption) ((sr_row_iff hn6).mp h).1)), rfl⟩ | exact ⟨sr_bf (Bool.eq_false_iff.mpr (fun h => absurd (by assumption) ((sr_row_iff hn6).mp h).2)), rfl⟩
set_option maxHeartbeats 4000000 in
set_option maxRecDepth 100000 in
theorem c_X3_isFull1 (g : sr_G) (D : sr_St) (r : Nat) (hr : D.1 1 2 = nI r) (hr12 : r ≤ 12)  : Con g M_X3_isFull [.ref 1] D (sr_ret (some (.int (sr_b (decide (r = 12))))) D) := by
  refine Con.of pn_X3_isFull (Nat.le_of_ble_eq_true rfl) ?_
  show WP g M_X3_isFull 0 [(0, .ref 1)] [] D _
  refine wp_aload_n dX3_isFull_0 rfl rfl ?_
  refine wp_getI_n (n := r) dX3_isFull_1 fl_X3_18 (by decide) rfl rfl (hr) ?_
  refine wp_bipush (v := nI 12) dX3_isFull_4 rfl ?_
  refine wp_icmp_lt_n (tgt := 13) dX3_isFull_6 (by decide) (by first | omega | (split <;> omega)) (by first | omega | (split <;> omega)) (fun c20 => ?_) (fun c20 => ?_)
  · refine wp_iconst (v := nI 0) dX3_isFull_13 rfl ?_
    refine wp_zret dX3_isFull_14 rfl (Or.inl rfl) ?_
    first | exact ⟨sr_bt (decide_eq_true (by omega)), rfl⟩ | exact ⟨sr_bf (decide_eq_false (by omega)), rfl⟩
  · refine wp_iconst (v := nI 1) dX3_isFull_9 rfl ?_
    refine wp_goto (tgt := 14) dX3_isFull_10 (by decide) ?_
    refine wp_zret dX3_isFull_14 rfl (Or.inr rfl) ?_
    first | exact ⟨sr_bt (decide_eq_true (by omega)), rfl⟩ | exact ⟨sr_bf (decide_eq_false (by omega)), rfl⟩
set_option maxHeartbeats 4000000 in
set_option maxRecDepth 100000 in
theorem c_X3_isFull9 (g : sr_G) (D : sr_St) (r : Nat) (hr : D.1 9 2 = nI r) (hr12 : r ≤ 12)  : Con g M_X3_isFull [.ref 9] D (sr_ret (some (.int (sr_b (decide (r = 12))))) D) := by
  refine Con.of pn_X3_isFull (Nat.le_of_ble_eq_true rfl) ?_
  show WP g M_X3_isFull 0 [(0, .ref 9)] [] D _
  refine wp_aload_n dX3_isFull_0 rfl rfl ?_
  refine wp_getI_n (n := r) dX3_isFull_1 fl_X3_18 (by decide) rfl rfl (hr) ?_
  refine wp_bipush (v := nI 12) dX3_isFull_4 rfl ?_
  refine wp_icmp_lt_n (tgt := 13) dX3_isFull_6 (by decide) (by first | omega | (split <;> omega)) (by first | omega | (split <;> omega)) (fun c21 => ?_) (fun c21 => ?_)
  · refine wp_iconst (v := nI 0) dX3_isFull_13 rfl ?_
    refine wp_zret dX3_isFull_14 rfl (Or.inl rfl) ?_
    first | exact ⟨sr_bt (decide_eq_true (by omega)), rfl⟩ | exact ⟨sr_bf (decide_eq_false (by omega)), rfl⟩
  · refine wp_iconst (v := nI 1) dX3_isFull_9 rfl ?_
    refine wp_goto (tgt := 14) dX3_isFull_10 (by decide) ?_
    refine wp_zret dX3_isFull_14 rfl (Or.inr rfl) ?_
    first | exact ⟨sr_bt (decide_eq_true (by omega)), rfl⟩ | exact ⟨sr_bf (decide_eq_false (by omega)), rfl⟩
def sr_canRow (n : Nat) (a b t : Int32) : Bool := decide ((a ||| b) &&& ((nI (1 * 2 ^ n) - nI 1) ^^^ (-1)) = 0) && (decide (a &&& b = 0) && (decide (sr_bc a = sr_bc b) && (!decide (sr_bc a < nI 1) && (!decide (nI 3 < sr_bc a) && (!decide (t < -1) && !decide (nI 1 < t))))))
set_option maxHeartbeats 4000000 in
set_option maxRecDepth 100000 in
theorem c_X3_canRow (g : sr_G) (D : sr_St) (n : Nat) (hn : D.1 1 0 = nI n) (hn6 : n ≤ 6) (a b t : Int32)  : Con g M_X3_canRow [.ref 1, .int a, .int b, .int t] D (sr_ret (some (.int (sr_b (sr_canRow n a b t)))) D) := by
  refine Con.of pn_X3_canRow (Nat.le_of_ble_eq_true rfl) ?_
  show WP g M_X3_canRow 0 [(0, .ref 1), (1, .int a), (2, .int b), (3, .int t)] [] D _
  have hpw := sr_pw hn6
  have hpp := Nat.two_pow_pos n
  refine wp_iconst (v := nI 1) dX3_canRow_0 rfl ?_
  refine wp_aload_n dX3_canRow_1 rfl rfl ?_
  refine wp_getI_n (n := n) dX3_canRow_2 fl_X3_9 (by decide) rfl rfl (hn) ?_
  refine wp_ishl_n dX3_canRow_5 (by omega) (sr_pw1 hn6) ?_
  refine wp_iconst (v := nI 1) dX3_canRow_6 rfl ?_
  refine wp_isub dX3_canRow_7 ?_
  refine wp_topi (fun x22 ex22 => ?_)
  refine wp_istore (lv' := [(0, .ref 1), (1, .int a), (2, .int b), (3, .int t), (4, .int x22)]) dX3_canRow_8 (by decide) rfl ?_
  refine wp_iload_n dX3_canRow_10 rfl rfl ?_
  refine wp_callS (M2 := M_J6_bitCount_0f7a4) (n := 1) (As := [.int a]) (st := []) dX3_canRow_11 (c_J6_bitCount_0f7a4 g D a) ca_X3_34 ⟨nm_J6_bitCount_0f7a4, by decide, by decide⟩ rfl rfl (Nat.le_of_ble_eq_true rfl) (fun r23 E24 q25 => ?_)
  obtain ⟨rfl, rfl⟩ := q25
  show WP g _ _ _ (.int (sr_bc a) :: _) _ _
  refine wp_topi (fun x26 ex26 => ?_)
  refine wp_istore (lv' := [(0, .ref 1), (1, .int a), (2, .int b), (3, .int t), (4, .int x22), (5, .int x26)]) dX3_canRow_14 (by decide) rfl ?_
  refine wp_iload_n dX3_canRow_16 rfl rfl ?_
  refine wp_iload_n dX3_canRow_17 rfl rfl ?_
  refine wp_ior dX3_canRow_18 ?_
  refine wp_iload dX3_canRow_19 rfl ?_
  refine wp_iconst (v := -1) dX3_canRow_21 rfl ?_
  refine wp_ixor dX3_canRow_22 ?_
  refine wp_iand dX3_canRow_23 ?_
  refine wp_if_ne (tgt := 68) dX3_canRow_24 (by decide) (fun c27 => ?_) (fun c27 => ?_)
  · refine wp_iconst (v := nI 0) dX3_canRow_68 rfl ?_
    refine wp_zret dX3_canRow_69 rfl (Or.inl rfl) ⟨?_, rfl⟩
    subst ex22 ex26
    refine sr_bf (Bool.eq_false_iff.mpr (fun h => ?_))
    unfold sr_canRow at h
    simp only [Bool.and_eq_true, decide_eq_true_eq, Bool.not_eq_true', decide_eq_false_iff_not] at h
    obtain ⟨h1, h2, h3, h4, h5, h6, h7⟩ := h
    contradiction
  · refine wp_iload_n dX3_canRow_27 rfl rfl ?_
    refine wp_iload_n dX3_canRow_28 rfl rfl ?_
    refine wp_iand dX3_canRow_29 ?_
    refine wp_if_ne (tgt := 68) dX3_canRow_30 (by decide) (fun c28 => ?_) (fun c28 => ?_)
    · refine wp_iconst (v := nI 0) dX3_canRow_68 rfl ?_
      refine wp_zret dX3_canRow_69 rfl (Or.inl rfl) ⟨?_, rfl⟩
      subst ex22 ex26
      refine sr_bf (Bool.eq_false_iff.mpr (fun h => ?_))
      unfold sr_canRow at h
      simp only [Bool.and_eq_true, decide_eq_true_eq, Bool.not_eq_true', decide_eq_false_iff_not] at h
      obtain ⟨h1, h2, h3, h4, h5, h6, h7⟩ := h
      contradiction
    · refine wp_iload dX3_canRow_33 rfl ?_
      refine wp_iload_n dX3_canRow_35 rfl rfl ?_
      refine wp_callS (M2 := M_J6_bitCount_0f7a4) (n := 1) (As := [.int b]) (st := [.int x26]) dX3_canRow_36 (c_J6_bitCount_0f7a4 g D b) ca_X3_34 ⟨nm_J6_bitCount_0f7a4, by decide, by decide⟩ rfl rfl (Nat.le_of_ble_eq_true rfl) (fun r29 E30 q31 => ?_)
      obtain ⟨rfl, rfl⟩ := q31
      show WP g _ _ _ (.int (sr_bc b) :: _) _ _
      refine wp_icmp_ne (tgt := 68) dX3_canRow_39 (by decide) (fun c32 => ?_) (fun c32 => ?_)
      · refine wp_iconst (v := nI 0) dX3_canRow_68 rfl ?_
        refine wp_zret dX3_canRow_69 rfl (Or.inl rfl) ⟨?_, rfl⟩
        subst ex22 ex26
        refine sr_bf (Bool.eq_false_iff.mpr (fun h => ?_))
        unfold sr_canRow at h
        simp only [Bool.and_eq_true, decide_eq_true_eq, Bool.not_eq_true', decide_eq_false_iff_not] at h
        obtain ⟨h1, h2, h3, h4, h5, h6, h7⟩ := h
        contradiction
      · refine wp_iload dX3_canRow_42 rfl ?_
        refine wp_iconst (v := nI 1) dX3_canRow_44 rfl ?_
        refine wp_icmp_lt (tgt := 68) dX3_canRow_45 (by decide) (fun c33 => ?_) (fun c33 => ?_)
        · refine wp_iconst (v := nI 0) dX3_canRow_68 rfl ?_
          refine wp_zret dX3_canRow_69 rfl (Or.inl rfl) ⟨?_, rfl⟩
          subst ex22 ex26
          refine sr_bf (Bool.eq_false_iff.mpr (fun h => ?_))
          unfold sr_canRow at h
          simp only [Bool.and_eq_true, decide_eq_true_eq, Bool.not_eq_true', decide_eq_false_iff_not] at h
          obtain ⟨h1, h2, h3, h4, h5, h6, h7⟩ := h
          contradiction
        · refine wp_iload dX3_canRow_48 rfl ?_
          refine wp_iconst (v := nI 3) dX3_canRow_50 rfl ?_
          refine wp_icmp_gt (tgt := 68) dX3_canRow_51 (by decide) (fun c34 => ?_) (fun c34 => ?_)
          · refine wp_iconst (v := nI 0) dX3_canRow_68 rfl ?_
            refine wp_zret dX3_canRow_69 rfl (Or.inl rfl) ⟨?_, rfl⟩
            subst ex22 ex26
            refine sr_bf (Bool.eq_false_iff.mpr (fun h => ?_))
            unfold sr_canRow at h
            simp only [Bool.and_eq_true, decide_eq_true_eq, Bool.not_eq_true', decide_eq_false_iff_not] at h
            obtain ⟨h1, h2, h3, h4, h5, h6, h7⟩ := h
            contradiction
          · refine wp_iload_n dX3_canRow_54 rfl rfl ?_
            refine wp_iconst (v := -1) dX3_canRow_55 rfl ?_
            refine wp_icmp_lt (tgt := 68) dX3_canRow_56 (by decide) (fun c35 => ?_) (fun c35 => ?_)
            · refine wp_iconst (v := nI 0) dX3_canRow_68 rfl ?_
              refine wp_zret dX3_canRow_69 rfl (Or.inl rfl) ⟨?_, rfl⟩
              subst ex22 ex26
              refine sr_bf (Bool.eq_false_iff.mpr (fun h => ?_))
              unfold sr_canRow at h
              simp only [Bool.and_eq_true, decide_eq_true_eq, Bool.not_eq_true', decide_eq_false_iff_not] at h
              obtain ⟨h1, h2, h3, h4, h5, h6, h7⟩ := h
              contradiction
            · refine wp_iload_n dX3_canRow_59 rfl rfl ?_
              refine wp_iconst (v := nI 1) dX3_canRow_60 rfl ?_
              refine wp_icmp_gt (tgt := 68) dX3_canRow_61 (by decide) (fun c36 => ?_) (fun c36 => ?_)
              · refine wp_iconst (v := nI 0) dX3_canRow_68 rfl ?_
                refine wp_zret dX3_canRow_69 rfl (Or.inl rfl) ⟨?_, rfl⟩
                subst ex22 ex26
                refine sr_bf (Bool.eq_false_iff.mpr (fun h => ?_))
                unfold sr_canRow at h
                simp only [Bool.and_eq_true, decide_eq_true_eq, Bool.not_eq_true', decide_eq_false_iff_not] at h
                obtain ⟨h1, h2, h3, h4, h5, h6, h7⟩ := h
                contradiction
              · refine wp_iconst (v := nI 1) dX3_canRow_64 rfl ?_
                refine wp_goto (tgt := 69) dX3_canRow_65 (by decide) ?_
                refine wp_zret dX3_canRow_69 rfl (Or.inr rfl) ⟨?_, rfl⟩
                subst ex22 ex26
                refine sr_bt ?_
                unfold sr_canRow
                simp only [Bool.and_eq_true, decide_eq_true_eq, Bool.not_eq_true', decide_eq_false_iff_not]
                exact ⟨by assumption, by assumption, by assumption, by assumption, by assumption, by assumption, by assumption⟩
theorem sr_ext {A B : sr_St} (h1 : ∀ o k, A.1 o k = B.1 o k) (h2 : A.2 = B.2) : A = B := Prod.ext (funext fun o => funext fun k => h1 o k) h2
/-- a place taken out of a row -/
def sr_sh (f : Nat → Int32) (q i : Nat) : Nat → Int32 := fun k => if q ≤ k ∧ k < i then f (k + 1) else f k
theorem sr_sh_step {f : Nat → Int32} {q i k : Nat} (h : q ≤ i) : (if k = i then sr_sh f q i (i + 1) else sr_sh f q i k) = sr_sh f q (i + 1) k := by
  unfold sr_sh
  by_cases e : k = i
  · subst e; rw [if_pos rfl, if_neg (by omega), if_pos (by omega)]
  · rw [if_neg e]
    by_cases e2 : q ≤ k ∧ k < i
    · rw [if_pos e2, if_pos (by omega)]
    · rw [if_neg e2, if_neg (by omega)]
theorem sr_sh_0 {f : Nat → Int32} {q : Nat} : sr_sh f q q = f := by funext k; unfold sr_sh; rw [if_neg (by omega)]
def sr_cp (f g : Nat → Int32) (i : Nat) : Nat → Int32 := fun k => if k < i then f k else g k
theorem sr_cp_step {f g : Nat → Int32} {i k : Nat} : (if k = i then f i else sr_cp f g i k) = sr_cp f g (i + 1) k := by
  unfold sr_cp
  by_cases e : k = i
  · subst e; rw [if_pos rfl, if_pos (by omega)]
  · rw [if_neg e]
    by_cases e2 : k < i
    · rw [if_pos e2, if_pos (by omega)]
    · rw [if_neg e2, if_neg (by omega)]
theorem sr_cp_0 {f g : Nat → Int32} : sr_cp f g 0 = g := by funext k; unfold sr_cp; rw [if_neg (by omega)]
/-- four rows of a log -/
def sr_4 (D : sr_St) (o : Nat) (f : Nat → Nat → Int32) : sr_St := (fun p => if o < p ∧ p < o + 5 then f p else D.1 p, D.2)
theorem sr_4_1 (D : sr_St) (o : Nat) (f : Nat → Nat → Int32) (p : Nat) : (sr_4 D o f).1 p = if o < p ∧ p < o + 5 then f p else D.1 p := rfl
theorem sr_4_2 (D : sr_St) (o : Nat) (f : Nat → Nat → Int32) : (sr_4 D o f).2 = D.2 := rfl
theorem sr_4_self (D : sr_St) (o : Nat) (f : Nat → Nat → Int32) (h : ∀ p, o < p → p < o + 5 → f p = D.1 p) : sr_4 D o f = D := by
  refine sr_ext (fun p k => ?_) rfl
  rw [sr_4_1]; split
  · next e => rw [h p e.1 e.2]
  · rfl
def sr_app (D : sr_St) (o r : Nat) (a b m t : Int32) : sr_St := sr_sI (sr_sI (sr_sI (sr_sI (sr_sI D (o + 1) r a) (o + 2) r b) (o + 3) r m) (o + 4) r t) o 2 (nI (r + 1))
set_option maxHeartbeats 4000000 in
set_option maxRecDepth 100000 in
theorem c_X3_append1 (g : sr_G) (D : sr_St) (r : Nat) (hr : D.1 1 2 = nI r) (hr12 : r ≤ 12) (a b m t : Int32)  : Con g M_X3_append [.ref 1, .int a, .int b, .int m, .int t] D (sr_ret (none) (if r = 12 then D else sr_app D 1 r a b m t)) := by
  refine Con.of pn_X3_append (Nat.le_of_ble_eq_true rfl) ?_
  show WP g M_X3_append 0 [(0, .ref 1), (1, .int a), (2, .int b), (3, .int m), (4, .int t)] [] D _
  refine wp_aload_n dX3_append_0 rfl rfl ?_
  refine wp_callV (M2 := M_X3_isFull) (n := 0) (As := []) (st := []) dX3_append_1 (c_X3_isFull1 g D r hr hr12) ca_X3_40 ⟨nm_X3_isFull, by decide, by decide⟩ rfl (by decide) rfl rfl rfl (Nat.le_of_ble_eq_true rfl) (fun r37 E38 q39 => ?_)
  obtain ⟨rfl, rfl⟩ := q39
  show WP g _ _ _ (.int (sr_b (decide (r = 12))) :: _) _ _
  refine wp_if_eq_b (tgt := 8) dX3_append_4 (by decide) (fun c40 => ?_) (fun c40 => ?_)
  · have hf := of_decide_eq_false c40
    refine wp_aload_n dX3_append_8 rfl rfl ?_
    refine wp_getR (r := 2) dX3_append_9 fl_X3_21 (by decide) rfl rfl rfl ?_
    refine wp_aload_n dX3_append_12 rfl rfl ?_
    refine wp_getI_n (n := r) dX3_append_13 fl_X3_18 (by decide) rfl rfl (hr) ?_
    refine wp_iload_n dX3_append_16 rfl rfl ?_
    refine wp_iast dX3_append_17 (by decide) rfl (show _ < 12 by omega) (by first | omega | (split <;> omega)) ?_
    refine wp_D (fun D41 eD41 => ?_)
    have k42 : D41.1 1 2 = nI r := by rw [eD41, sr_sI_1, if_neg (by omega)]; exact hr
    refine wp_aload_n dX3_append_18 rfl rfl ?_
    refine wp_getR (r := 3) dX3_append_19 fl_X3_25 (by decide) rfl rfl rfl ?_
    refine wp_aload_n dX3_append_22 rfl rfl ?_
    refine wp_getI_n (n := r) dX3_append_23 fl_X3_18 (by decide) rfl rfl (k42) ?_
    refine wp_iload_n dX3_append_26 rfl rfl ?_
    refine wp_iast dX3_append_27 (by decide) rfl (show _ < 12 by omega) (by first | omega | (split <;> omega)) ?_
    refine wp_D (fun D43 eD43 => ?_)
    have k44 : D43.1 1 2 = nI r := by rw [eD43, sr_sI_1, if_neg (by omega)]; exact k42
    refine wp_aload_n dX3_append_28 rfl rfl ?_
    refine wp_getR (r := 4) dX3_append_29 fl_X3_28 (by decide) rfl rfl rfl ?_
    refine wp_aload_n dX3_append_32 rfl rfl ?_
    refine wp_getI_n (n := r) dX3_append_33 fl_X3_18 (by decide) rfl rfl (k44) ?_
    refine wp_iload_n dX3_append_36 rfl rfl ?_
    refine wp_iast dX3_append_37 (by decide) rfl (show _ < 12 by omega) (by first | omega | (split <;> omega)) ?_
    refine wp_D (fun D45 eD45 => ?_)
    have k46 : D45.1 1 2 = nI r := by rw [eD45, sr_sI_1, if_neg (by omega)]; exact k44
    refine wp_aload_n dX3_append_38 rfl rfl ?_
    refine wp_getR (r := 5) dX3_append_39 fl_X3_31 (by decide) rfl rfl rfl ?_
    refine wp_aload_n dX3_append_42 rfl rfl ?_
    refine wp_getI_n (n := r) dX3_append_43 fl_X3_18 (by decide) rfl rfl (k46) ?_
    refine wp_iload dX3_append_46 rfl ?_
    refine wp_iast dX3_append_48 (by decide) rfl (show _ < 12 by omega) (by first | omega | (split <;> omega)) ?_
    refine wp_D (fun D47 eD47 => ?_)
    have k48 : D47.1 1 2 = nI r := by rw [eD47, sr_sI_1, if_neg (by omega)]; exact k46
    refine wp_aload_n dX3_append_49 rfl rfl ?_
    refine wp_dup dX3_append_50 rfl ?_
    refine wp_getI_n (n := r) dX3_append_51 fl_X3_18 (by decide) rfl rfl (k48) ?_
    refine wp_iconst (v := nI 1) dX3_append_54 rfl ?_
    refine wp_iadd_n dX3_append_55 ?_
    refine wp_putI dX3_append_56 fl_X3_18 (by decide) rfl rfl ?_
    refine wp_D (fun D49 eD49 => ?_)
    have k51 : D49.1 1 2 = nI (r + 1) := by rw [eD49, sr_sI_1, if_pos ⟨rfl, rfl⟩]
    refine wp_vret dX3_append_59 rfl ⟨rfl, ?_⟩
    rw [if_neg hf]
    subst eD41 eD43 eD45 eD47 eD49
    rfl
  · have hf := of_decide_eq_true c40
    refine wp_vret dX3_append_7 rfl ⟨rfl, ?_⟩
    rw [if_pos hf]
set_option maxHeartbeats 4000000 in
set_option maxRecDepth 100000 in
theorem c_X3_append9 (g : sr_G) (D : sr_St) (r : Nat) (hr : D.1 9 2 = nI r) (hr12 : r ≤ 12) (a b m t : Int32)  : Con g M_X3_append [.ref 9, .int a, .int b, .int m, .int t] D (sr_ret (none) (if r = 12 then D else sr_app D 9 r a b m t)) := by
  refine Con.of pn_X3_append (Nat.le_of_ble_eq_true rfl) ?_
  show WP g M_X3_append 0 [(0, .ref 9), (1, .int a), (2, .int b), (3, .int m), (4, .int t)] [] D _
  refine wp_aload_n dX3_append_0 rfl rfl ?_
  refine wp_callV (M2 := M_X3_isFull) (n := 0) (As := []) (st := []) dX3_append_1 (c_X3_isFull9 g D r hr hr12) ca_X3_40 ⟨nm_X3_isFull, by decide, by decide⟩ rfl (by decide) rfl rfl rfl (Nat.le_of_ble_eq_true rfl) (fun r52 E53 q54 => ?_)
  obtain ⟨rfl, rfl⟩ := q54
  show WP g _ _ _ (.int (sr_b (decide (r = 12))) :: _) _ _
  refine wp_if_eq_b (tgt := 8) dX3_append_4 (by decide) (fun c55 => ?_) (fun c55 => ?_)
  · have hf := of_decide_eq_false c55
    refine wp_aload_n dX3_append_8 rfl rfl ?_
    refine wp_getR (r := 10) dX3_append_9 fl_X3_21 (by decide) rfl rfl rfl ?_
    refine wp_aload_n dX3_append_12 rfl rfl ?_
    refine wp_getI_n (n := r) dX3_append_13 fl_X3_18 (by decide) rfl rfl (hr) ?_
    refine wp_iload_n dX3_append_16 rfl rfl ?_
    refine wp_iast dX3_append_17 (by decide) rfl (show _ < 12 by omega) (by first | omega | (split <;> omega)) ?_
    refine wp_D (fun D56 eD56 => ?_)
    have k57 : D56.1 9 2 = nI r := by rw [eD56, sr_sI_1, if_neg (by omega)]; exact hr
    refine wp_aload_n dX3_append_18 rfl rfl ?_
    refine wp_getR (r := 11) dX3_append_19 fl_X3_25 (by decide) rfl rfl rfl ?_
    refine wp_aload_n dX3_append_22 rfl rfl ?_
    refine wp_getI_n (n := r) dX3_append_23 fl_X3_18 (by decide) rfl rfl (k57) ?_
    refine wp_iload_n dX3_append_26 rfl rfl ?_
    refine wp_iast dX3_append_27 (by decide) rfl (show _ < 12 by omega) (by first | omega | (split <;> omega)) ?_
    refine wp_D (fun D58 eD58 => ?_)
    have k59 : D58.1 9 2 = nI r := by rw [eD58, sr_sI_1, if_neg (by omega)]; exact k57
    refine wp_aload_n dX3_append_28 rfl rfl ?_
    refine wp_getR (r := 12) dX3_append_29 fl_X3_28 (by decide) rfl rfl rfl ?_
    refine wp_aload_n dX3_append_32 rfl rfl ?_
    refine wp_getI_n (n := r) dX3_append_33 fl_X3_18 (by decide) rfl rfl (k59) ?_
    refine wp_iload_n dX3_append_36 rfl rfl ?_
    refine wp_iast dX3_append_37 (by decide) rfl (show _ < 12 by omega) (by first | omega | (split <;> omega)) ?_
    refine wp_D (fun D60 eD60 => ?_)
    have k61 : D60.1 9 2 = nI r := by rw [eD60, sr_sI_1, if_neg (by omega)]; exact k59
    refine wp_aload_n dX3_append_38 rfl rfl ?_
    refine wp_getR (r := 13) dX3_append_39 fl_X3_31 (by decide) rfl rfl rfl ?_
    refine wp_aload_n dX3_append_42 rfl rfl ?_
    refine wp_getI_n (n := r) dX3_append_43 fl_X3_18 (by decide) rfl rfl (k61) ?_
    refine wp_iload dX3_append_46 rfl ?_
    refine wp_iast dX3_append_48 (by decide) rfl (show _ < 12 by omega) (by first | omega | (split <;> omega)) ?_
    refine wp_D (fun D62 eD62 => ?_)
    have k63 : D62.1 9 2 = nI r := by rw [eD62, sr_sI_1, if_neg (by omega)]; exact k61
    refine wp_aload_n dX3_append_49 rfl rfl ?_
    refine wp_dup dX3_append_50 rfl ?_
    refine wp_getI_n (n := r) dX3_append_51 fl_X3_18 (by decide) rfl rfl (k63) ?_
    refine wp_iconst (v := nI 1) dX3_append_54 rfl ?_
    refine wp_iadd_n dX3_append_55 ?_
    refine wp_putI dX3_append_56 fl_X3_18 (by decide) rfl rfl ?_
    refine wp_D (fun D64 eD64 => ?_)
    have k66 : D64.1 9 2 = nI (r + 1) := by rw [eD64, sr_sI_1, if_pos ⟨rfl, rfl⟩]
    refine wp_vret dX3_append_59 rfl ⟨rfl, ?_⟩
    rw [if_neg hf]
    subst eD56 eD58 eD60 eD62 eD64
    rfl
  · have hf := of_decide_eq_true c55
    refine wp_vret dX3_append_7 rfl ⟨rfl, ?_⟩
    rw [if_pos hf]
set_option maxHeartbeats 4000000 in
set_option maxRecDepth 100000 in
theorem c_X3_remove (g : sr_G) (D : sr_St) (r : Nat) (hr : D.1 1 2 = nI r) (hr12 : r ≤ 12) (q : Nat) (hq : q < r)  : Con g M_X3_remove [.ref 1, .int (nI q)] D (sr_ret (none) ((sr_4 (sr_sI D 1 2 (nI (r - 1))) 1 (fun p => sr_sh (D.1 p) q (r - 1))))) := by
  refine Con.of pn_X3_remove (Nat.le_of_ble_eq_true rfl) ?_
  show WP g M_X3_remove 0 [(0, .ref 1), (1, .int (nI q))] [] D _
  have hL : ∀ i, i ≤ r - 1 → q ≤ i → WP g M_X3_remove 21 [(0, .ref 1), (1, .int (nI q)), (2, .int (nI i))] [] (sr_4 (sr_sI D 1 2 (nI (r - 1))) 1 (fun p => sr_sh (D.1 p) q i)) (sr_ret none (sr_4 (sr_sI D 1 2 (nI (r - 1))) 1 (fun p => sr_sh (D.1 p) q (r - 1)))) := by
    refine sr_up (fun i hi ih hqi => ?_)
    refine wp_D (fun E eE => ?_)
    have kr : E.1 1 2 = nI (r - 1) := by rw [eE, sr_4_1, if_neg (by omega)]; rfl
    refine wp_iload_n dX3_remove_21 rfl rfl ?_
    refine wp_aload_n dX3_remove_22 rfl rfl ?_
    refine wp_getI_n (n := r - 1) dX3_remove_23 fl_X3_18 (by decide) rfl rfl (kr) ?_
    refine wp_icmp_ge_n (tgt := 91) dX3_remove_26 (by decide) (by first | omega | (split <;> omega)) (by first | omega | (split <;> omega)) (fun c67 => ?_) (fun c67 => ?_)
    · have hie : i = r - 1 := by omega
      subst hie
      exact wp_vret dX3_remove_91 rfl ⟨rfl, eE.symm⟩
    · refine wp_aload_n dX3_remove_29 rfl rfl ?_
      refine wp_getR (r := 2) dX3_remove_30 fl_X3_21 (by decide) rfl rfl rfl ?_
      refine wp_iload_n dX3_remove_33 rfl rfl ?_
      refine wp_aload_n dX3_remove_34 rfl rfl ?_
      refine wp_getR (r := 2) dX3_remove_35 fl_X3_21 (by decide) rfl rfl rfl ?_
      refine wp_iload_n dX3_remove_38 rfl rfl ?_
      refine wp_iconst (v := nI 1) dX3_remove_39 rfl ?_
      refine wp_iadd_n dX3_remove_40 ?_
      refine wp_iald dX3_remove_41 (by decide) rfl (show _ < 12 by omega) (by first | omega | (split <;> omega)) ?_
      refine wp_iast dX3_remove_42 (by decide) rfl (show _ < 12 by omega) (by first | omega | (split <;> omega)) ?_
      refine wp_D (fun D68 eD68 => ?_)
      have k69 : D68.1 1 2 = nI (r - 1) := by rw [eD68, sr_sI_1, if_neg (by omega)]; exact kr
      refine wp_aload_n dX3_remove_43 rfl rfl ?_
      refine wp_getR (r := 3) dX3_remove_44 fl_X3_25 (by decide) rfl rfl rfl ?_
      refine wp_iload_n dX3_remove_47 rfl rfl ?_
      refine wp_aload_n dX3_remove_48 rfl rfl ?_
      refine wp_getR (r := 3) dX3_remove_49 fl_X3_25 (by decide) rfl rfl rfl ?_
      refine wp_iload_n dX3_remove_52 rfl rfl ?_
      refine wp_iconst (v := nI 1) dX3_remove_53 rfl ?_
      refine wp_iadd_n dX3_remove_54 ?_
      refine wp_iald dX3_remove_55 (by decide) rfl (show _ < 12 by omega) (by first | omega | (split <;> omega)) ?_
      refine wp_iast dX3_remove_56 (by decide) rfl (show _ < 12 by omega) (by first | omega | (split <;> omega)) ?_
      refine wp_D (fun D70 eD70 => ?_)
      have k71 : D70.1 1 2 = nI (r - 1) := by rw [eD70, sr_sI_1, if_neg (by omega)]; exact k69
      refine wp_aload_n dX3_remove_57 rfl rfl ?_
      refine wp_getR (r := 4) dX3_remove_58 fl_X3_28 (by decide) rfl rfl rfl ?_
      refine wp_iload_n dX3_remove_61 rfl rfl ?_
      refine wp_aload_n dX3_remove_62 rfl rfl ?_
      refine wp_getR (r := 4) dX3_remove_63 fl_X3_28 (by decide) rfl rfl rfl ?_
      refine wp_iload_n dX3_remove_66 rfl rfl ?_
      refine wp_iconst (v := nI 1) dX3_remove_67 rfl ?_
      refine wp_iadd_n dX3_remove_68 ?_
      refine wp_iald dX3_remove_69 (by decide) rfl (show _ < 12 by omega) (by first | omega | (split <;> omega)) ?_
      refine wp_iast dX3_remove_70 (by decide) rfl (show _ < 12 by omega) (by first | omega | (split <;> omega)) ?_
      refine wp_D (fun D72 eD72 => ?_)
      have k73 : D72.1 1 2 = nI (r - 1) := by rw [eD72, sr_sI_1, if_neg (by omega)]; exact k71
      refine wp_aload_n dX3_remove_71 rfl rfl ?_
      refine wp_getR (r := 5) dX3_remove_72 fl_X3_31 (by decide) rfl rfl rfl ?_
      refine wp_iload_n dX3_remove_75 rfl rfl ?_
      refine wp_aload_n dX3_remove_76 rfl rfl ?_
      refine wp_getR (r := 5) dX3_remove_77 fl_X3_31 (by decide) rfl rfl rfl ?_
      refine wp_iload_n dX3_remove_80 rfl rfl ?_
      refine wp_iconst (v := nI 1) dX3_remove_81 rfl ?_
      refine wp_iadd_n dX3_remove_82 ?_
      refine wp_iald dX3_remove_83 (by decide) rfl (show _ < 12 by omega) (by first | omega | (split <;> omega)) ?_
      refine wp_iast dX3_remove_84 (by decide) rfl (show _ < 12 by omega) (by first | omega | (split <;> omega)) ?_
      refine wp_D (fun D74 eD74 => ?_)
      have k75 : D74.1 1 2 = nI (r - 1) := by rw [eD74, sr_sI_1, if_neg (by omega)]; exact k73
      refine wp_iinc_n (b := 1) (lv' := [(0, .ref 1), (1, .int (nI q)), (2, .int (nI (i + 1)))]) dX3_remove_85 rfl rfl (by decide) rfl ?_
      refine wp_goto (tgt := 21) dX3_remove_88 (by decide) ?_
      refine wp_D (fun F eF => ?_)
      have hF : F = (sr_4 (sr_sI D 1 2 (nI (r - 1))) 1 (fun p => sr_sh (D.1 p) q (i + 1))) := by
        rw [eF]
        subst eD68 eD70 eD72 eD74
        subst eE
        refine sr_ext (fun p k => ?_) rfl
        by_cases e2 : p = 2
        · subst e2; simp [sr_sI_1, sr_4_1, ← sr_sh_step hqi]
        · by_cases e3 : p = 3
          · subst e3; simp [sr_sI_1, sr_4_1, ← sr_sh_step hqi]
          · by_cases e4 : p = 4
            · subst e4; simp [sr_sI_1, sr_4_1, ← sr_sh_step hqi]
            · by_cases e5 : p = 5
              · subst e5; simp [sr_sI_1, sr_4_1, ← sr_sh_step hqi]
              · simp only [sr_sI_1, sr_4_1, e2, e3, e4, e5, false_and, if_false]; rw [if_neg (by omega), if_neg (by omega)]
      rw [hF]; exact ih (by omega) (by omega)
  refine wp_aload_n dX3_remove_0 rfl rfl ?_
  refine wp_iload_n dX3_remove_1 rfl rfl ?_
  refine wp_callV (M2 := M_X3_hasRace) (n := 1) (As := [.int (nI q)]) (st := []) dX3_remove_2 (c_X3_hasRace1 g D r hr (by omega) (nI q)) ca_X3_44 ⟨nm_X3_hasRace, by decide, by decide⟩ rfl (by decide) rfl rfl rfl (Nat.le_of_ble_eq_true rfl) (fun r76 E77 q78 => ?_)
  obtain ⟨rfl, rfl⟩ := q78
  show WP g _ _ _ (.int (sr_b (sr_isIn (nI q) (nI 0) (nI r - nI 1))) :: _) _ _
  refine wp_if_ne_b (tgt := 9) dX3_remove_5 (by decide) (fun c79 => ?_) (fun c79 => ?_)
  · refine wp_aload_n dX3_remove_9 rfl rfl ?_
    refine wp_dup dX3_remove_10 rfl ?_
    refine wp_getI_n (n := r) dX3_remove_11 fl_X3_18 (by decide) rfl rfl (hr) ?_
    refine wp_iconst (v := nI 1) dX3_remove_14 rfl ?_
    refine wp_isub_n dX3_remove_15 (by omega) ?_
    refine wp_putI dX3_remove_16 fl_X3_18 (by decide) rfl rfl ?_
    refine wp_D (fun D80 eD80 => ?_)
    have k82 : D80.1 1 2 = nI (r - 1) := by rw [eD80, sr_sI_1, if_pos ⟨rfl, rfl⟩]
    refine wp_iload_n dX3_remove_19 rfl rfl ?_
    refine wp_istore_n (lv' := [(0, .ref 1), (1, .int (nI q)), (2, .int (nI q))]) dX3_remove_20 rfl (by decide) rfl ?_
    subst eD80
    have h := hL q (by omega) (Nat.le_refl _)
    rw [sr_4_self _ _ _ (fun p a b => by rw [sr_sh_0]; funext k; rw [sr_sI_1, if_neg (by omega)])] at h
    exact h
  · exact absurd ((sr_in_n (by omega)).mpr ⟨q, hq, rfl⟩) (by rw [c79]; decide)
set_option maxHeartbeats 4000000 in
set_option maxRecDepth 100000 in
theorem c_X3_copyFrom1 (g : sr_G) (D : sr_St) (r : Nat) (hr : D.1 9 2 = nI r) (hr12 : r ≤ 12)  : Con g M_X3_copyFrom [.ref 1, .ref 9] D (sr_ret (none) ((sr_4 (sr_sI (sr_sI (sr_sI D 1 0 (D.1 9 0)) 1 1 (D.1 9 1)) 1 2 (nI r)) 1 (fun p => sr_cp (D.1 (p + 8)) (D.1 p) r)))) := by
  refine Con.of pn_X3_copyFrom (Nat.le_of_ble_eq_true rfl) ?_
  show WP g M_X3_copyFrom 0 [(0, .ref 1), (1, .ref 9)] [] D _
  have hL : ∀ i, i ≤ r → WP g M_X3_copyFrom 26 [(0, .ref 1), (1, .ref 9), (2, .int (nI i))] [] (sr_4 (sr_sI (sr_sI (sr_sI D 1 0 (D.1 9 0)) 1 1 (D.1 9 1)) 1 2 (nI r)) 1 (fun p => sr_cp (D.1 (p + 8)) (D.1 p) i)) (sr_ret none (sr_4 (sr_sI (sr_sI (sr_sI D 1 0 (D.1 9 0)) 1 1 (D.1 9 1)) 1 2 (nI r)) 1 (fun p => sr_cp (D.1 (p + 8)) (D.1 p) r))) := by
    refine sr_up (fun i hi ih => ?_)
    refine wp_D (fun E eE => ?_)
    have kr : E.1 1 2 = nI r := by rw [eE, sr_4_1, if_neg (by omega)]; rfl
    refine wp_iload_n dX3_copyFrom_26 rfl rfl ?_
    refine wp_aload_n dX3_copyFrom_27 rfl rfl ?_
    refine wp_getI_n (n := r) dX3_copyFrom_28 fl_X3_18 (by decide) rfl rfl (kr) ?_
    refine wp_icmp_ge_n (tgt := 88) dX3_copyFrom_31 (by decide) (by first | omega | (split <;> omega)) (by first | omega | (split <;> omega)) (fun c83 => ?_) (fun c83 => ?_)
    · have hie : i = r := by omega
      subst hie
      exact wp_vret dX3_copyFrom_88 rfl ⟨rfl, eE.symm⟩
    · refine wp_aload_n dX3_copyFrom_34 rfl rfl ?_
      refine wp_getR (r := 2) dX3_copyFrom_35 fl_X3_21 (by decide) rfl rfl rfl ?_
      refine wp_iload_n dX3_copyFrom_38 rfl rfl ?_
      refine wp_aload_n dX3_copyFrom_39 rfl rfl ?_
      refine wp_getR (r := 10) dX3_copyFrom_40 fl_X3_21 (by decide) rfl rfl rfl ?_
      refine wp_iload_n dX3_copyFrom_43 rfl rfl ?_
      refine wp_iald dX3_copyFrom_44 (by decide) rfl (show _ < 12 by omega) (by first | omega | (split <;> omega)) ?_
      refine wp_iast dX3_copyFrom_45 (by decide) rfl (show _ < 12 by omega) (by first | omega | (split <;> omega)) ?_
      refine wp_D (fun D84 eD84 => ?_)
      have k85 : D84.1 1 2 = nI r := by rw [eD84, sr_sI_1, if_neg (by omega)]; exact kr
      refine wp_aload_n dX3_copyFrom_46 rfl rfl ?_
      refine wp_getR (r := 3) dX3_copyFrom_47 fl_X3_25 (by decide) rfl rfl rfl ?_
      refine wp_iload_n dX3_copyFrom_50 rfl rfl ?_
      refine wp_aload_n dX3_copyFrom_51 rfl rfl ?_
      refine wp_getR (r := 11) dX3_copyFrom_52 fl_X3_25 (by decide) rfl rfl rfl ?_
      refine wp_iload_n dX3_copyFrom_55 rfl rfl ?_
      refine wp_iald dX3_copyFrom_56 (by decide) rfl (show _ < 12 by omega) (by first | omega | (split <;> omega)) ?_
      refine wp_iast dX3_copyFrom_57 (by decide) rfl (show _ < 12 by omega) (by first | omega | (split <;> omega)) ?_
      refine wp_D (fun D86 eD86 => ?_)
      have k87 : D86.1 1 2 = nI r := by rw [eD86, sr_sI_1, if_neg (by omega)]; exact k85
      refine wp_aload_n dX3_copyFrom_58 rfl rfl ?_
      refine wp_getR (r := 4) dX3_copyFrom_59 fl_X3_28 (by decide) rfl rfl rfl ?_
      refine wp_iload_n dX3_copyFrom_62 rfl rfl ?_
      refine wp_aload_n dX3_copyFrom_63 rfl rfl ?_
      refine wp_getR (r := 12) dX3_copyFrom_64 fl_X3_28 (by decide) rfl rfl rfl ?_
      refine wp_iload_n dX3_copyFrom_67 rfl rfl ?_
      refine wp_iald dX3_copyFrom_68 (by decide) rfl (show _ < 12 by omega) (by first | omega | (split <;> omega)) ?_
      refine wp_iast dX3_copyFrom_69 (by decide) rfl (show _ < 12 by omega) (by first | omega | (split <;> omega)) ?_
      refine wp_D (fun D88 eD88 => ?_)
      have k89 : D88.1 1 2 = nI r := by rw [eD88, sr_sI_1, if_neg (by omega)]; exact k87
      refine wp_aload_n dX3_copyFrom_70 rfl rfl ?_
      refine wp_getR (r := 5) dX3_copyFrom_71 fl_X3_31 (by decide) rfl rfl rfl ?_
      refine wp_iload_n dX3_copyFrom_74 rfl rfl ?_
      refine wp_aload_n dX3_copyFrom_75 rfl rfl ?_
      refine wp_getR (r := 13) dX3_copyFrom_76 fl_X3_31 (by decide) rfl rfl rfl ?_
      refine wp_iload_n dX3_copyFrom_79 rfl rfl ?_
      refine wp_iald dX3_copyFrom_80 (by decide) rfl (show _ < 12 by omega) (by first | omega | (split <;> omega)) ?_
      refine wp_iast dX3_copyFrom_81 (by decide) rfl (show _ < 12 by omega) (by first | omega | (split <;> omega)) ?_
      refine wp_D (fun D90 eD90 => ?_)
      have k91 : D90.1 1 2 = nI r := by rw [eD90, sr_sI_1, if_neg (by omega)]; exact k89
      refine wp_iinc_n (b := 1) (lv' := [(0, .ref 1), (1, .ref 9), (2, .int (nI (i + 1)))]) dX3_copyFrom_82 rfl rfl (by decide) rfl ?_
      refine wp_goto (tgt := 26) dX3_copyFrom_85 (by decide) ?_
      refine wp_D (fun F eF => ?_)
      have hF : F = (sr_4 (sr_sI (sr_sI (sr_sI D 1 0 (D.1 9 0)) 1 1 (D.1 9 1)) 1 2 (nI r)) 1 (fun p => sr_cp (D.1 (p + 8)) (D.1 p) (i + 1))) := by
        rw [eF]
        subst eD84 eD86 eD88 eD90
        subst eE
        refine sr_ext (fun p k => ?_) rfl
        by_cases e1 : p = 2
        · subst e1; simp [sr_sI_1, sr_4_1, ← sr_cp_step]
        · skip
          by_cases e2 : p = 3
          · subst e2; simp [sr_sI_1, sr_4_1, ← sr_cp_step]
          · skip
            by_cases e3 : p = 4
            · subst e3; simp [sr_sI_1, sr_4_1, ← sr_cp_step]
            · skip
              by_cases e4 : p = 5
              · subst e4; simp [sr_sI_1, sr_4_1, ← sr_cp_step]
              · skip
                simp only [sr_sI_1, sr_4_1, e1, e2, e3, e4, false_and, if_false]; rw [if_neg (by omega), if_neg (by omega)]
      rw [hF]; exact ih (by omega)
  refine wp_aload_n dX3_copyFrom_0 rfl rfl ?_
  refine wp_aload_n dX3_copyFrom_1 rfl rfl ?_
  refine wp_getI dX3_copyFrom_2 fl_X3_9 (by decide) rfl rfl ?_
  refine wp_putI dX3_copyFrom_5 fl_X3_9 (by decide) rfl rfl ?_
  refine wp_D (fun D92 eD92 => ?_)
  have k93 : D92.1 9 2 = nI r := by rw [eD92, sr_sI_1, if_neg (by omega)]; exact hr
  refine wp_aload_n dX3_copyFrom_8 rfl rfl ?_
  refine wp_aload_n dX3_copyFrom_9 rfl rfl ?_
  refine wp_getI dX3_copyFrom_10 fl_X3_15 (by decide) rfl rfl ?_
  refine wp_putI dX3_copyFrom_13 fl_X3_15 (by decide) rfl rfl ?_
  refine wp_D (fun D94 eD94 => ?_)
  have k95 : D94.1 9 2 = nI r := by rw [eD94, sr_sI_1, if_neg (by omega)]; exact k93
  refine wp_aload_n dX3_copyFrom_16 rfl rfl ?_
  refine wp_aload_n dX3_copyFrom_17 rfl rfl ?_
  refine wp_getI_n (n := r) dX3_copyFrom_18 fl_X3_18 (by decide) rfl rfl (k95) ?_
  refine wp_putI dX3_copyFrom_21 fl_X3_18 (by decide) rfl rfl ?_
  refine wp_D (fun D96 eD96 => ?_)
  have k97 : D96.1 9 2 = nI r := by rw [eD96, sr_sI_1, if_neg (by omega)]; exact k95
  refine wp_iconst (v := nI 0) dX3_copyFrom_24 rfl ?_
  refine wp_istore_n (lv' := [(0, .ref 1), (1, .ref 9), (2, .int (nI 0))]) dX3_copyFrom_25 rfl (by decide) rfl ?_
  refine wp_D (fun F eF => ?_)
  have hF : F = (sr_4 (sr_sI (sr_sI (sr_sI D 1 0 (D.1 9 0)) 1 1 (D.1 9 1)) 1 2 (nI r)) 1 (fun p => sr_cp (D.1 (p + 8)) (D.1 p) 0)) := by
    rw [eF]
    subst eD92 eD94 eD96
    rw [sr_4_self _ _ _ (fun p a b => by rw [sr_cp_0]; funext k; rw [sr_sI_1, if_neg (by omega), sr_sI_1, if_neg (by omega), sr_sI_1, if_neg (by omega)])]
    simp [sr_sI_1]
  rw [hF]; exact hL 0 (by omega)
set_option maxHeartbeats 4000000 in
set_option maxRecDepth 100000 in
theorem c_X3_copyFrom9 (g : sr_G) (D : sr_St) (r : Nat) (hr : D.1 1 2 = nI r) (hr12 : r ≤ 12)  : Con g M_X3_copyFrom [.ref 9, .ref 1] D (sr_ret (none) ((sr_4 (sr_sI (sr_sI (sr_sI D 9 0 (D.1 1 0)) 9 1 (D.1 1 1)) 9 2 (nI r)) 9 (fun p => sr_cp (D.1 (p - 8)) (D.1 p) r)))) := by
  refine Con.of pn_X3_copyFrom (Nat.le_of_ble_eq_true rfl) ?_
  show WP g M_X3_copyFrom 0 [(0, .ref 9), (1, .ref 1)] [] D _
  have hL : ∀ i, i ≤ r → WP g M_X3_copyFrom 26 [(0, .ref 9), (1, .ref 1), (2, .int (nI i))] [] (sr_4 (sr_sI (sr_sI (sr_sI D 9 0 (D.1 1 0)) 9 1 (D.1 1 1)) 9 2 (nI r)) 9 (fun p => sr_cp (D.1 (p - 8)) (D.1 p) i)) (sr_ret none (sr_4 (sr_sI (sr_sI (sr_sI D 9 0 (D.1 1 0)) 9 1 (D.1 1 1)) 9 2 (nI r)) 9 (fun p => sr_cp (D.1 (p - 8)) (D.1 p) r))) := by
    refine sr_up (fun i hi ih => ?_)
    refine wp_D (fun E eE => ?_)
    have kr : E.1 9 2 = nI r := by rw [eE, sr_4_1, if_neg (by omega)]; rfl
    refine wp_iload_n dX3_copyFrom_26 rfl rfl ?_
    refine wp_aload_n dX3_copyFrom_27 rfl rfl ?_
    refine wp_getI_n (n := r) dX3_copyFrom_28 fl_X3_18 (by decide) rfl rfl (kr) ?_
    refine wp_icmp_ge_n (tgt := 88) dX3_copyFrom_31 (by decide) (by first | omega | (split <;> omega)) (by first | omega | (split <;> omega)) (fun c98 => ?_) (fun c98 => ?_)
    · have hie : i = r := by omega
      subst hie
      exact wp_vret dX3_copyFrom_88 rfl ⟨rfl, eE.symm⟩
    · refine wp_aload_n dX3_copyFrom_34 rfl rfl ?_
      refine wp_getR (r := 10) dX3_copyFrom_35 fl_X3_21 (by decide) rfl rfl rfl ?_
      refine wp_iload_n dX3_copyFrom_38 rfl rfl ?_
      refine wp_aload_n dX3_copyFrom_39 rfl rfl ?_
      refine wp_getR (r := 2) dX3_copyFrom_40 fl_X3_21 (by decide) rfl rfl rfl ?_
      refine wp_iload_n dX3_copyFrom_43 rfl rfl ?_
      refine wp_iald dX3_copyFrom_44 (by decide) rfl (show _ < 12 by omega) (by first | omega | (split <;> omega)) ?_
      refine wp_iast dX3_copyFrom_45 (by decide) rfl (show _ < 12 by omega) (by first | omega | (split <;> omega)) ?_
      refine wp_D (fun D99 eD99 => ?_)
      have k100 : D99.1 9 2 = nI r := by rw [eD99, sr_sI_1, if_neg (by omega)]; exact kr
      refine wp_aload_n dX3_copyFrom_46 rfl rfl ?_
      refine wp_getR (r := 11) dX3_copyFrom_47 fl_X3_25 (by decide) rfl rfl rfl ?_
      refine wp_iload_n dX3_copyFrom_50 rfl rfl ?_
      refine wp_aload_n dX3_copyFrom_51 rfl rfl ?_
      refine wp_getR (r := 3) dX3_copyFrom_52 fl_X3_25 (by decide) rfl rfl rfl ?_
      refine wp_iload_n dX3_copyFrom_55 rfl rfl ?_
      refine wp_iald dX3_copyFrom_56 (by decide) rfl (show _ < 12 by omega) (by first | omega | (split <;> omega)) ?_
      refine wp_iast dX3_copyFrom_57 (by decide) rfl (show _ < 12 by omega) (by first | omega | (split <;> omega)) ?_
      refine wp_D (fun D101 eD101 => ?_)
      have k102 : D101.1 9 2 = nI r := by rw [eD101, sr_sI_1, if_neg (by omega)]; exact k100
      refine wp_aload_n dX3_copyFrom_58 rfl rfl ?_
      refine wp_getR (r := 12) dX3_copyFrom_59 fl_X3_28 (by decide) rfl rfl rfl ?_
      refine wp_iload_n dX3_copyFrom_62 rfl rfl ?_
      refine wp_aload_n dX3_copyFrom_63 rfl rfl ?_
      refine wp_getR (r := 4) dX3_copyFrom_64 fl_X3_28 (by decide) rfl rfl rfl ?_
      refine wp_iload_n dX3_copyFrom_67 rfl rfl ?_
      refine wp_iald dX3_copyFrom_68 (by decide) rfl (show _ < 12 by omega) (by first | omega | (split <;> omega)) ?_
      refine wp_iast dX3_copyFrom_69 (by decide) rfl (show _ < 12 by omega) (by first | omega | (split <;> omega)) ?_
      refine wp_D (fun D103 eD103 => ?_)
      have k104 : D103.1 9 2 = nI r := by rw [eD103, sr_sI_1, if_neg (by omega)]; exact k102
      refine wp_aload_n dX3_copyFrom_70 rfl rfl ?_
      refine wp_getR (r := 13) dX3_copyFrom_71 fl_X3_31 (by decide) rfl rfl rfl ?_
      refine wp_iload_n dX3_copyFrom_74 rfl rfl ?_
      refine wp_aload_n dX3_copyFrom_75 rfl rfl ?_
      refine wp_getR (r := 5) dX3_copyFrom_76 fl_X3_31 (by decide) rfl rfl rfl ?_
      refine wp_iload_n dX3_copyFrom_79 rfl rfl ?_
      refine wp_iald dX3_copyFrom_80 (by decide) rfl (show _ < 12 by omega) (by first | omega | (split <;> omega)) ?_
      refine wp_iast dX3_copyFrom_81 (by decide) rfl (show _ < 12 by omega) (by first | omega | (split <;> omega)) ?_
      refine wp_D (fun D105 eD105 => ?_)
      have k106 : D105.1 9 2 = nI r := by rw [eD105, sr_sI_1, if_neg (by omega)]; exact k104
      refine wp_iinc_n (b := 1) (lv' := [(0, .ref 9), (1, .ref 1), (2, .int (nI (i + 1)))]) dX3_copyFrom_82 rfl rfl (by decide) rfl ?_
      refine wp_goto (tgt := 26) dX3_copyFrom_85 (by decide) ?_
      refine wp_D (fun F eF => ?_)
      have hF : F = (sr_4 (sr_sI (sr_sI (sr_sI D 9 0 (D.1 1 0)) 9 1 (D.1 1 1)) 9 2 (nI r)) 9 (fun p => sr_cp (D.1 (p - 8)) (D.1 p) (i + 1))) := by
        rw [eF]
        subst eD99 eD101 eD103 eD105
        subst eE
        refine sr_ext (fun p k => ?_) rfl
        by_cases e1 : p = 10
        · subst e1; simp [sr_sI_1, sr_4_1, ← sr_cp_step]
        · skip
          by_cases e2 : p = 11
          · subst e2; simp [sr_sI_1, sr_4_1, ← sr_cp_step]
          · skip
            by_cases e3 : p = 12
            · subst e3; simp [sr_sI_1, sr_4_1, ← sr_cp_step]
            · skip
              by_cases e4 : p = 13
              · subst e4; simp [sr_sI_1, sr_4_1, ← sr_cp_step]
              · skip
                simp only [sr_sI_1, sr_4_1, e1, e2, e3, e4, false_and, if_false]; rw [if_neg (by omega), if_neg (by omega)]
      rw [hF]; exact ih (by omega)
  refine wp_aload_n dX3_copyFrom_0 rfl rfl ?_
  refine wp_aload_n dX3_copyFrom_1 rfl rfl ?_
  refine wp_getI dX3_copyFrom_2 fl_X3_9 (by decide) rfl rfl ?_
  refine wp_putI dX3_copyFrom_5 fl_X3_9 (by decide) rfl rfl ?_
  refine wp_D (fun D107 eD107 => ?_)
  have k108 : D107.1 1 2 = nI r := by rw [eD107, sr_sI_1, if_neg (by omega)]; exact hr
  refine wp_aload_n dX3_copyFrom_8 rfl rfl ?_
  refine wp_aload_n dX3_copyFrom_9 rfl rfl ?_
  refine wp_getI dX3_copyFrom_10 fl_X3_15 (by decide) rfl rfl ?_
  refine wp_putI dX3_copyFrom_13 fl_X3_15 (by decide) rfl rfl ?_
  refine wp_D (fun D109 eD109 => ?_)
  have k110 : D109.1 1 2 = nI r := by rw [eD109, sr_sI_1, if_neg (by omega)]; exact k108
  refine wp_aload_n dX3_copyFrom_16 rfl rfl ?_
  refine wp_aload_n dX3_copyFrom_17 rfl rfl ?_
  refine wp_getI_n (n := r) dX3_copyFrom_18 fl_X3_18 (by decide) rfl rfl (k110) ?_
  refine wp_putI dX3_copyFrom_21 fl_X3_18 (by decide) rfl rfl ?_
  refine wp_D (fun D111 eD111 => ?_)
  have k112 : D111.1 1 2 = nI r := by rw [eD111, sr_sI_1, if_neg (by omega)]; exact k110
  refine wp_iconst (v := nI 0) dX3_copyFrom_24 rfl ?_
  refine wp_istore_n (lv' := [(0, .ref 9), (1, .ref 1), (2, .int (nI 0))]) dX3_copyFrom_25 rfl (by decide) rfl ?_
  refine wp_D (fun F eF => ?_)
  have hF : F = (sr_4 (sr_sI (sr_sI (sr_sI D 9 0 (D.1 1 0)) 9 1 (D.1 1 1)) 9 2 (nI r)) 9 (fun p => sr_cp (D.1 (p - 8)) (D.1 p) 0)) := by
    rw [eF]
    subst eD107 eD109 eD111
    rw [sr_4_self _ _ _ (fun p a b => by rw [sr_cp_0]; funext k; rw [sr_sI_1, if_neg (by omega), sr_sI_1, if_neg (by omega), sr_sI_1, if_neg (by omega)])]
    simp [sr_sI_1]
  rw [hF]; exact hL 0 (by omega)
def sr_cswap (f2 f3 f5 : Nat → Int32) (x y i j : Nat) : Bool := decide (f5 x = f5 y) && (decide (f2 x &&& nI (1 * 2 ^ i ||| 1 * 2 ^ j) = nI (1 * 2 ^ i)) && (decide (f3 x &&& nI (1 * 2 ^ i ||| 1 * 2 ^ j) = nI (1 * 2 ^ j)) && (decide (f2 y = f2 x ^^^ nI (1 * 2 ^ i ||| 1 * 2 ^ j)) && decide (f3 y = f3 x ^^^ nI (1 * 2 ^ i ||| 1 * 2 ^ j)))))
set_option maxHeartbeats 4000000 in
set_option maxRecDepth 100000 in
theorem c_X3_isSwap (g : sr_G) (D : sr_St) (x y i j : Nat) (hx : x < 12) (hy : y < 12) (hi : i < 6) (hj : j < 6)  : Con g M_X3_isSwap [.ref 1, .int (nI x), .int (nI y), .int (nI i), .int (nI j)] D (sr_ret (some (.int (sr_b (sr_cswap (D.1 2) (D.1 3) (D.1 5) x y i j)))) D) := by
  refine Con.of pn_X3_isSwap (Nat.le_of_ble_eq_true rfl) ?_
  show WP g M_X3_isSwap 0 [(0, .ref 1), (1, .int (nI x)), (2, .int (nI y)), (3, .int (nI i)), (4, .int (nI j))] [] D _
  have hp1 := sr_pw1 (i := i) (by omega)
  have hp2 := sr_pw1 (i := j) (by omega)
  refine wp_iconst (v := nI 1) dX3_isSwap_0 rfl ?_
  refine wp_iload_n dX3_isSwap_1 rfl rfl ?_
  refine wp_ishl_n dX3_isSwap_2 (by omega) (hp1) ?_
  refine wp_iconst (v := nI 1) dX3_isSwap_3 rfl ?_
  refine wp_iload dX3_isSwap_4 rfl ?_
  refine wp_ishl_n dX3_isSwap_6 (by omega) (hp2) ?_
  refine wp_ior_n dX3_isSwap_7 ?_
  refine wp_istore (lv' := [(0, .ref 1), (1, .int (nI x)), (2, .int (nI y)), (3, .int (nI i)), (4, .int (nI j)), (5, .int (nI ((1 * 2 ^ i) ||| (1 * 2 ^ j))))]) dX3_isSwap_8 (by decide) rfl ?_
  refine wp_aload_n dX3_isSwap_10 rfl rfl ?_
  refine wp_getR (r := 5) dX3_isSwap_11 fl_X3_31 (by decide) rfl rfl rfl ?_
  refine wp_iload_n dX3_isSwap_14 rfl rfl ?_
  refine wp_iald dX3_isSwap_15 (by decide) rfl (show _ < 12 by omega) (by first | omega | (split <;> omega)) ?_
  refine wp_aload_n dX3_isSwap_16 rfl rfl ?_
  refine wp_getR (r := 5) dX3_isSwap_17 fl_X3_31 (by decide) rfl rfl rfl ?_
  refine wp_iload_n dX3_isSwap_20 rfl rfl ?_
  refine wp_iald dX3_isSwap_21 (by decide) rfl (show _ < 12 by omega) (by first | omega | (split <;> omega)) ?_
  refine wp_icmp_ne (tgt := 96) dX3_isSwap_22 (by decide) (fun c113 => ?_) (fun c113 => ?_)
  · refine wp_iconst (v := nI 0) dX3_isSwap_96 rfl ?_
    refine wp_zret dX3_isSwap_97 rfl (Or.inl rfl) ⟨?_, rfl⟩
    refine sr_bf (Bool.eq_false_iff.mpr (fun h => ?_))
    unfold sr_cswap at h
    simp only [Bool.and_eq_true, decide_eq_true_eq] at h
    obtain ⟨h1, h2, h3, h4, h5⟩ := h
    contradiction
  · refine wp_aload_n dX3_isSwap_25 rfl rfl ?_
    refine wp_getR (r := 2) dX3_isSwap_26 fl_X3_21 (by decide) rfl rfl rfl ?_
    refine wp_iload_n dX3_isSwap_29 rfl rfl ?_
    refine wp_iald dX3_isSwap_30 (by decide) rfl (show _ < 12 by omega) (by first | omega | (split <;> omega)) ?_
    refine wp_iload dX3_isSwap_31 rfl ?_
    refine wp_iand dX3_isSwap_33 ?_
    refine wp_iconst (v := nI 1) dX3_isSwap_34 rfl ?_
    refine wp_iload_n dX3_isSwap_35 rfl rfl ?_
    refine wp_ishl_n dX3_isSwap_36 (by omega) (hp1) ?_
    refine wp_icmp_ne (tgt := 96) dX3_isSwap_37 (by decide) (fun c114 => ?_) (fun c114 => ?_)
    · refine wp_iconst (v := nI 0) dX3_isSwap_96 rfl ?_
      refine wp_zret dX3_isSwap_97 rfl (Or.inl rfl) ⟨?_, rfl⟩
      refine sr_bf (Bool.eq_false_iff.mpr (fun h => ?_))
      unfold sr_cswap at h
      simp only [Bool.and_eq_true, decide_eq_true_eq] at h
      obtain ⟨h1, h2, h3, h4, h5⟩ := h
      contradiction
    · refine wp_aload_n dX3_isSwap_40 rfl rfl ?_
      refine wp_getR (r := 3) dX3_isSwap_41 fl_X3_25 (by decide) rfl rfl rfl ?_
      refine wp_iload_n dX3_isSwap_44 rfl rfl ?_
      refine wp_iald dX3_isSwap_45 (by decide) rfl (show _ < 12 by omega) (by first | omega | (split <;> omega)) ?_
      refine wp_iload dX3_isSwap_46 rfl ?_
      refine wp_iand dX3_isSwap_48 ?_
      refine wp_iconst (v := nI 1) dX3_isSwap_49 rfl ?_
      refine wp_iload dX3_isSwap_50 rfl ?_
      refine wp_ishl_n dX3_isSwap_52 (by omega) (hp2) ?_
      refine wp_icmp_ne (tgt := 96) dX3_isSwap_53 (by decide) (fun c115 => ?_) (fun c115 => ?_)
      · refine wp_iconst (v := nI 0) dX3_isSwap_96 rfl ?_
        refine wp_zret dX3_isSwap_97 rfl (Or.inl rfl) ⟨?_, rfl⟩
        refine sr_bf (Bool.eq_false_iff.mpr (fun h => ?_))
        unfold sr_cswap at h
        simp only [Bool.and_eq_true, decide_eq_true_eq] at h
        obtain ⟨h1, h2, h3, h4, h5⟩ := h
        contradiction
      · refine wp_aload_n dX3_isSwap_56 rfl rfl ?_
        refine wp_getR (r := 2) dX3_isSwap_57 fl_X3_21 (by decide) rfl rfl rfl ?_
        refine wp_iload_n dX3_isSwap_60 rfl rfl ?_
        refine wp_iald dX3_isSwap_61 (by decide) rfl (show _ < 12 by omega) (by first | omega | (split <;> omega)) ?_
        refine wp_aload_n dX3_isSwap_62 rfl rfl ?_
        refine wp_getR (r := 2) dX3_isSwap_63 fl_X3_21 (by decide) rfl rfl rfl ?_
        refine wp_iload_n dX3_isSwap_66 rfl rfl ?_
        refine wp_iald dX3_isSwap_67 (by decide) rfl (show _ < 12 by omega) (by first | omega | (split <;> omega)) ?_
        refine wp_iload dX3_isSwap_68 rfl ?_
        refine wp_ixor dX3_isSwap_70 ?_
        refine wp_icmp_ne (tgt := 96) dX3_isSwap_71 (by decide) (fun c116 => ?_) (fun c116 => ?_)
        · refine wp_iconst (v := nI 0) dX3_isSwap_96 rfl ?_
          refine wp_zret dX3_isSwap_97 rfl (Or.inl rfl) ⟨?_, rfl⟩
          refine sr_bf (Bool.eq_false_iff.mpr (fun h => ?_))
          unfold sr_cswap at h
          simp only [Bool.and_eq_true, decide_eq_true_eq] at h
          obtain ⟨h1, h2, h3, h4, h5⟩ := h
          contradiction
        · refine wp_aload_n dX3_isSwap_74 rfl rfl ?_
          refine wp_getR (r := 3) dX3_isSwap_75 fl_X3_25 (by decide) rfl rfl rfl ?_
          refine wp_iload_n dX3_isSwap_78 rfl rfl ?_
          refine wp_iald dX3_isSwap_79 (by decide) rfl (show _ < 12 by omega) (by first | omega | (split <;> omega)) ?_
          refine wp_aload_n dX3_isSwap_80 rfl rfl ?_
          refine wp_getR (r := 3) dX3_isSwap_81 fl_X3_25 (by decide) rfl rfl rfl ?_
          refine wp_iload_n dX3_isSwap_84 rfl rfl ?_
          refine wp_iald dX3_isSwap_85 (by decide) rfl (show _ < 12 by omega) (by first | omega | (split <;> omega)) ?_
          refine wp_iload dX3_isSwap_86 rfl ?_
          refine wp_ixor dX3_isSwap_88 ?_
          refine wp_icmp_ne (tgt := 96) dX3_isSwap_89 (by decide) (fun c117 => ?_) (fun c117 => ?_)
          · refine wp_iconst (v := nI 0) dX3_isSwap_96 rfl ?_
            refine wp_zret dX3_isSwap_97 rfl (Or.inl rfl) ⟨?_, rfl⟩
            refine sr_bf (Bool.eq_false_iff.mpr (fun h => ?_))
            unfold sr_cswap at h
            simp only [Bool.and_eq_true, decide_eq_true_eq] at h
            obtain ⟨h1, h2, h3, h4, h5⟩ := h
            contradiction
          · refine wp_iconst (v := nI 1) dX3_isSwap_92 rfl ?_
            refine wp_goto (tgt := 97) dX3_isSwap_93 (by decide) ?_
            refine wp_zret dX3_isSwap_97 rfl (Or.inr rfl) ⟨?_, rfl⟩
            refine sr_bt ?_
            unfold sr_cswap
            simp only [Bool.and_eq_true, decide_eq_true_eq]
            exact ⟨by assumption, by assumption, by assumption, by assumption, by assumption⟩
