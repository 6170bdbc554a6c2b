set_option maxHeartbeats 400000 in
set_option maxRecDepth 100000 in
theorem c_X4_isLetter (g : sr_G) (D : sr_St) (v : Int32)  : Con g M_X4_isLetter [.int v] D (sr_ret (some (.int (sr_b (sr_letter v)))) D) := by
  refine Con.of pn_X4_isLetter (Nat.le_of_ble_eq_true rfl) ?_
  show WP g M_X4_isLetter 0 [(0, .int v)] [] D _
  refine wp_iload_n dX4_isLetter_0 rfl rfl ?_
  refine wp_bipush (v := nI 97) dX4_isLetter_1 rfl ?_
  refine wp_icmp_lt (tgt := 16) dX4_isLetter_3 (by decide) (fun c980 => ?_) (fun c980 => ?_)
  · refine wp_iconst (v := nI 0) dX4_isLetter_16 rfl ?_
    refine wp_zret dX4_isLetter_17 rfl (Or.inl rfl) ?_
    first | exact ⟨sr_bt (sr_in_t (by assumption) (by assumption)), rfl⟩ | exact ⟨sr_bf (sr_in_f1 (by assumption)), rfl⟩ | exact ⟨sr_bf (sr_in_f2 (by assumption)), rfl⟩
  · refine wp_iload_n dX4_isLetter_6 rfl rfl ?_
    refine wp_bipush (v := nI 122) dX4_isLetter_7 rfl ?_
    refine wp_icmp_gt (tgt := 16) dX4_isLetter_9 (by decide) (fun c981 => ?_) (fun c981 => ?_)
    · refine wp_iconst (v := nI 0) dX4_isLetter_16 rfl ?_
      refine wp_zret dX4_isLetter_17 rfl (Or.inl rfl) ?_
      first | exact ⟨sr_bt (sr_in_t (by assumption) (by assumption)), rfl⟩ | exact ⟨sr_bf (sr_in_f1 (by assumption)), rfl⟩ | exact ⟨sr_bf (sr_in_f2 (by assumption)), rfl⟩
    · refine wp_iconst (v := nI 1) dX4_isLetter_12 rfl ?_
      refine wp_goto (tgt := 17) dX4_isLetter_13 (by decide) ?_
      refine wp_zret dX4_isLetter_17 rfl (Or.inr rfl) ?_
      first | exact ⟨sr_bt (sr_in_t (by assumption) (by assumption)), rfl⟩ | exact ⟨sr_bf (sr_in_f1 (by assumption)), rfl⟩ | exact ⟨sr_bf (sr_in_f2 (by assumption)), rfl⟩
set_option maxHeartbeats 400000 in
set_option maxRecDepth 100000 in
theorem c_X4_isDigit (g : sr_G) (D : sr_St) (v : Int32)  : Con g M_X4_isDigit [.int v] D (sr_ret (some (.int (sr_b (sr_digit v)))) D) := by
  refine Con.of pn_X4_isDigit (Nat.le_of_ble_eq_true rfl) ?_
  show WP g M_X4_isDigit 0 [(0, .int v)] [] D _
  refine wp_iload_n dX4_isDigit_0 rfl rfl ?_
  refine wp_bipush (v := nI 48) dX4_isDigit_1 rfl ?_
  refine wp_icmp_lt (tgt := 16) dX4_isDigit_3 (by decide) (fun c982 => ?_) (fun c982 => ?_)
  · refine wp_iconst (v := nI 0) dX4_isDigit_16 rfl ?_
    refine wp_zret dX4_isDigit_17 rfl (Or.inl rfl) ?_
    first | exact ⟨sr_bt (sr_in_t (by assumption) (by assumption)), rfl⟩ | exact ⟨sr_bf (sr_in_f1 (by assumption)), rfl⟩ | exact ⟨sr_bf (sr_in_f2 (by assumption)), rfl⟩
  · refine wp_iload_n dX4_isDigit_6 rfl rfl ?_
    refine wp_bipush (v := nI 57) dX4_isDigit_7 rfl ?_
    refine wp_icmp_gt (tgt := 16) dX4_isDigit_9 (by decide) (fun c983 => ?_) (fun c983 => ?_)
    · refine wp_iconst (v := nI 0) dX4_isDigit_16 rfl ?_
      refine wp_zret dX4_isDigit_17 rfl (Or.inl rfl) ?_
      first | exact ⟨sr_bt (sr_in_t (by assumption) (by assumption)), rfl⟩ | exact ⟨sr_bf (sr_in_f1 (by assumption)), rfl⟩ | exact ⟨sr_bf (sr_in_f2 (by assumption)), rfl⟩
    · refine wp_iconst (v := nI 1) dX4_isDigit_12 rfl ?_
      refine wp_goto (tgt := 17) dX4_isDigit_13 (by decide) ?_
      refine wp_zret dX4_isDigit_17 rfl (Or.inr rfl) ?_
      first | exact ⟨sr_bt (sr_in_t (by assumption) (by assumption)), rfl⟩ | exact ⟨sr_bf (sr_in_f1 (by assumption)), rfl⟩ | exact ⟨sr_bf (sr_in_f2 (by assumption)), rfl⟩
set_option maxHeartbeats 400000 in
set_option maxRecDepth 100000 in
theorem c_X4_append (g : sr_G) (D : sr_St) (t : Nat) (ht : D.1 7 0 = nI t) (ht2 : t + 4 ≤ 300) (w : Int32)  : Con g M_X4_append [.ref 7, .int w] D (sr_ret (none) (sr_sI (sr_rI D 8 (sr_put (D.1 8) t w)) 7 0 (nI (t + 4)))) := by
  refine Con.of pn_X4_append (Nat.le_of_ble_eq_true rfl) ?_
  show WP g M_X4_append 0 [(0, .ref 7), (1, .int w)] [] D _
  refine wp_bipush (v := nI 24) dX4_append_0 rfl ?_
  refine wp_istore_n (lv' := [(0, .ref 7), (1, .int w), (2, .int (nI 24))]) dX4_append_2 rfl (by decide) rfl ?_
  refine wp_iload_n dX4_append_3 rfl rfl ?_
  refine wp_if_lt (tgt := 46) dX4_append_4 (by decide) (fun c984 => absurd c984 (by decide)) (fun _ => ?_)
  refine wp_aload_n dX4_append_7 rfl rfl ?_
  refine wp_getI_n (n := t) dX4_append_8 fl_X4_9 (by decide) rfl rfl (ht) ?_
  refine wp_sipush (v := nI 300) dX4_append_11 rfl ?_
  refine wp_icmp_ge_n (tgt := 46) dX4_append_14 (by decide) (by first | omega | (split <;> omega)) (by first | omega | (split <;> omega)) (fun c985 => ?_) (fun c985 => ?_)
  · exact absurd c985 (by omega)
  · refine wp_aload_n dX4_append_17 rfl rfl ?_
    refine wp_getR (r := 8) dX4_append_18 fl_X4_27 (by decide) rfl rfl rfl ?_
    refine wp_aload_n dX4_append_21 rfl rfl ?_
    refine wp_getI_n (n := t) dX4_append_22 fl_X4_9 (by decide) rfl rfl (ht) ?_
    refine wp_iload_n dX4_append_25 rfl rfl ?_
    refine wp_iload_n dX4_append_26 rfl rfl ?_
    refine wp_ishr dX4_append_27 ?_
    refine wp_i2b dX4_append_28 ?_
    refine wp_bast dX4_append_29 (by decide) rfl (show _ < 300 by omega) (by first | omega | (split <;> omega)) ?_
    refine wp_D (fun D986 eD986 => ?_)
    have k987 : D986.1 7 0 = nI t := by rw [eD986, sr_sI_1, if_neg (by omega)]; exact ht
    refine wp_aload_n dX4_append_30 rfl rfl ?_
    refine wp_dup dX4_append_31 rfl ?_
    refine wp_getI_n (n := t) dX4_append_32 fl_X4_9 (by decide) rfl rfl (k987) ?_
    refine wp_iconst (v := nI 1) dX4_append_35 rfl ?_
    refine wp_iadd_n dX4_append_36 ?_
    refine wp_putI dX4_append_37 fl_X4_9 (by decide) rfl rfl ?_
    refine wp_D (fun D988 eD988 => ?_)
    have k990 : D988.1 7 0 = nI (t + 1) := by rw [eD988, sr_sI_1, if_pos ⟨rfl, rfl⟩]
    refine wp_iinc (v := nI 16) (lv' := [(0, .ref 7), (1, .int w), (2, .int (nI 16))]) dX4_append_40 rfl rfl (by decide) rfl ?_
    refine wp_goto (tgt := 3) dX4_append_43 (by decide) ?_
    refine wp_iload_n dX4_append_3 rfl rfl ?_
    refine wp_if_lt (tgt := 46) dX4_append_4 (by decide) (fun c991 => absurd c991 (by decide)) (fun _ => ?_)
    refine wp_aload_n dX4_append_7 rfl rfl ?_
    refine wp_getI_n (n := t + 1) dX4_append_8 fl_X4_9 (by decide) rfl rfl (k990) ?_
    refine wp_sipush (v := nI 300) dX4_append_11 rfl ?_
    refine wp_icmp_ge_n (tgt := 46) dX4_append_14 (by decide) (by first | omega | (split <;> omega)) (by first | omega | (split <;> omega)) (fun c992 => ?_) (fun c992 => ?_)
    · exact absurd c992 (by omega)
    · refine wp_aload_n dX4_append_17 rfl rfl ?_
      refine wp_getR (r := 8) dX4_append_18 fl_X4_27 (by decide) rfl rfl rfl ?_
      refine wp_aload_n dX4_append_21 rfl rfl ?_
      refine wp_getI_n (n := t + 1) dX4_append_22 fl_X4_9 (by decide) rfl rfl (k990) ?_
      refine wp_iload_n dX4_append_25 rfl rfl ?_
      refine wp_iload_n dX4_append_26 rfl rfl ?_
      refine wp_ishr dX4_append_27 ?_
      refine wp_i2b dX4_append_28 ?_
      refine wp_bast dX4_append_29 (by decide) rfl (show _ < 300 by omega) (by first | omega | (split <;> omega)) ?_
      refine wp_D (fun D993 eD993 => ?_)
      have k994 : D993.1 7 0 = nI (t + 1) := by rw [eD993, sr_sI_1, if_neg (by omega)]; exact k990
      refine wp_aload_n dX4_append_30 rfl rfl ?_
      refine wp_dup dX4_append_31 rfl ?_
      refine wp_getI_n (n := t + 1) dX4_append_32 fl_X4_9 (by decide) rfl rfl (k994) ?_
      refine wp_iconst (v := nI 1) dX4_append_35 rfl ?_
      refine wp_iadd_n dX4_append_36 ?_
      refine wp_putI dX4_append_37 fl_X4_9 (by decide) rfl rfl ?_
      refine wp_D (fun D995 eD995 => ?_)
      have k997 : D995.1 7 0 = nI ((t + 1) + 1) := by rw [eD995, sr_sI_1, if_pos ⟨rfl, rfl⟩]
      refine wp_iinc (v := nI 8) (lv' := [(0, .ref 7), (1, .int w), (2, .int (nI 8))]) dX4_append_40 rfl rfl (by decide) rfl ?_
      refine wp_goto (tgt := 3) dX4_append_43 (by decide) ?_
      refine wp_iload_n dX4_append_3 rfl rfl ?_
      refine wp_if_lt (tgt := 46) dX4_append_4 (by decide) (fun c998 => absurd c998 (by decide)) (fun _ => ?_)
      refine wp_aload_n dX4_append_7 rfl rfl ?_
      refine wp_getI_n (n := (t + 1) + 1) dX4_append_8 fl_X4_9 (by decide) rfl rfl (k997) ?_
      refine wp_sipush (v := nI 300) dX4_append_11 rfl ?_
      refine wp_icmp_ge_n (tgt := 46) dX4_append_14 (by decide) (by first | omega | (split <;> omega)) (by first | omega | (split <;> omega)) (fun c999 => ?_) (fun c999 => ?_)
      · exact absurd c999 (by omega)
      · refine wp_aload_n dX4_append_17 rfl rfl ?_
        refine wp_getR (r := 8) dX4_append_18 fl_X4_27 (by decide) rfl rfl rfl ?_
        refine wp_aload_n dX4_append_21 rfl rfl ?_
        refine wp_getI_n (n := (t + 1) + 1) dX4_append_22 fl_X4_9 (by decide) rfl rfl (k997) ?_
        refine wp_iload_n dX4_append_25 rfl rfl ?_
        refine wp_iload_n dX4_append_26 rfl rfl ?_
        refine wp_ishr dX4_append_27 ?_
        refine wp_i2b dX4_append_28 ?_
        refine wp_bast dX4_append_29 (by decide) rfl (show _ < 300 by omega) (by first | omega | (split <;> omega)) ?_
        refine wp_D (fun D1000 eD1000 => ?_)
        have k1001 : D1000.1 7 0 = nI ((t + 1) + 1) := by rw [eD1000, sr_sI_1, if_neg (by omega)]; exact k997
        refine wp_aload_n dX4_append_30 rfl rfl ?_
        refine wp_dup dX4_append_31 rfl ?_
        refine wp_getI_n (n := (t + 1) + 1) dX4_append_32 fl_X4_9 (by decide) rfl rfl (k1001) ?_
        refine wp_iconst (v := nI 1) dX4_append_35 rfl ?_
        refine wp_iadd_n dX4_append_36 ?_
        refine wp_putI dX4_append_37 fl_X4_9 (by decide) rfl rfl ?_
        refine wp_D (fun D1002 eD1002 => ?_)
        have k1004 : D1002.1 7 0 = nI (((t + 1) + 1) + 1) := by rw [eD1002, sr_sI_1, if_pos ⟨rfl, rfl⟩]
        refine wp_iinc (v := nI 0) (lv' := [(0, .ref 7), (1, .int w), (2, .int (nI 0))]) dX4_append_40 rfl rfl (by decide) rfl ?_
        refine wp_goto (tgt := 3) dX4_append_43 (by decide) ?_
        refine wp_iload_n dX4_append_3 rfl rfl ?_
        refine wp_if_lt (tgt := 46) dX4_append_4 (by decide) (fun c1005 => absurd c1005 (by decide)) (fun _ => ?_)
        refine wp_aload_n dX4_append_7 rfl rfl ?_
        refine wp_getI_n (n := ((t + 1) + 1) + 1) dX4_append_8 fl_X4_9 (by decide) rfl rfl (k1004) ?_
        refine wp_sipush (v := nI 300) dX4_append_11 rfl ?_
        refine wp_icmp_ge_n (tgt := 46) dX4_append_14 (by decide) (by first | omega | (split <;> omega)) (by first | omega | (split <;> omega)) (fun c1006 => ?_) (fun c1006 => ?_)
        · exact absurd c1006 (by omega)
        · refine wp_aload_n dX4_append_17 rfl rfl ?_
          refine wp_getR (r := 8) dX4_append_18 fl_X4_27 (by decide) rfl rfl rfl ?_
          refine wp_aload_n dX4_append_21 rfl rfl ?_
          refine wp_getI_n (n := ((t + 1) + 1) + 1) dX4_append_22 fl_X4_9 (by decide) rfl rfl (k1004) ?_
          refine wp_iload_n dX4_append_25 rfl rfl ?_
          refine wp_iload_n dX4_append_26 rfl rfl ?_
          refine wp_ishr dX4_append_27 ?_
          refine wp_i2b dX4_append_28 ?_
          refine wp_bast dX4_append_29 (by decide) rfl (show _ < 300 by omega) (by first | omega | (split <;> omega)) ?_
          refine wp_D (fun D1007 eD1007 => ?_)
          have k1008 : D1007.1 7 0 = nI (((t + 1) + 1) + 1) := by rw [eD1007, sr_sI_1, if_neg (by omega)]; exact k1004
          refine wp_aload_n dX4_append_30 rfl rfl ?_
          refine wp_dup dX4_append_31 rfl ?_
          refine wp_getI_n (n := ((t + 1) + 1) + 1) dX4_append_32 fl_X4_9 (by decide) rfl rfl (k1008) ?_
          refine wp_iconst (v := nI 1) dX4_append_35 rfl ?_
          refine wp_iadd_n dX4_append_36 ?_
          refine wp_putI dX4_append_37 fl_X4_9 (by decide) rfl rfl ?_
          refine wp_D (fun D1009 eD1009 => ?_)
          have k1011 : D1009.1 7 0 = nI ((((t + 1) + 1) + 1) + 1) := by rw [eD1009, sr_sI_1, if_pos ⟨rfl, rfl⟩]
          refine wp_iinc (v := (-8)) (lv' := [(0, .ref 7), (1, .int w), (2, .int ((-8)))]) dX4_append_40 rfl rfl (by decide) rfl ?_
          refine wp_goto (tgt := 3) dX4_append_43 (by decide) ?_
          refine wp_iload_n dX4_append_3 rfl rfl ?_
          refine wp_if_lt (tgt := 46) dX4_append_4 (by decide) (fun _ => ?_) (fun c1012 => absurd c1012 (by decide))
          refine wp_vret dX4_append_46 rfl ⟨rfl, ?_⟩
          subst eD986 eD988 eD993 eD995 eD1000 eD1002 eD1007 eD1009
          simp only [sr_sI_r (o := 8), sr_comm_II (show ¬ (8 = 7) by decide), sr_sI_sI, sr_rI_rI, sr_rI_1, if_true, pk_vb]
          rfl
set_option maxHeartbeats 400000 in
set_option maxRecDepth 100000 in
theorem c_X6_feed (g : sr_G) (D : sr_St) (t : Nat) (ht : D.1 7 0 = nI t) (ht2 : t ≤ 300) (p q r s u : Int32)  : Con g M_X6_feed [.ref 0, .int p, .int q, .int r, .int s, .int u] D (sr_ret (some (.int (if t + 20 ≤ 300 then nI (t + 20) else -1))) (if t + 20 ≤ 300 then sr_sI (sr_rI D 8 (sr_feed (D.1 8) t p q r s u)) 7 0 (nI (t + 20)) else D)) := by
  refine Con.of pn_X6_feed (Nat.le_of_ble_eq_true rfl) ?_
  show WP g M_X6_feed 0 [(0, .ref 0), (1, .int p), (2, .int q), (3, .int r), (4, .int s), (5, .int u)] [] D _
  refine wp_aload_n dX6_feed_0 rfl rfl ?_
  refine wp_getR (r := 6) dX6_feed_1 fl_X6_19 (by decide) rfl rfl rfl ?_
  refine wp_getR (r := 7) dX6_feed_4 fl_X6_67 (by decide) rfl rfl rfl ?_
  refine wp_astore (lv' := [(0, .ref 0), (1, .int p), (2, .int q), (3, .int r), (4, .int s), (5, .int u), (6, .ref 7)]) dX6_feed_7 (by decide) rfl ?_
  refine wp_aload dX6_feed_9 rfl ?_
  refine wp_getI_n (n := t) dX6_feed_11 fl_X6_71 (by decide) rfl rfl (ht) ?_
  refine wp_sipush (v := nI 280) dX6_feed_14 rfl ?_
  refine wp_icmp_le_n (tgt := 22) dX6_feed_17 (by decide) (by first | omega | (split <;> omega)) (by first | omega | (split <;> omega)) (fun c1013 => ?_) (fun c1013 => ?_)
  · refine wp_aload dX6_feed_22 rfl ?_
    refine wp_iload_n dX6_feed_24 rfl rfl ?_
    refine wp_callV (M2 := M_X4_append) (n := 1) (As := [.int p]) (st := []) dX6_feed_25 (c_X4_append g D t ht (by omega) p) ca_X6_76 ⟨nm_X4_append, by decide, by decide⟩ rfl (by decide) rfl rfl rfl (Nat.le_of_ble_eq_true rfl) (fun r1014 E1015 q1016 => ?_)
    obtain ⟨rfl, eE1015⟩ := q1016
    have eE1015 := eE1015.symm
    show WP g _ _ _ _ _ _
    have k1017 : E1015.1 7 0 = nI (t + 4) := by rw [eE1015, sr_sI_1, if_pos ⟨rfl, rfl⟩]
    refine wp_aload dX6_feed_28 rfl ?_
    refine wp_iload_n dX6_feed_30 rfl rfl ?_
    refine wp_callV (M2 := M_X4_append) (n := 1) (As := [.int q]) (st := []) dX6_feed_31 (c_X4_append g E1015 (t + 4) k1017 (by omega) q) ca_X6_76 ⟨nm_X4_append, by decide, by decide⟩ rfl (by decide) rfl rfl rfl (Nat.le_of_ble_eq_true rfl) (fun r1018 E1019 q1020 => ?_)
    obtain ⟨rfl, eE1019⟩ := q1020
    have eE1019 := eE1019.symm
    show WP g _ _ _ _ _ _
    have k1021 : E1019.1 7 0 = nI (t + 4 + 4) := by rw [eE1019, sr_sI_1, if_pos ⟨rfl, rfl⟩]
    refine wp_aload dX6_feed_34 rfl ?_
    refine wp_iload_n dX6_feed_36 rfl rfl ?_
    refine wp_callV (M2 := M_X4_append) (n := 1) (As := [.int r]) (st := []) dX6_feed_37 (c_X4_append g E1019 (t + 4 + 4) k1021 (by omega) r) ca_X6_76 ⟨nm_X4_append, by decide, by decide⟩ rfl (by decide) rfl rfl rfl (Nat.le_of_ble_eq_true rfl) (fun r1022 E1023 q1024 => ?_)
    obtain ⟨rfl, eE1023⟩ := q1024
    have eE1023 := eE1023.symm
    show WP g _ _ _ _ _ _
    have k1025 : E1023.1 7 0 = nI (t + 4 + 4 + 4) := by rw [eE1023, sr_sI_1, if_pos ⟨rfl, rfl⟩]
    refine wp_aload dX6_feed_40 rfl ?_
    refine wp_iload dX6_feed_42 rfl ?_
    refine wp_callV (M2 := M_X4_append) (n := 1) (As := [.int s]) (st := []) dX6_feed_44 (c_X4_append g E1023 (t + 4 + 4 + 4) k1025 (by omega) s) ca_X6_76 ⟨nm_X4_append, by decide, by decide⟩ rfl (by decide) rfl rfl rfl (Nat.le_of_ble_eq_true rfl) (fun r1026 E1027 q1028 => ?_)
    obtain ⟨rfl, eE1027⟩ := q1028
    have eE1027 := eE1027.symm
    show WP g _ _ _ _ _ _
    have k1029 : E1027.1 7 0 = nI (t + 4 + 4 + 4 + 4) := by rw [eE1027, sr_sI_1, if_pos ⟨rfl, rfl⟩]
    refine wp_aload dX6_feed_47 rfl ?_
    refine wp_iload dX6_feed_49 rfl ?_
    refine wp_callV (M2 := M_X4_append) (n := 1) (As := [.int u]) (st := []) dX6_feed_51 (c_X4_append g E1027 (t + 4 + 4 + 4 + 4) k1029 (by omega) u) ca_X6_76 ⟨nm_X4_append, by decide, by decide⟩ rfl (by decide) rfl rfl rfl (Nat.le_of_ble_eq_true rfl) (fun r1030 E1031 q1032 => ?_)
    obtain ⟨rfl, eE1031⟩ := q1032
    have eE1031 := eE1031.symm
    show WP g _ _ _ _ _ _
    have k1033 : E1031.1 7 0 = nI (t + 4 + 4 + 4 + 4 + 4) := by rw [eE1031, sr_sI_1, if_pos ⟨rfl, rfl⟩]
    refine wp_aload dX6_feed_54 rfl ?_
    refine wp_getI_n (n := t + 4 + 4 + 4 + 4 + 4) dX6_feed_56 fl_X6_71 (by decide) rfl rfl (k1033) ?_
    refine wp_iret dX6_feed_59 rfl ?_
    rw [if_pos (by omega), if_pos (by omega)]
    subst eE1015 eE1019 eE1023 eE1027 eE1031
    refine ⟨rfl, ?_⟩
    simp only [sr_comm_II (show ¬ (8 = 7) by decide), sr_sI_sI, sr_rI_rI, sr_rI_1, if_true, sr_feed]
    rfl
  · refine wp_iconst (v := -1) dX6_feed_20 rfl ?_
    refine wp_iret dX6_feed_21 rfl ?_
    rw [if_neg (by omega), if_neg (by omega)]
    exact ⟨rfl, rfl⟩
/-- the token at hand: kind, place, value, what is behind -/
def sr_R (D : sr_St) (k p : Nat) (v : Int32) (e : Nat) : sr_St := (fun o => if o = 7 then (fun j => if j = 1 then nI k else if j = 2 then nI p else if j = 3 then v else if j = 4 then nI e else D.1 7 j) else D.1 o, D.2)
section RR
variable {D : sr_St} {k p e x : Nat} {v w : Int32}
theorem sr_R_0 {L : Nat} (h : D.1 7 0 = nI L) : (sr_R D k p v e).1 7 0 = nI L := h
theorem sr_R_1 : (sr_R D k p v e).1 7 1 = nI k := rfl
theorem sr_R_2 : (sr_R D k p v e).1 7 2 = nI p := rfl
theorem sr_R_3 : (sr_R D k p v e).1 7 3 = v := rfl
theorem sr_R_4 : (sr_R D k p v e).1 7 4 = nI e := rfl
theorem sr_R_8 : (sr_R D k p v e).1 8 = D.1 8 := rfl
theorem sr_R_s1 : sr_sI (sr_R D k p v e) 7 1 (nI x) = sr_R D x p v e := by
  refine sr_ext (fun o j => ?_) rfl
  rw [sr_sI_1]; unfold sr_R; by_cases e1 : o = 7 <;> by_cases e2 : j = 1 <;> simp [e1, e2]
theorem sr_R_s2 : sr_sI (sr_R D k p v e) 7 2 (nI x) = sr_R D k x v e := by
  refine sr_ext (fun o j => ?_) rfl
  rw [sr_sI_1]; unfold sr_R; by_cases e1 : o = 7 <;> by_cases e2 : j = 2 <;> simp [e1, e2]
theorem sr_R_s3 : sr_sI (sr_R D k p v e) 7 3 w = sr_R D k p w e := by
  refine sr_ext (fun o j => ?_) rfl
  rw [sr_sI_1]; unfold sr_R; by_cases e1 : o = 7 <;> by_cases e2 : j = 3 <;> simp [e1, e2]
theorem sr_R_s4 : sr_sI (sr_R D k p v e) 7 4 (nI x) = sr_R D k p v x := by
  refine sr_ext (fun o j => ?_) rfl
  rw [sr_sI_1]; unfold sr_R; by_cases e1 : o = 7 <;> by_cases e2 : j = 4 <;> simp [e1, e2]
end RR
/-- a number's kind and value as the class reads it -/
def tk_nk (b : Nat → Int32) (L p : Nat) : Nat := if 1 ≤ sr_numE b L p - sr_dfst b L p ∧ sr_numE b L p - sr_dfst b L p ≤ 3 then 1 else 10
def tk_nv (b : Nat → Int32) (L p : Nat) : Int32 := if b p = nI 45 then -sr_numV b L p else sr_numV b L p
set_option maxHeartbeats 400000 in
set_option maxRecDepth 100000 in
theorem c_X4_readNumber (g : sr_G) (D : sr_St) (L k p : Nat) (v : Int32) (e : Nat) (hL : D.1 7 0 = nI L) (h300 : L ≤ 300) (hp : p < L) (hk : k ≤ 10) : Con g M_X4_readNumber [.ref 7] (sr_R D k p v e) (sr_ret none (sr_R D (tk_nk (D.1 8) L p) p (tk_nv (D.1 8) L p) ((sr_numE (D.1 8) L p)))) := by
  refine Con.of pn_X4_readNumber (Nat.le_of_ble_eq_true rfl) ?_
  show WP g M_X4_readNumber 0 [(0, .ref 7)] [] (sr_R D k p v e) _
  have hfl : (sr_dfst (D.1 8) L p) ≤ L := by unfold sr_dfst; split <;> omega
  have hW : ∀ z, z ≤ 1 → (z = 1 ↔ (D.1 8) p = nI 45) → ∀ d i, i + d = L + 1 → (sr_dfst (D.1 8) L p) ≤ i → sr_scan sr_digit (D.1 8) L i = (sr_numE (D.1 8) L p) → WP g M_X4_readNumber 45 [(0, .ref 7), (1, .int (nI z)), (2, .int (nI (sr_dfst (D.1 8) L p))), (3, .int (sr_num (D.1 8) (sr_dfst (D.1 8) L p) (i - (sr_dfst (D.1 8) L p))))] [] (sr_R D k p v i) (sr_ret none (sr_R D (tk_nk (D.1 8) L p) p (tk_nv (D.1 8) L p) ((sr_numE (D.1 8) L p)))) := by
    intro z hz hzz d
    induction d with
    | zero =>
      intro i hi1 hi2 hi3
      exact absurd (sr_scan_ge sr_digit (D.1 8) L i) (by have := sr_scan_le sr_digit (D.1 8) hfl; unfold sr_numE at hi3; omega)
    | succ d ih =>
      intro i hi1 hi2 hi3
      refine wp_aload_n dX4_readNumber_45 rfl rfl ?_
      refine wp_getI_n (n := i) dX4_readNumber_46 fl_X4_24 (by decide) rfl rfl (sr_R_4) ?_
      refine wp_aload_n dX4_readNumber_49 rfl rfl ?_
      refine wp_getI_n (n := L) dX4_readNumber_50 fl_X4_9 (by decide) rfl rfl (sr_R_0 hL) ?_
      refine wp_icmp_ge_n (tgt := 112) dX4_readNumber_53 (by decide) (by first | omega | (split <;> omega)) (by first | omega | (split <;> omega)) (fun c1034 => ?_) (fun c1034 => ?_)
      · have hnd : ¬ (i < L ∧ sr_digit ((D.1 8) i) = true) := fun y => by omega
        refine wp_aload_n dX4_readNumber_112 rfl rfl ?_
        refine wp_getI_n (n := i) dX4_readNumber_113 fl_X4_24 (by decide) rfl rfl (sr_R_4) ?_
        refine wp_iload_n dX4_readNumber_116 rfl rfl ?_
        refine wp_isub_n dX4_readNumber_117 (hi2) ?_
        refine wp_istore (lv' := [(0, .ref 7), (1, .int (nI z)), (2, .int (nI ((sr_dfst (D.1 8) L p)))), (3, .int (sr_num (D.1 8) (sr_dfst (D.1 8) L p) (i - (sr_dfst (D.1 8) L p)))), (4, .int (nI (i - ((sr_dfst (D.1 8) L p)))))]) dX4_readNumber_118 (by decide) rfl ?_
        refine wp_aload_n dX4_readNumber_120 rfl rfl ?_
        refine wp_iload dX4_readNumber_121 rfl ?_
        refine wp_iconst (v := nI 1) dX4_readNumber_123 rfl ?_
        refine wp_icmp_lt_n (tgt := 137) dX4_readNumber_124 (by decide) (by first | omega | (split <;> omega)) (by first | omega | (split <;> omega)) (fun c1035 => ?_) (fun c1035 => ?_)
        · have g1 := c1035
          refine wp_bipush (v := nI 10) dX4_readNumber_137 rfl ?_
          refine wp_putI dX4_readNumber_139 fl_X4_15 (by decide) rfl rfl ?_
          rw [sr_R_s1]
          refine wp_aload_n dX4_readNumber_142 rfl rfl ?_
          refine wp_iload_n dX4_readNumber_143 rfl rfl ?_
          refine wp_if_eq_n (tgt := 152) dX4_readNumber_144 (by decide) (by first | omega | (split <;> omega)) (fun c1036 => ?_) (fun c1036 => ?_)
          · have hz0n : ¬ z = 1 := by omega
            refine wp_iload_n dX4_readNumber_152 rfl rfl ?_
            refine wp_putI dX4_readNumber_153 fl_X4_21 (by decide) rfl rfl ?_
            rw [sr_R_s3]
            have hE : (sr_numE (D.1 8) L p) = i := by rw [← hi3]; exact sr_scan_f hnd
            refine wp_vret dX4_readNumber_156 rfl ⟨rfl, ?_⟩
            have hkk : tk_nk (D.1 8) L p = 10 := by unfold tk_nk; rw [hE]; exact if_neg (by omega)
            have hvv : tk_nv (D.1 8) L p = (sr_num (D.1 8) (sr_dfst (D.1 8) L p) (i - (sr_dfst (D.1 8) L p))) := by unfold tk_nv sr_numV; rw [hE]; rw [if_neg (fun y => hz0n (hzz.mpr y))]
            rw [hkk, hvv, hE]
          · have hz1 := c1036
            refine wp_iload_n dX4_readNumber_147 rfl rfl ?_
            refine wp_ineg dX4_readNumber_148 ?_
            refine wp_goto (tgt := 153) dX4_readNumber_149 (by decide) ?_
            refine wp_putI dX4_readNumber_153 fl_X4_21 (by decide) rfl rfl ?_
            rw [sr_R_s3]
            have hE : (sr_numE (D.1 8) L p) = i := by rw [← hi3]; exact sr_scan_f hnd
            refine wp_vret dX4_readNumber_156 rfl ⟨rfl, ?_⟩
            have hkk : tk_nk (D.1 8) L p = 10 := by unfold tk_nk; rw [hE]; exact if_neg (by omega)
            have hvv : tk_nv (D.1 8) L p = (-(sr_num (D.1 8) (sr_dfst (D.1 8) L p) (i - (sr_dfst (D.1 8) L p)))) := by unfold tk_nv sr_numV; rw [hE]; rw [if_pos (hzz.mp (by omega))]
            rw [hkk, hvv, hE]
        · have g1 := c1035
          refine wp_iload dX4_readNumber_127 rfl ?_
          refine wp_iconst (v := nI 3) dX4_readNumber_129 rfl ?_
          refine wp_icmp_gt_n (tgt := 137) dX4_readNumber_130 (by decide) (by first | omega | (split <;> omega)) (by first | omega | (split <;> omega)) (fun c1037 => ?_) (fun c1037 => ?_)
          · have g3 := c1037
            refine wp_bipush (v := nI 10) dX4_readNumber_137 rfl ?_
            refine wp_putI dX4_readNumber_139 fl_X4_15 (by decide) rfl rfl ?_
            rw [sr_R_s1]
            refine wp_aload_n dX4_readNumber_142 rfl rfl ?_
            refine wp_iload_n dX4_readNumber_143 rfl rfl ?_
            refine wp_if_eq_n (tgt := 152) dX4_readNumber_144 (by decide) (by first | omega | (split <;> omega)) (fun c1038 => ?_) (fun c1038 => ?_)
            · have hz0n : ¬ z = 1 := by omega
              refine wp_iload_n dX4_readNumber_152 rfl rfl ?_
              refine wp_putI dX4_readNumber_153 fl_X4_21 (by decide) rfl rfl ?_
              rw [sr_R_s3]
              have hE : (sr_numE (D.1 8) L p) = i := by rw [← hi3]; exact sr_scan_f hnd
              refine wp_vret dX4_readNumber_156 rfl ⟨rfl, ?_⟩
              have hkk : tk_nk (D.1 8) L p = 10 := by unfold tk_nk; rw [hE]; exact if_neg (by omega)
              have hvv : tk_nv (D.1 8) L p = (sr_num (D.1 8) (sr_dfst (D.1 8) L p) (i - (sr_dfst (D.1 8) L p))) := by unfold tk_nv sr_numV; rw [hE]; rw [if_neg (fun y => hz0n (hzz.mpr y))]
              rw [hkk, hvv, hE]
            · have hz1 := c1038
              refine wp_iload_n dX4_readNumber_147 rfl rfl ?_
              refine wp_ineg dX4_readNumber_148 ?_
              refine wp_goto (tgt := 153) dX4_readNumber_149 (by decide) ?_
              refine wp_putI dX4_readNumber_153 fl_X4_21 (by decide) rfl rfl ?_
              rw [sr_R_s3]
              have hE : (sr_numE (D.1 8) L p) = i := by rw [← hi3]; exact sr_scan_f hnd
              refine wp_vret dX4_readNumber_156 rfl ⟨rfl, ?_⟩
              have hkk : tk_nk (D.1 8) L p = 10 := by unfold tk_nk; rw [hE]; exact if_neg (by omega)
              have hvv : tk_nv (D.1 8) L p = (-(sr_num (D.1 8) (sr_dfst (D.1 8) L p) (i - (sr_dfst (D.1 8) L p)))) := by unfold tk_nv sr_numV; rw [hE]; rw [if_pos (hzz.mp (by omega))]
              rw [hkk, hvv, hE]
          · have g3 := c1037
            refine wp_iconst (v := nI 1) dX4_readNumber_133 rfl ?_
            refine wp_goto (tgt := 139) dX4_readNumber_134 (by decide) ?_
            refine wp_putI dX4_readNumber_139 fl_X4_15 (by decide) rfl rfl ?_
            rw [sr_R_s1]
            refine wp_aload_n dX4_readNumber_142 rfl rfl ?_
            refine wp_iload_n dX4_readNumber_143 rfl rfl ?_
            refine wp_if_eq_n (tgt := 152) dX4_readNumber_144 (by decide) (by first | omega | (split <;> omega)) (fun c1039 => ?_) (fun c1039 => ?_)
            · have hz0n : ¬ z = 1 := by omega
              refine wp_iload_n dX4_readNumber_152 rfl rfl ?_
              refine wp_putI dX4_readNumber_153 fl_X4_21 (by decide) rfl rfl ?_
              rw [sr_R_s3]
              have hE : (sr_numE (D.1 8) L p) = i := by rw [← hi3]; exact sr_scan_f hnd
              refine wp_vret dX4_readNumber_156 rfl ⟨rfl, ?_⟩
              have hkk : tk_nk (D.1 8) L p = 1 := by unfold tk_nk; rw [hE]; exact if_pos (by omega)
              have hvv : tk_nv (D.1 8) L p = (sr_num (D.1 8) (sr_dfst (D.1 8) L p) (i - (sr_dfst (D.1 8) L p))) := by unfold tk_nv sr_numV; rw [hE]; rw [if_neg (fun y => hz0n (hzz.mpr y))]
              rw [hkk, hvv, hE]
            · have hz1 := c1039
              refine wp_iload_n dX4_readNumber_147 rfl rfl ?_
              refine wp_ineg dX4_readNumber_148 ?_
              refine wp_goto (tgt := 153) dX4_readNumber_149 (by decide) ?_
              refine wp_putI dX4_readNumber_153 fl_X4_21 (by decide) rfl rfl ?_
              rw [sr_R_s3]
              have hE : (sr_numE (D.1 8) L p) = i := by rw [← hi3]; exact sr_scan_f hnd
              refine wp_vret dX4_readNumber_156 rfl ⟨rfl, ?_⟩
              have hkk : tk_nk (D.1 8) L p = 1 := by unfold tk_nk; rw [hE]; exact if_pos (by omega)
              have hvv : tk_nv (D.1 8) L p = (-(sr_num (D.1 8) (sr_dfst (D.1 8) L p) (i - (sr_dfst (D.1 8) L p)))) := by unfold tk_nv sr_numV; rw [hE]; rw [if_pos (hzz.mp (by omega))]
              rw [hkk, hvv, hE]
      · have hil := c1034
        refine wp_aload_n dX4_readNumber_56 rfl rfl ?_
        refine wp_getR (r := 8) dX4_readNumber_57 fl_X4_27 (by decide) rfl rfl rfl ?_
        refine wp_aload_n dX4_readNumber_60 rfl rfl ?_
        refine wp_getI_n (n := i) dX4_readNumber_61 fl_X4_24 (by decide) rfl rfl (sr_R_4) ?_
        refine wp_bald dX4_readNumber_64 (by decide) rfl (show _ < 300 by omega) (by first | omega | (split <;> omega)) ?_
        rw [sr_R_8]
        refine wp_callS (M2 := M_X4_isDigit) (n := 1) (As := [.int (D.1 8 i)]) (st := []) dX4_readNumber_65 (c_X4_isDigit g ((sr_R D k p v i)) (D.1 8 i)) ca_X4_38 ⟨nm_X4_isDigit, by decide, by decide⟩ rfl rfl (Nat.le_of_ble_eq_true rfl) (fun r1040 E1041 q1042 => ?_)
        obtain ⟨rfl, rfl⟩ := q1042
        show WP g _ _ _ (.int (sr_b (sr_digit (D.1 8 i))) :: _) _ _
        refine wp_if_eq_b (tgt := 112) dX4_readNumber_68 (by decide) (fun c1043 => ?_) (fun c1043 => ?_)
        · have hnd : ¬ (i < L ∧ sr_digit ((D.1 8) i) = true) := fun y => by rw [c1043] at y; exact absurd y.2 (by decide)
          refine wp_aload_n dX4_readNumber_112 rfl rfl ?_
          refine wp_getI_n (n := i) dX4_readNumber_113 fl_X4_24 (by decide) rfl rfl (sr_R_4) ?_
          refine wp_iload_n dX4_readNumber_116 rfl rfl ?_
          refine wp_isub_n dX4_readNumber_117 (hi2) ?_
          refine wp_istore (lv' := [(0, .ref 7), (1, .int (nI z)), (2, .int (nI ((sr_dfst (D.1 8) L p)))), (3, .int (sr_num (D.1 8) (sr_dfst (D.1 8) L p) (i - (sr_dfst (D.1 8) L p)))), (4, .int (nI (i - ((sr_dfst (D.1 8) L p)))))]) dX4_readNumber_118 (by decide) rfl ?_
          refine wp_aload_n dX4_readNumber_120 rfl rfl ?_
          refine wp_iload dX4_readNumber_121 rfl ?_
          refine wp_iconst (v := nI 1) dX4_readNumber_123 rfl ?_
          refine wp_icmp_lt_n (tgt := 137) dX4_readNumber_124 (by decide) (by first | omega | (split <;> omega)) (by first | omega | (split <;> omega)) (fun c1044 => ?_) (fun c1044 => ?_)
          · have g1 := c1044
            refine wp_bipush (v := nI 10) dX4_readNumber_137 rfl ?_
            refine wp_putI dX4_readNumber_139 fl_X4_15 (by decide) rfl rfl ?_
            rw [sr_R_s1]
            refine wp_aload_n dX4_readNumber_142 rfl rfl ?_
            refine wp_iload_n dX4_readNumber_143 rfl rfl ?_
            refine wp_if_eq_n (tgt := 152) dX4_readNumber_144 (by decide) (by first | omega | (split <;> omega)) (fun c1045 => ?_) (fun c1045 => ?_)
            · have hz0n : ¬ z = 1 := by omega
              refine wp_iload_n dX4_readNumber_152 rfl rfl ?_
              refine wp_putI dX4_readNumber_153 fl_X4_21 (by decide) rfl rfl ?_
              rw [sr_R_s3]
              have hE : (sr_numE (D.1 8) L p) = i := by rw [← hi3]; exact sr_scan_f hnd
              refine wp_vret dX4_readNumber_156 rfl ⟨rfl, ?_⟩
              have hkk : tk_nk (D.1 8) L p = 10 := by unfold tk_nk; rw [hE]; exact if_neg (by omega)
              have hvv : tk_nv (D.1 8) L p = (sr_num (D.1 8) (sr_dfst (D.1 8) L p) (i - (sr_dfst (D.1 8) L p))) := by unfold tk_nv sr_numV; rw [hE]; rw [if_neg (fun y => hz0n (hzz.mpr y))]
              rw [hkk, hvv, hE]
            · have hz1 := c1045
              refine wp_iload_n dX4_readNumber_147 rfl rfl ?_
              refine wp_ineg dX4_readNumber_148 ?_
              refine wp_goto (tgt := 153) dX4_readNumber_149 (by decide) ?_
              refine wp_putI dX4_readNumber_153 fl_X4_21 (by decide) rfl rfl ?_
              rw [sr_R_s3]
              have hE : (sr_numE (D.1 8) L p) = i := by rw [← hi3]; exact sr_scan_f hnd
              refine wp_vret dX4_readNumber_156 rfl ⟨rfl, ?_⟩
              have hkk : tk_nk (D.1 8) L p = 10 := by unfold tk_nk; rw [hE]; exact if_neg (by omega)
              have hvv : tk_nv (D.1 8) L p = (-(sr_num (D.1 8) (sr_dfst (D.1 8) L p) (i - (sr_dfst (D.1 8) L p)))) := by unfold tk_nv sr_numV; rw [hE]; rw [if_pos (hzz.mp (by omega))]
              rw [hkk, hvv, hE]
          · have g1 := c1044
            refine wp_iload dX4_readNumber_127 rfl ?_
            refine wp_iconst (v := nI 3) dX4_readNumber_129 rfl ?_
            refine wp_icmp_gt_n (tgt := 137) dX4_readNumber_130 (by decide) (by first | omega | (split <;> omega)) (by first | omega | (split <;> omega)) (fun c1046 => ?_) (fun c1046 => ?_)
            · have g3 := c1046
              refine wp_bipush (v := nI 10) dX4_readNumber_137 rfl ?_
              refine wp_putI dX4_readNumber_139 fl_X4_15 (by decide) rfl rfl ?_
              rw [sr_R_s1]
              refine wp_aload_n dX4_readNumber_142 rfl rfl ?_
              refine wp_iload_n dX4_readNumber_143 rfl rfl ?_
              refine wp_if_eq_n (tgt := 152) dX4_readNumber_144 (by decide) (by first | omega | (split <;> omega)) (fun c1047 => ?_) (fun c1047 => ?_)
              · have hz0n : ¬ z = 1 := by omega
                refine wp_iload_n dX4_readNumber_152 rfl rfl ?_
                refine wp_putI dX4_readNumber_153 fl_X4_21 (by decide) rfl rfl ?_
                rw [sr_R_s3]
                have hE : (sr_numE (D.1 8) L p) = i := by rw [← hi3]; exact sr_scan_f hnd
                refine wp_vret dX4_readNumber_156 rfl ⟨rfl, ?_⟩
                have hkk : tk_nk (D.1 8) L p = 10 := by unfold tk_nk; rw [hE]; exact if_neg (by omega)
                have hvv : tk_nv (D.1 8) L p = (sr_num (D.1 8) (sr_dfst (D.1 8) L p) (i - (sr_dfst (D.1 8) L p))) := by unfold tk_nv sr_numV; rw [hE]; rw [if_neg (fun y => hz0n (hzz.mpr y))]
                rw [hkk, hvv, hE]
              · have hz1 := c1047
                refine wp_iload_n dX4_readNumber_147 rfl rfl ?_
                refine wp_ineg dX4_readNumber_148 ?_
                refine wp_goto (tgt := 153) dX4_readNumber_149 (by decide) ?_
                refine wp_putI dX4_readNumber_153 fl_X4_21 (by decide) rfl rfl ?_
                rw [sr_R_s3]
                have hE : (sr_numE (D.1 8) L p) = i := by rw [← hi3]; exact sr_scan_f hnd
                refine wp_vret dX4_readNumber_156 rfl ⟨rfl, ?_⟩
                have hkk : tk_nk (D.1 8) L p = 10 := by unfold tk_nk; rw [hE]; exact if_neg (by omega)
                have hvv : tk_nv (D.1 8) L p = (-(sr_num (D.1 8) (sr_dfst (D.1 8) L p) (i - (sr_dfst (D.1 8) L p)))) := by unfold tk_nv sr_numV; rw [hE]; rw [if_pos (hzz.mp (by omega))]
                rw [hkk, hvv, hE]
            · have g3 := c1046
              refine wp_iconst (v := nI 1) dX4_readNumber_133 rfl ?_
              refine wp_goto (tgt := 139) dX4_readNumber_134 (by decide) ?_
              refine wp_putI dX4_readNumber_139 fl_X4_15 (by decide) rfl rfl ?_
              rw [sr_R_s1]
              refine wp_aload_n dX4_readNumber_142 rfl rfl ?_
              refine wp_iload_n dX4_readNumber_143 rfl rfl ?_
              refine wp_if_eq_n (tgt := 152) dX4_readNumber_144 (by decide) (by first | omega | (split <;> omega)) (fun c1048 => ?_) (fun c1048 => ?_)
              · have hz0n : ¬ z = 1 := by omega
                refine wp_iload_n dX4_readNumber_152 rfl rfl ?_
                refine wp_putI dX4_readNumber_153 fl_X4_21 (by decide) rfl rfl ?_
                rw [sr_R_s3]
                have hE : (sr_numE (D.1 8) L p) = i := by rw [← hi3]; exact sr_scan_f hnd
                refine wp_vret dX4_readNumber_156 rfl ⟨rfl, ?_⟩
                have hkk : tk_nk (D.1 8) L p = 1 := by unfold tk_nk; rw [hE]; exact if_pos (by omega)
                have hvv : tk_nv (D.1 8) L p = (sr_num (D.1 8) (sr_dfst (D.1 8) L p) (i - (sr_dfst (D.1 8) L p))) := by unfold tk_nv sr_numV; rw [hE]; rw [if_neg (fun y => hz0n (hzz.mpr y))]
                rw [hkk, hvv, hE]
              · have hz1 := c1048
                refine wp_iload_n dX4_readNumber_147 rfl rfl ?_
                refine wp_ineg dX4_readNumber_148 ?_
                refine wp_goto (tgt := 153) dX4_readNumber_149 (by decide) ?_
                refine wp_putI dX4_readNumber_153 fl_X4_21 (by decide) rfl rfl ?_
                rw [sr_R_s3]
                have hE : (sr_numE (D.1 8) L p) = i := by rw [← hi3]; exact sr_scan_f hnd
                refine wp_vret dX4_readNumber_156 rfl ⟨rfl, ?_⟩
                have hkk : tk_nk (D.1 8) L p = 1 := by unfold tk_nk; rw [hE]; exact if_pos (by omega)
                have hvv : tk_nv (D.1 8) L p = (-(sr_num (D.1 8) (sr_dfst (D.1 8) L p) (i - (sr_dfst (D.1 8) L p)))) := by unfold tk_nv sr_numV; rw [hE]; rw [if_pos (hzz.mp (by omega))]
                rw [hkk, hvv, hE]
        · have hdg := c1043
          refine wp_aload_n dX4_readNumber_71 rfl rfl ?_
          refine wp_getI_n (n := i) dX4_readNumber_72 fl_X4_24 (by decide) rfl rfl (sr_R_4) ?_
          refine wp_iload_n dX4_readNumber_75 rfl rfl ?_
          refine wp_isub_n dX4_readNumber_76 (hi2) ?_
          refine wp_iconst (v := nI 3) dX4_readNumber_77 rfl ?_
          refine wp_icmp_ge_n (tgt := 99) dX4_readNumber_78 (by decide) (by first | omega | (split <;> omega)) (by first | omega | (split <;> omega)) (fun c1049 => ?_) (fun c1049 => ?_)
          · have h3 := c1049
            refine wp_aload_n dX4_readNumber_99 rfl rfl ?_
            refine wp_dup dX4_readNumber_100 rfl ?_
            refine wp_getI_n (n := i) dX4_readNumber_101 fl_X4_24 (by decide) rfl rfl (sr_R_4) ?_
            refine wp_iconst (v := nI 1) dX4_readNumber_104 rfl ?_
            refine wp_iadd_n dX4_readNumber_105 ?_
            refine wp_putI dX4_readNumber_106 fl_X4_24 (by decide) rfl rfl ?_
            rw [sr_R_s4]
            refine wp_goto (tgt := 45) dX4_readNumber_109 (by decide) ?_
            have h := ih (i + 1) (by omega) (by omega) (by rw [← hi3]; exact (sr_scan_t (by omega) hdg).symm)
            rw [show i + 1 - (sr_dfst (D.1 8) L p) = (i - (sr_dfst (D.1 8) L p)) + 1 by omega] at h
            rw [show sr_num (D.1 8) (sr_dfst (D.1 8) L p) (i - (sr_dfst (D.1 8) L p) + 1) = _ from if_neg (by omega)] at h
            exact h
          · have h3 := c1049
            refine wp_iload_n dX4_readNumber_81 rfl rfl ?_
            refine wp_bipush (v := nI 10) dX4_readNumber_82 rfl ?_
            refine wp_imul dX4_readNumber_84 ?_
            refine wp_aload_n dX4_readNumber_85 rfl rfl ?_
            refine wp_getR (r := 8) dX4_readNumber_86 fl_X4_27 (by decide) rfl rfl rfl ?_
            refine wp_aload_n dX4_readNumber_89 rfl rfl ?_
            refine wp_getI_n (n := i) dX4_readNumber_90 fl_X4_24 (by decide) rfl rfl (sr_R_4) ?_
            refine wp_bald dX4_readNumber_93 (by decide) rfl (show _ < 300 by omega) (by first | omega | (split <;> omega)) ?_
            rw [sr_R_8]
            refine wp_iadd dX4_readNumber_94 ?_
            refine wp_bipush (v := nI 48) dX4_readNumber_95 rfl ?_
            refine wp_isub dX4_readNumber_97 ?_
            refine wp_istore_n (lv' := [(0, .ref 7), (1, .int (nI z)), (2, .int (nI ((sr_dfst (D.1 8) L p)))), (3, .int ((((sr_num (D.1 8) (sr_dfst (D.1 8) L p) (i - (sr_dfst (D.1 8) L p))) * (nI 10)) + (D.1 8 i)) - (nI 48)))]) dX4_readNumber_98 rfl (by decide) rfl ?_
            refine wp_aload_n dX4_readNumber_99 rfl rfl ?_
            refine wp_dup dX4_readNumber_100 rfl ?_
            refine wp_getI_n (n := i) dX4_readNumber_101 fl_X4_24 (by decide) rfl rfl (sr_R_4) ?_
            refine wp_iconst (v := nI 1) dX4_readNumber_104 rfl ?_
            refine wp_iadd_n dX4_readNumber_105 ?_
            refine wp_putI dX4_readNumber_106 fl_X4_24 (by decide) rfl rfl ?_
            rw [sr_R_s4]
            refine wp_goto (tgt := 45) dX4_readNumber_109 (by decide) ?_
            have h := ih (i + 1) (by omega) (by omega) (by rw [← hi3]; exact (sr_scan_t (by omega) hdg).symm)
            rw [show i + 1 - (sr_dfst (D.1 8) L p) = (i - (sr_dfst (D.1 8) L p)) + 1 by omega] at h
            rw [show sr_num (D.1 8) (sr_dfst (D.1 8) L p) (i - (sr_dfst (D.1 8) L p) + 1) = _ from if_pos (by omega)] at h
            rw [show (sr_dfst (D.1 8) L p) + (i - (sr_dfst (D.1 8) L p)) = i by omega, Int32.mul_comm] at h
            exact h
  refine wp_aload_n dX4_readNumber_0 rfl rfl ?_
  refine wp_getR (r := 8) dX4_readNumber_1 fl_X4_27 (by decide) rfl rfl rfl ?_
  refine wp_aload_n dX4_readNumber_4 rfl rfl ?_
  refine wp_getI_n (n := p) dX4_readNumber_5 fl_X4_18 (by decide) rfl rfl (sr_R_2) ?_
  refine wp_bald dX4_readNumber_8 (by decide) rfl (show _ < 300 by omega) (by first | omega | (split <;> omega)) ?_
  rw [sr_R_8]
  refine wp_bipush (v := nI 45) dX4_readNumber_9 rfl ?_
  refine wp_icmp_ne (tgt := 18) dX4_readNumber_11 (by decide) (fun c1050 => ?_) (fun c1050 => ?_)
  · have hmi := c1050
    refine wp_iconst (v := nI 0) dX4_readNumber_18 rfl ?_
    refine wp_istore_n (lv' := [(0, .ref 7), (1, .int (nI 0))]) dX4_readNumber_19 rfl (by decide) rfl ?_
    refine wp_iload_n dX4_readNumber_20 rfl rfl ?_
    refine wp_if_eq (tgt := 33) dX4_readNumber_21 (by decide) (fun _ => ?_) (fun c1051 => absurd c1051 (by decide))
    refine wp_aload_n dX4_readNumber_33 rfl rfl ?_
    refine wp_getI_n (n := p) dX4_readNumber_34 fl_X4_18 (by decide) rfl rfl (sr_R_2) ?_
    refine wp_istore_n (lv' := [(0, .ref 7), (1, .int (nI 0)), (2, .int (nI p))]) dX4_readNumber_37 rfl (by decide) rfl ?_
    refine wp_iconst (v := nI 0) dX4_readNumber_38 rfl ?_
    refine wp_istore_n (lv' := [(0, .ref 7), (1, .int (nI 0)), (2, .int (nI p)), (3, .int (nI 0))]) dX4_readNumber_39 rfl (by decide) rfl ?_
    refine wp_aload_n dX4_readNumber_40 rfl rfl ?_
    refine wp_iload_n dX4_readNumber_41 rfl rfl ?_
    refine wp_putI dX4_readNumber_42 fl_X4_24 (by decide) rfl rfl ?_
    rw [sr_R_s4]
    have hF : (sr_dfst (D.1 8) L p) = p := if_neg (fun y => hmi y.2)
    have h := hW 0 (by decide) ⟨fun y => absurd y (by decide), fun y => absurd y hmi⟩ (L + 1 - (sr_dfst (D.1 8) L p)) (sr_dfst (D.1 8) L p) (by omega) (Nat.le_refl _) rfl
    rw [Nat.sub_self, hF] at h
    skip
    exact h
  · have hmi := c1050
    refine wp_iconst (v := nI 1) dX4_readNumber_14 rfl ?_
    refine wp_goto (tgt := 19) dX4_readNumber_15 (by decide) ?_
    refine wp_istore_n (lv' := [(0, .ref 7), (1, .int (nI 1))]) dX4_readNumber_19 rfl (by decide) rfl ?_
    refine wp_iload_n dX4_readNumber_20 rfl rfl ?_
    refine wp_if_eq (tgt := 33) dX4_readNumber_21 (by decide) (fun c1052 => absurd c1052 (by decide)) (fun _ => ?_)
    refine wp_aload_n dX4_readNumber_24 rfl rfl ?_
    refine wp_getI_n (n := p) dX4_readNumber_25 fl_X4_18 (by decide) rfl rfl (sr_R_2) ?_
    refine wp_iconst (v := nI 1) dX4_readNumber_28 rfl ?_
    refine wp_iadd_n dX4_readNumber_29 ?_
    refine wp_goto (tgt := 37) dX4_readNumber_30 (by decide) ?_
    refine wp_istore_n (lv' := [(0, .ref 7), (1, .int (nI 1)), (2, .int (nI (p + 1)))]) dX4_readNumber_37 rfl (by decide) rfl ?_
    refine wp_iconst (v := nI 0) dX4_readNumber_38 rfl ?_
    refine wp_istore_n (lv' := [(0, .ref 7), (1, .int (nI 1)), (2, .int (nI (p + 1))), (3, .int (nI 0))]) dX4_readNumber_39 rfl (by decide) rfl ?_
    refine wp_aload_n dX4_readNumber_40 rfl rfl ?_
    refine wp_iload_n dX4_readNumber_41 rfl rfl ?_
    refine wp_putI dX4_readNumber_42 fl_X4_24 (by decide) rfl rfl ?_
    rw [sr_R_s4]
    have hF : (sr_dfst (D.1 8) L p) = p + 1 := if_pos ⟨hp, hmi⟩
    have h := hW 1 (by decide) ⟨fun _ => hmi, fun _ => rfl⟩ (L + 1 - (sr_dfst (D.1 8) L p)) (sr_dfst (D.1 8) L p) (by omega) (Nat.le_refl _) rfl
    rw [Nat.sub_self, hF] at h
    skip
    exact h
