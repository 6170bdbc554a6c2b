/-- the byte of w at s -/
def sr_by (w s : Int32) : Int32 := (w >>> (s &&& 31)).toInt8.toInt32
/-- four bytes laid from t on -/
def sr_put (f : Nat → Int32) (t : Nat) (w : Int32) : Nat → Int32 := upd (upd (upd (upd f t (sr_by w (nI 24))) (t + 1) (sr_by w (nI 16))) (t + 2) (sr_by w (nI 8))) (t + 3) (sr_by w (nI 0))
def sr_feed (f : Nat → Int32) (t : Nat) (a b c d e : Int32) : Nat → Int32 := sr_put (sr_put (sr_put (sr_put (sr_put f t a) (t + 4) b) (t + 8) c) (t + 12) d) (t + 16) e
theorem sr_by_bytes (w s : Int32) : (sr_by w s).toInt8.toInt32 = sr_by w s := by
  have := pk_vb (w >>> (s &&& 31))
  rw [vp_nar_byte] at this
  exact this
theorem sr_upd_bytes {f : Nat → Int32} {k : Nat} {v : Int32} (hf : sr_bytes f) (hv : v.toInt8.toInt32 = v) : sr_bytes (upd f k v) := by
  intro j
  unfold upd
  split
  · exact hv
  · exact hf j
theorem sr_put_bytes {f : Nat → Int32} {t : Nat} {w : Int32} (hf : sr_bytes f) : sr_bytes (sr_put f t w) := sr_upd_bytes (sr_upd_bytes (sr_upd_bytes (sr_upd_bytes hf (sr_by_bytes _ _)) (sr_by_bytes _ _)) (sr_by_bytes _ _)) (sr_by_bytes _ _)
theorem sr_feed_bytes {f : Nat → Int32} {t : Nat} {a b c d e : Int32} (hf : sr_bytes f) : sr_bytes (sr_feed f t a b c d e) := sr_put_bytes (sr_put_bytes (sr_put_bytes (sr_put_bytes (sr_put_bytes hf))))
theorem sr_comm_II {D : sr_St} {o p k : Nat} {h : Nat → Int32} {v : Int32} (e : ¬ o = p) : sr_rI (sr_sI D p k v) o h = sr_sI (sr_rI D o h) p k v := by
  unfold sr_rI sr_sI
  congr 1
  funext q
  by_cases e1 : q = o
  · subst e1; simp [e]
  · by_cases e2 : q = p
    · subst e2; simp [e1]
    · simp [e1, e2]
theorem sr_sI_sI (D : sr_St) (o k : Nat) (v w : Int32) : sr_sI (sr_sI D o k v) o k w = sr_sI D o k w := by
  rw [sr_sI_r, sr_sI_r, sr_sI_r, sr_rI_rI, sr_rI_1, if_pos rfl]
  congr 1
  funext j
  unfold upd
  by_cases e : j = k <;> simp [e]
set_option maxHeartbeats 4000000 in
set_option maxRecDepth 100000 in
theorem c_X7_put (g : sr_G) (D : sr_St) (t : Nat) (ht : D.1 63 4 = nI t) (ht2 : t + 4 ≤ 300) (w : Int32)  : Con g M_X7_put [.ref 63, .int w] D (sr_ret (none) (sr_sI (sr_rI D 66 (sr_put (D.1 66) t w)) 63 4 (nI (t + 4)))) := by
  refine Con.of pn_X7_put (Nat.le_of_ble_eq_true rfl) ?_
  show WP g M_X7_put 0 [(0, .ref 63), (1, .int w)] [] D _
  refine wp_bipush (v := nI 24) dX7_put_0 rfl ?_
  refine wp_istore_n (lv' := [(0, .ref 63), (1, .int w), (2, .int (nI 24))]) dX7_put_2 rfl (by decide) rfl ?_
  refine wp_iload_n dX7_put_3 rfl rfl ?_
  refine wp_if_lt (tgt := 36) dX7_put_4 (by decide) (fun c84 => absurd c84 (by decide)) (fun _ => ?_)
  refine wp_aload_n dX7_put_7 rfl rfl ?_
  refine wp_getR (r := 66) dX7_put_8 fl_X7_16 (by decide) rfl rfl rfl ?_
  refine wp_aload_n dX7_put_11 rfl rfl ?_
  refine wp_getI_n (n := t) dX7_put_12 fl_X7_77 (by decide) rfl rfl (ht) ?_
  refine wp_iload_n dX7_put_15 rfl rfl ?_
  refine wp_iload_n dX7_put_16 rfl rfl ?_
  refine wp_ishr dX7_put_17 ?_
  refine wp_i2b dX7_put_18 ?_
  refine wp_bast dX7_put_19 (by decide) rfl (show _ < 300 by omega) (by first | omega | (split <;> omega)) ?_
  refine wp_D (fun D85 eD85 => ?_)
  have k86 : D85.1 63 4 = nI t := by rw [eD85, sr_sI_1, if_neg (by omega)]; exact ht
  refine wp_aload_n dX7_put_20 rfl rfl ?_
  refine wp_dup dX7_put_21 rfl ?_
  refine wp_getI_n (n := t) dX7_put_22 fl_X7_77 (by decide) rfl rfl (k86) ?_
  refine wp_iconst (v := nI 1) dX7_put_25 rfl ?_
  refine wp_iadd_n dX7_put_26 ?_
  refine wp_putI dX7_put_27 fl_X7_77 (by decide) rfl rfl ?_
  refine wp_D (fun D87 eD87 => ?_)
  have k89 : D87.1 63 4 = nI (t + 1) := by rw [eD87, sr_sI_1, if_pos ⟨rfl, rfl⟩]
  refine wp_iinc (v := nI 16) (lv' := [(0, .ref 63), (1, .int w), (2, .int (nI 16))]) dX7_put_30 rfl rfl (by decide) rfl ?_
  refine wp_goto (tgt := 3) dX7_put_33 (by decide) ?_
  refine wp_iload_n dX7_put_3 rfl rfl ?_
  refine wp_if_lt (tgt := 36) dX7_put_4 (by decide) (fun c90 => absurd c90 (by decide)) (fun _ => ?_)
  refine wp_aload_n dX7_put_7 rfl rfl ?_
  refine wp_getR (r := 66) dX7_put_8 fl_X7_16 (by decide) rfl rfl rfl ?_
  refine wp_aload_n dX7_put_11 rfl rfl ?_
  refine wp_getI_n (n := t + 1) dX7_put_12 fl_X7_77 (by decide) rfl rfl (k89) ?_
  refine wp_iload_n dX7_put_15 rfl rfl ?_
  refine wp_iload_n dX7_put_16 rfl rfl ?_
  refine wp_ishr dX7_put_17 ?_
  refine wp_i2b dX7_put_18 ?_
  refine wp_bast dX7_put_19 (by decide) rfl (show _ < 300 by omega) (by first | omega | (split <;> omega)) ?_
  refine wp_D (fun D91 eD91 => ?_)
  have k92 : D91.1 63 4 = nI (t + 1) := by rw [eD91, sr_sI_1, if_neg (by omega)]; exact k89
  refine wp_aload_n dX7_put_20 rfl rfl ?_
  refine wp_dup dX7_put_21 rfl ?_
  refine wp_getI_n (n := t + 1) dX7_put_22 fl_X7_77 (by decide) rfl rfl (k92) ?_
  refine wp_iconst (v := nI 1) dX7_put_25 rfl ?_
  refine wp_iadd_n dX7_put_26 ?_
  refine wp_putI dX7_put_27 fl_X7_77 (by decide) rfl rfl ?_
  refine wp_D (fun D93 eD93 => ?_)
  have k95 : D93.1 63 4 = nI ((t + 1) + 1) := by rw [eD93, sr_sI_1, if_pos ⟨rfl, rfl⟩]
  refine wp_iinc (v := nI 8) (lv' := [(0, .ref 63), (1, .int w), (2, .int (nI 8))]) dX7_put_30 rfl rfl (by decide) rfl ?_
  refine wp_goto (tgt := 3) dX7_put_33 (by decide) ?_
  refine wp_iload_n dX7_put_3 rfl rfl ?_
  refine wp_if_lt (tgt := 36) dX7_put_4 (by decide) (fun c96 => absurd c96 (by decide)) (fun _ => ?_)
  refine wp_aload_n dX7_put_7 rfl rfl ?_
  refine wp_getR (r := 66) dX7_put_8 fl_X7_16 (by decide) rfl rfl rfl ?_
  refine wp_aload_n dX7_put_11 rfl rfl ?_
  refine wp_getI_n (n := (t + 1) + 1) dX7_put_12 fl_X7_77 (by decide) rfl rfl (k95) ?_
  refine wp_iload_n dX7_put_15 rfl rfl ?_
  refine wp_iload_n dX7_put_16 rfl rfl ?_
  refine wp_ishr dX7_put_17 ?_
  refine wp_i2b dX7_put_18 ?_
  refine wp_bast dX7_put_19 (by decide) rfl (show _ < 300 by omega) (by first | omega | (split <;> omega)) ?_
  refine wp_D (fun D97 eD97 => ?_)
  have k98 : D97.1 63 4 = nI ((t + 1) + 1) := by rw [eD97, sr_sI_1, if_neg (by omega)]; exact k95
  refine wp_aload_n dX7_put_20 rfl rfl ?_
  refine wp_dup dX7_put_21 rfl ?_
  refine wp_getI_n (n := (t + 1) + 1) dX7_put_22 fl_X7_77 (by decide) rfl rfl (k98) ?_
  refine wp_iconst (v := nI 1) dX7_put_25 rfl ?_
  refine wp_iadd_n dX7_put_26 ?_
  refine wp_putI dX7_put_27 fl_X7_77 (by decide) rfl rfl ?_
  refine wp_D (fun D99 eD99 => ?_)
  have k101 : D99.1 63 4 = nI (((t + 1) + 1) + 1) := by rw [eD99, sr_sI_1, if_pos ⟨rfl, rfl⟩]
  refine wp_iinc (v := nI 0) (lv' := [(0, .ref 63), (1, .int w), (2, .int (nI 0))]) dX7_put_30 rfl rfl (by decide) rfl ?_
  refine wp_goto (tgt := 3) dX7_put_33 (by decide) ?_
  refine wp_iload_n dX7_put_3 rfl rfl ?_
  refine wp_if_lt (tgt := 36) dX7_put_4 (by decide) (fun c102 => absurd c102 (by decide)) (fun _ => ?_)
  refine wp_aload_n dX7_put_7 rfl rfl ?_
  refine wp_getR (r := 66) dX7_put_8 fl_X7_16 (by decide) rfl rfl rfl ?_
  refine wp_aload_n dX7_put_11 rfl rfl ?_
  refine wp_getI_n (n := ((t + 1) + 1) + 1) dX7_put_12 fl_X7_77 (by decide) rfl rfl (k101) ?_
  refine wp_iload_n dX7_put_15 rfl rfl ?_
  refine wp_iload_n dX7_put_16 rfl rfl ?_
  refine wp_ishr dX7_put_17 ?_
  refine wp_i2b dX7_put_18 ?_
  refine wp_bast dX7_put_19 (by decide) rfl (show _ < 300 by omega) (by first | omega | (split <;> omega)) ?_
  refine wp_D (fun D103 eD103 => ?_)
  have k104 : D103.1 63 4 = nI (((t + 1) + 1) + 1) := by rw [eD103, sr_sI_1, if_neg (by omega)]; exact k101
  refine wp_aload_n dX7_put_20 rfl rfl ?_
  refine wp_dup dX7_put_21 rfl ?_
  refine wp_getI_n (n := ((t + 1) + 1) + 1) dX7_put_22 fl_X7_77 (by decide) rfl rfl (k104) ?_
  refine wp_iconst (v := nI 1) dX7_put_25 rfl ?_
  refine wp_iadd_n dX7_put_26 ?_
  refine wp_putI dX7_put_27 fl_X7_77 (by decide) rfl rfl ?_
  refine wp_D (fun D105 eD105 => ?_)
  have k107 : D105.1 63 4 = nI ((((t + 1) + 1) + 1) + 1) := by rw [eD105, sr_sI_1, if_pos ⟨rfl, rfl⟩]
  refine wp_iinc (v := (-8)) (lv' := [(0, .ref 63), (1, .int w), (2, .int ((-8)))]) dX7_put_30 rfl rfl (by decide) rfl ?_
  refine wp_goto (tgt := 3) dX7_put_33 (by decide) ?_
  refine wp_iload_n dX7_put_3 rfl rfl ?_
  refine wp_if_lt (tgt := 36) dX7_put_4 (by decide) (fun _ => ?_) (fun c108 => absurd c108 (by decide))
  refine wp_vret dX7_put_36 rfl ⟨rfl, ?_⟩
  subst eD85 eD87 eD91 eD93 eD97 eD99 eD103 eD105
  simp only [sr_sI_r (o := 66), sr_comm_II (show ¬ (66 = 63) by decide), sr_sI_sI, sr_rI_rI, sr_rI_1, if_true, pk_vb]
  rfl
set_option maxHeartbeats 4000000 in
set_option maxRecDepth 100000 in
theorem c_X7_feed (g : sr_G) (D : sr_St) (t : Nat) (ht : D.1 63 4 = nI t) (ht2 : t ≤ 300) (p q r s u : Int32)  : Con g M_X7_feed [.ref 63, .int p, .int q, .int r, .int s, .int u] D (sr_ret (some (.int (if t + 20 ≤ 300 then nI (t + 20) else -1))) (if t + 20 ≤ 300 then sr_sI (sr_rI (sr_th D) 66 (sr_feed (D.1 66) t p q r s u)) 63 4 (nI (t + 20)) else sr_th D)) := by
  refine Con.of pn_X7_feed (Nat.le_of_ble_eq_true rfl) ?_
  show WP g M_X7_feed 0 [(0, .ref 63), (1, .int p), (2, .int q), (3, .int r), (4, .int s), (5, .int u)] [] D _
  refine wp_aload_n dX7_feed_0 rfl rfl ?_
  refine wp_iconst (v := nI 0) dX7_feed_1 rfl ?_
  refine wp_putI dX7_feed_2 fl_X7_43 (by decide) rfl rfl ?_
  refine wp_D (fun D109 eD109 => ?_)
  have k110 : D109.1 63 4 = nI t := by rw [eD109, sr_sI_1, if_neg (by omega)]; exact ht
  refine wp_aload_n dX7_feed_5 rfl rfl ?_
  refine wp_getI_n (n := t) dX7_feed_6 fl_X7_77 (by decide) rfl rfl (k110) ?_
  refine wp_bipush (v := nI 20) dX7_feed_9 rfl ?_
  refine wp_iadd_n dX7_feed_11 ?_
  refine wp_sipush (v := nI 300) dX7_feed_12 rfl ?_
  refine wp_icmp_le_n (tgt := 20) dX7_feed_15 (by decide) (by first | omega | (split <;> omega)) (by first | omega | (split <;> omega)) (fun c111 => ?_) (fun c111 => ?_)
  · refine wp_aload_n dX7_feed_20 rfl rfl ?_
    refine wp_iload_n dX7_feed_21 rfl rfl ?_
    refine wp_callV (M2 := M_X7_put) (n := 1) (As := [.int p]) (st := []) dX7_feed_22 (c_X7_put g D109 t k110 (by omega) p) ca_X7_80 ⟨nm_X7_put, by decide, by decide⟩ rfl (by decide) rfl rfl rfl (Nat.le_of_ble_eq_true rfl) (fun r112 E113 q114 => ?_)
    obtain ⟨rfl, eE113⟩ := q114
    have eE113 := eE113.symm
    show WP g _ _ _ _ _ _
    have k115 : E113.1 63 4 = nI (t + 4) := by rw [eE113, sr_sI_1, if_pos ⟨rfl, rfl⟩]
    refine wp_aload_n dX7_feed_25 rfl rfl ?_
    refine wp_iload_n dX7_feed_26 rfl rfl ?_
    refine wp_callV (M2 := M_X7_put) (n := 1) (As := [.int q]) (st := []) dX7_feed_27 (c_X7_put g E113 (t + 4) k115 (by omega) q) ca_X7_80 ⟨nm_X7_put, by decide, by decide⟩ rfl (by decide) rfl rfl rfl (Nat.le_of_ble_eq_true rfl) (fun r116 E117 q118 => ?_)
    obtain ⟨rfl, eE117⟩ := q118
    have eE117 := eE117.symm
    show WP g _ _ _ _ _ _
    have k119 : E117.1 63 4 = nI (t + 4 + 4) := by rw [eE117, sr_sI_1, if_pos ⟨rfl, rfl⟩]
    refine wp_aload_n dX7_feed_30 rfl rfl ?_
    refine wp_iload_n dX7_feed_31 rfl rfl ?_
    refine wp_callV (M2 := M_X7_put) (n := 1) (As := [.int r]) (st := []) dX7_feed_32 (c_X7_put g E117 (t + 4 + 4) k119 (by omega) r) ca_X7_80 ⟨nm_X7_put, by decide, by decide⟩ rfl (by decide) rfl rfl rfl (Nat.le_of_ble_eq_true rfl) (fun r120 E121 q122 => ?_)
    obtain ⟨rfl, eE121⟩ := q122
    have eE121 := eE121.symm
    show WP g _ _ _ _ _ _
    have k123 : E121.1 63 4 = nI (t + 4 + 4 + 4) := by rw [eE121, sr_sI_1, if_pos ⟨rfl, rfl⟩]
    refine wp_aload_n dX7_feed_35 rfl rfl ?_
    refine wp_iload dX7_feed_36 rfl ?_
    refine wp_callV (M2 := M_X7_put) (n := 1) (As := [.int s]) (st := []) dX7_feed_38 (c_X7_put g E121 (t + 4 + 4 + 4) k123 (by omega) s) ca_X7_80 ⟨nm_X7_put, by decide, by decide⟩ rfl (by decide) rfl rfl rfl (Nat.le_of_ble_eq_true rfl) (fun r124 E125 q126 => ?_)
    obtain ⟨rfl, eE125⟩ := q126
    have eE125 := eE125.symm
    show WP g _ _ _ _ _ _
    have k127 : E125.1 63 4 = nI (t + 4 + 4 + 4 + 4) := by rw [eE125, sr_sI_1, if_pos ⟨rfl, rfl⟩]
    refine wp_aload_n dX7_feed_41 rfl rfl ?_
    refine wp_iload dX7_feed_42 rfl ?_
    refine wp_callV (M2 := M_X7_put) (n := 1) (As := [.int u]) (st := []) dX7_feed_44 (c_X7_put g E125 (t + 4 + 4 + 4 + 4) k127 (by omega) u) ca_X7_80 ⟨nm_X7_put, by decide, by decide⟩ rfl (by decide) rfl rfl rfl (Nat.le_of_ble_eq_true rfl) (fun r128 E129 q130 => ?_)
    obtain ⟨rfl, eE129⟩ := q130
    have eE129 := eE129.symm
    show WP g _ _ _ _ _ _
    have k131 : E129.1 63 4 = nI (t + 4 + 4 + 4 + 4 + 4) := by rw [eE129, sr_sI_1, if_pos ⟨rfl, rfl⟩]
    refine wp_aload_n dX7_feed_47 rfl rfl ?_
    refine wp_getI_n (n := t + 4 + 4 + 4 + 4 + 4) dX7_feed_48 fl_X7_77 (by decide) rfl rfl (k131) ?_
    refine wp_iret dX7_feed_51 rfl ?_
    rw [if_pos (by omega), if_pos (by omega)]
    subst eD109 eE113 eE117 eE121 eE125 eE129
    refine ⟨rfl, ?_⟩
    simp only [sr_comm_II (show ¬ (66 = 63) by decide), sr_sI_sI, sr_rI_rI, sr_rI_1, if_true, sr_th, sr_feed]
    rfl
  · refine wp_iconst (v := -1) dX7_feed_18 rfl ?_
    refine wp_iret dX7_feed_19 rfl ?_
    rw [if_neg (by omega), if_neg (by omega)]
    subst eD109
    exact ⟨rfl, rfl⟩
def sr_racedOk (r : Nat) (v w : Int32) : Prop := ∃ q k, q < r ∧ k < 4 ∧ v = nI q ∧ w = nI k
set_option maxHeartbeats 4000000 in
set_option maxRecDepth 100000 in
theorem c_X7_raced (g : sr_G) (D : sr_St) (r : Nat) (hr : D.1 64 2 = nI r) (hr12 : r ≤ 12) (v w : Int32) : Con g M_X7_raced [.ref 63, .int v, .int w] D (fun a D' => (∀ q k, q < r → k < 4 → v = nI q → w = nI k → a = some (.int (D.1 64 (3 + 4 * q + k))) ∧ D' = sr_sI D 63 0 (nI 0)) ∧ (¬ sr_racedOk r v w → D' = sr_sI D 63 0 (nI 1) ∧ ∃ x, a = some (.int x))) := by
  refine Con.of pn_X7_raced (Nat.le_of_ble_eq_true rfl) ?_
  by_cases hok : sr_racedOk r v w
  · obtain ⟨q, k, hq, hk, rfl, rfl⟩ := hok
    refine wp_aload_n dX7_raced_0 rfl rfl ?_
    refine wp_iload_n dX7_raced_1 rfl rfl ?_
    refine wp_iconst (v := nI 0) dX7_raced_2 rfl ?_
    refine wp_aload_n dX7_raced_3 rfl rfl ?_
    refine wp_callV (M2 := M_X7_races) (n := 0) (As := []) (st := [.int (nI 0), .int (nI q), .ref 63]) dX7_raced_4 (c_X7_races_n g D r hr) ca_X7_58 ⟨nm_X7_races, by decide, by decide⟩ rfl (by decide) rfl rfl rfl (Nat.le_of_ble_eq_true rfl) (fun r132 E133 q134 => ?_)
    obtain ⟨rfl, rfl⟩ := q134
    show WP g _ _ _ (.int (nI r) :: _) _ _
    refine wp_iconst (v := nI 1) dX7_raced_7 rfl ?_
    refine wp_isub dX7_raced_8 ?_
    refine wp_callS (M2 := M_X7_isIn) (n := 3) (As := [.int (nI q), .int (nI 0), .int ((nI r) - (nI 1))]) (st := [.ref 63]) dX7_raced_9 (c_X7_isIn g D (nI q) (nI 0) ((nI r) - (nI 1))) ca_X7_50 ⟨nm_X7_isIn, by decide, by decide⟩ rfl rfl (Nat.le_of_ble_eq_true rfl) (fun r135 E136 q137 => ?_)
    obtain ⟨rfl, rfl⟩ := q137
    show WP g _ _ _ (.int (sr_b (sr_isIn (nI q) (nI 0) ((nI r) - (nI 1)))) :: _) _ _
    refine wp_if_eq_b (tgt := 28) dX7_raced_12 (by decide) (fun c138 => ?_) (fun c138 => ?_)
    · exact absurd ((sr_in_n (by omega)).mpr ⟨q, hq, rfl⟩) (by rw [c138]; decide)
    · refine wp_iload_n dX7_raced_15 rfl rfl ?_
      refine wp_iconst (v := nI 0) dX7_raced_16 rfl ?_
      refine wp_iconst (v := nI 3) dX7_raced_17 rfl ?_
      refine wp_callS (M2 := M_X7_isIn) (n := 3) (As := [.int (nI k), .int (nI 0), .int (nI 3)]) (st := [.ref 63]) dX7_raced_18 (c_X7_isIn g D (nI k) (nI 0) (nI 3)) ca_X7_50 ⟨nm_X7_isIn, by decide, by decide⟩ rfl rfl (Nat.le_of_ble_eq_true rfl) (fun r139 E140 q141 => ?_)
      obtain ⟨rfl, rfl⟩ := q141
      show WP g _ _ _ (.int (sr_b (sr_isIn (nI k) (nI 0) (nI 3))) :: _) _ _
      refine wp_if_eq_b (tgt := 28) dX7_raced_21 (by decide) (fun c142 => ?_) (fun c142 => ?_)
      · exact absurd ((sr_in_n (n := 4) (by omega)).mpr ⟨k, hk, rfl⟩) (by rw [show (nI 4 - nI 1 : Int32) = nI 3 from rfl, c142]; decide)
      · refine wp_iconst (v := nI 0) dX7_raced_24 rfl ?_
        refine wp_goto (tgt := 29) dX7_raced_25 (by decide) ?_
        refine wp_putI dX7_raced_29 fl_X7_43 (by decide) rfl rfl ?_
        refine wp_D (fun D143 eD143 => ?_)
        have k144 : D143.1 64 2 = nI r := by rw [eD143, sr_sI_1, if_neg (by omega)]; exact hr
        have k145 : D143.1 63 0 = nI 0 := by rw [eD143, sr_sI_1, if_pos ⟨rfl, rfl⟩]
        refine wp_aload_n dX7_raced_32 rfl rfl ?_
        refine wp_getI_n (n := 0) dX7_raced_33 fl_X7_43 (by decide) rfl rfl (k145) ?_
        refine wp_iconst (v := nI 1) dX7_raced_36 rfl ?_
        refine wp_icmp_ne (tgt := 44) dX7_raced_37 (by decide) (fun _ => ?_) (fun c146 => absurd c146 (by decide))
        refine wp_aload_n dX7_raced_44 rfl rfl ?_
        refine wp_iload_n dX7_raced_45 rfl rfl ?_
        refine wp_iload_n dX7_raced_46 rfl rfl ?_
        refine wp_callV (M2 := M_X7_of) (n := 2) (As := [.int (nI q), .int (nI k)]) (st := []) dX7_raced_47 (c_X7_of g D143 q k (by omega) hk (by omega)) ca_X7_73 ⟨nm_X7_of, by decide, by decide⟩ rfl (by decide) rfl rfl rfl (Nat.le_of_ble_eq_true rfl) (fun r147 E148 q149 => ?_)
        obtain ⟨rfl, rfl⟩ := q149
        show WP g _ _ _ (.int (D143.1 64 (3 + 4 * q + k)) :: _) _ _
        refine wp_iret dX7_raced_50 rfl ⟨fun q2 k2 h1 h2 h3 h4 => ?_, fun h => absurd ⟨q, k, hq, hk, rfl, rfl⟩ h⟩
        have h3 := (nI_eq (by omega) (by omega)).mp h3
        have h4 := (nI_eq (by omega) (by omega)).mp h4
        subst h3; subst h4
        subst eD143
        exact ⟨by rw [sr_sI_1, if_neg (by omega)], rfl⟩
  · show WP g M_X7_raced 0 [(0, .ref 63), (1, .int v), (2, .int w)] [] D _
    refine wp_aload_n dX7_raced_0 rfl rfl ?_
    refine wp_iload_n dX7_raced_1 rfl rfl ?_
    refine wp_iconst (v := nI 0) dX7_raced_2 rfl ?_
    refine wp_aload_n dX7_raced_3 rfl rfl ?_
    refine wp_callV (M2 := M_X7_races) (n := 0) (As := []) (st := [.int (nI 0), .int v, .ref 63]) dX7_raced_4 (c_X7_races_n g D r hr) ca_X7_58 ⟨nm_X7_races, by decide, by decide⟩ rfl (by decide) rfl rfl rfl (Nat.le_of_ble_eq_true rfl) (fun r150 E151 q152 => ?_)
    obtain ⟨rfl, rfl⟩ := q152
    show WP g _ _ _ (.int (nI r) :: _) _ _
    refine wp_iconst (v := nI 1) dX7_raced_7 rfl ?_
    refine wp_isub dX7_raced_8 ?_
    refine wp_callS (M2 := M_X7_isIn) (n := 3) (As := [.int v, .int (nI 0), .int ((nI r) - (nI 1))]) (st := [.ref 63]) dX7_raced_9 (c_X7_isIn g D v (nI 0) ((nI r) - (nI 1))) ca_X7_50 ⟨nm_X7_isIn, by decide, by decide⟩ rfl rfl (Nat.le_of_ble_eq_true rfl) (fun r153 E154 q155 => ?_)
    obtain ⟨rfl, rfl⟩ := q155
    show WP g _ _ _ (.int (sr_b (sr_isIn v (nI 0) ((nI r) - (nI 1)))) :: _) _ _
    refine wp_if_eq_b (tgt := 28) dX7_raced_12 (by decide) (fun c156 => ?_) (fun c156 => ?_)
    · refine wp_iconst (v := nI 1) dX7_raced_28 rfl ?_
      refine wp_putI dX7_raced_29 fl_X7_43 (by decide) rfl rfl ?_
      refine wp_D (fun D157 eD157 => ?_)
      have k158 : D157.1 64 2 = nI r := by rw [eD157, sr_sI_1, if_neg (by omega)]; exact hr
      have k159 : D157.1 63 0 = nI 1 := by rw [eD157, sr_sI_1, if_pos ⟨rfl, rfl⟩]
      refine wp_aload_n dX7_raced_32 rfl rfl ?_
      refine wp_getI_n (n := 1) dX7_raced_33 fl_X7_43 (by decide) rfl rfl (k159) ?_
      refine wp_iconst (v := nI 1) dX7_raced_36 rfl ?_
      refine wp_icmp_ne (tgt := 44) dX7_raced_37 (by decide) (fun c160 => absurd c160 (by decide)) (fun _ => ?_)
      refine wp_iconst (v := nI 0) dX7_raced_40 rfl ?_
      refine wp_goto (tgt := 50) dX7_raced_41 (by decide) ?_
      refine wp_iret dX7_raced_50 rfl ⟨fun q k h1 h2 h3 h4 => absurd ⟨q, k, h1, h2, h3, h4⟩ hok, fun _ => ?_⟩
      subst eD157
      exact ⟨rfl, _, rfl⟩
    · have h1 := c156
      refine wp_iload_n dX7_raced_15 rfl rfl ?_
      refine wp_iconst (v := nI 0) dX7_raced_16 rfl ?_
      refine wp_iconst (v := nI 3) dX7_raced_17 rfl ?_
      refine wp_callS (M2 := M_X7_isIn) (n := 3) (As := [.int w, .int (nI 0), .int (nI 3)]) (st := [.ref 63]) dX7_raced_18 (c_X7_isIn g D w (nI 0) (nI 3)) ca_X7_50 ⟨nm_X7_isIn, by decide, by decide⟩ rfl rfl (Nat.le_of_ble_eq_true rfl) (fun r161 E162 q163 => ?_)
      obtain ⟨rfl, rfl⟩ := q163
      show WP g _ _ _ (.int (sr_b (sr_isIn w (nI 0) (nI 3))) :: _) _ _
      refine wp_if_eq_b (tgt := 28) dX7_raced_21 (by decide) (fun c164 => ?_) (fun c164 => ?_)
      · refine wp_iconst (v := nI 1) dX7_raced_28 rfl ?_
        refine wp_putI dX7_raced_29 fl_X7_43 (by decide) rfl rfl ?_
        refine wp_D (fun D165 eD165 => ?_)
        have k166 : D165.1 64 2 = nI r := by rw [eD165, sr_sI_1, if_neg (by omega)]; exact hr
        have k167 : D165.1 63 0 = nI 1 := by rw [eD165, sr_sI_1, if_pos ⟨rfl, rfl⟩]
        refine wp_aload_n dX7_raced_32 rfl rfl ?_
        refine wp_getI_n (n := 1) dX7_raced_33 fl_X7_43 (by decide) rfl rfl (k167) ?_
        refine wp_iconst (v := nI 1) dX7_raced_36 rfl ?_
        refine wp_icmp_ne (tgt := 44) dX7_raced_37 (by decide) (fun c168 => absurd c168 (by decide)) (fun _ => ?_)
        refine wp_iconst (v := nI 0) dX7_raced_40 rfl ?_
        refine wp_goto (tgt := 50) dX7_raced_41 (by decide) ?_
        refine wp_iret dX7_raced_50 rfl ⟨fun q k h1 h2 h3 h4 => absurd ⟨q, k, h1, h2, h3, h4⟩ hok, fun _ => ?_⟩
        subst eD165
        exact ⟨rfl, _, rfl⟩
      · exact absurd (by obtain ⟨q, hq, e1⟩ := (sr_in_n (by omega)).mp h1; obtain ⟨k, hk, e2⟩ := (sr_in_n (n := 4) (by omega)).mp c164; exact ⟨q, k, hq, hk, e1, e2⟩) hok
