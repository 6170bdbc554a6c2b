set_option maxHeartbeats 4000000 in
set_option maxRecDepth 100000 in
theorem c_X7_clearsForm (g : sr_G) (D : sr_St)   : Con g M_X7_clearsForm [.ref 63] D (sr_ret (none) (sr_rI D 67 (sr_fill 7 (fun _ => nI 0) (D.1 67)))) := by
  refine Con.of pn_X7_clearsForm (Nat.le_of_ble_eq_true rfl) ?_
  show WP g M_X7_clearsForm 0 [(0, .ref 63)] [] D _
  have hL : ∀ i, i ≤ 7 → WP g M_X7_clearsForm 2 [(0, .ref 63), (1, .int (nI i))] [] (sr_rI D 67 (sr_fill i (fun _ => nI 0) (D.1 67))) (sr_ret none (sr_rI D 67 (sr_fill 7 (fun _ => nI 0) (D.1 67)))) := by
    refine sr_up (fun i hi ih => ?_)
    refine wp_iload_n dX7_clearsForm_2 rfl rfl ?_
    refine wp_bipush (v := nI 7) dX7_clearsForm_3 rfl ?_
    refine wp_icmp_ge_n (tgt := 21) dX7_clearsForm_5 (by decide) (by first | omega | (split <;> omega)) (by first | omega | (split <;> omega)) (fun c1 => ?_) (fun c1 => ?_)
    · have : i = 7 := by omega
      subst this
      exact wp_vret dX7_clearsForm_21 rfl ⟨rfl, rfl⟩
    · refine wp_aload_n dX7_clearsForm_8 rfl rfl ?_
      refine wp_getR (r := 67) dX7_clearsForm_9 fl_X7_24 (by decide) rfl rfl rfl ?_
      refine wp_iload_n dX7_clearsForm_12 rfl rfl ?_
      refine wp_iconst (v := nI 0) dX7_clearsForm_13 rfl ?_
      refine wp_iast dX7_clearsForm_14 (by decide) rfl (show _ < 7 by omega) (by first | omega | (split <;> omega)) ?_
      refine wp_D (fun D2 eD2 => ?_)
      refine wp_iinc_n (b := 1) (lv' := [(0, .ref 63), (1, .int (nI (i + 1)))]) dX7_clearsForm_15 rfl rfl (by decide) rfl ?_
      refine wp_goto (tgt := 2) dX7_clearsForm_18 (by decide) ?_
      have h := ih (by omega)
      rw [← sr_fillI] at h
      subst eD2
      exact h
  refine wp_iconst (v := nI 0) dX7_clearsForm_0 rfl ?_
  refine wp_istore_n (lv' := [(0, .ref 63), (1, .int (nI 0))]) dX7_clearsForm_1 rfl (by decide) rfl ?_
  have h := hL 0 (by decide)
  rw [sr_fill_0, sr_rI_self] at h
  exact h
/-- the form of a race -/
def sr_form (n a b : Nat) (t : Int32) : Nat → Int32 := fun k => if k < n then (if a.testBit k = true then nI 1 else if b.testBit k = true then -1 else nI 0) else if k = n then t else nI 0
def sr_dform (i j : Nat) : Nat → Int32 := fun k => if i = j then nI 0 else if k = j then -1 else if k = i then nI 1 else nI 0
def sr_formTo (i n a b : Nat) (f : Nat → Int32) : Nat → Int32 := sr_fill i (sr_form n a b (nI 0)) (sr_fill 7 (fun _ => nI 0) f)
set_option maxHeartbeats 4000000 in
set_option maxRecDepth 100000 in
theorem c_X7_formOf (g : sr_G) (D : sr_St) (n : Nat) (hn : D.1 64 0 = nI n) (hn6 : n ≤ 6) (a b : Nat) (ha : a < 64) (hb : b < 64) (t : Int32)  : Con g M_X7_formOf [.ref 63, .int (nI a), .int (nI b), .int t] D (sr_ret (none) (sr_rI D 67 (sr_fill 7 (sr_form n a b t) (D.1 67)))) := by
  refine Con.of pn_X7_formOf (Nat.le_of_ble_eq_true rfl) ?_
  show WP g M_X7_formOf 0 [(0, .ref 63), (1, .int (nI a)), (2, .int (nI b)), (3, .int t)] [] D _
  have hL : ∀ i, i ≤ n → WP g M_X7_formOf 7 [(0, .ref 63), (1, .int (nI a)), (2, .int (nI b)), (3, .int t), (4, .int (nI i))] [] (sr_rI D 67 (sr_formTo i n a b (D.1 67))) (sr_ret none (sr_rI D 67 (sr_fill 7 (sr_form n a b t) (D.1 67)))) := by
    refine sr_up (fun i hi ih => ?_)
    have kn : (sr_rI D 67 (sr_formTo i n a b (D.1 67))).1 64 0 = nI n := by rw [sr_rI_1, if_neg (by decide)]; exact hn
    refine wp_iload dX7_formOf_7 rfl ?_
    refine wp_aload_n dX7_formOf_9 rfl rfl ?_
    refine wp_callV (M2 := M_X7_n) (n := 0) (As := []) (st := [.int (nI i)]) dX7_formOf_10 (c_X7_n_n g ((sr_rI D 67 (sr_formTo i n a b (D.1 67)))) n kn) ca_X7_46 ⟨nm_X7_n, by decide, by decide⟩ rfl (by decide) rfl rfl rfl (Nat.le_of_ble_eq_true rfl) (fun r3 E4 q5 => ?_)
    obtain ⟨rfl, rfl⟩ := q5
    show WP g _ _ _ (.int (nI n) :: _) _ _
    refine wp_icmp_ge_n (tgt := 56) dX7_formOf_13 (by decide) (by first | omega | (split <;> omega)) (by first | omega | (split <;> omega)) (fun c6 => ?_) (fun c6 => ?_)
    · refine wp_aload_n dX7_formOf_56 rfl rfl ?_
      refine wp_getR (r := 67) dX7_formOf_57 fl_X7_24 (by decide) rfl rfl rfl ?_
      refine wp_aload_n dX7_formOf_60 rfl rfl ?_
      refine wp_callV (M2 := M_X7_n) (n := 0) (As := []) (st := [.ref 67]) dX7_formOf_61 (c_X7_n_n g ((sr_rI D 67 (sr_formTo i n a b (D.1 67)))) n kn) ca_X7_46 ⟨nm_X7_n, by decide, by decide⟩ rfl (by decide) rfl rfl rfl (Nat.le_of_ble_eq_true rfl) (fun r7 E8 q9 => ?_)
      obtain ⟨rfl, rfl⟩ := q9
      show WP g _ _ _ (.int (nI n) :: _) _ _
      refine wp_iload_n dX7_formOf_64 rfl rfl ?_
      refine wp_iast dX7_formOf_65 (by decide) rfl (show _ < 7 by omega) (by first | omega | (split <;> omega)) ?_
      refine wp_D (fun D10 eD10 => ?_)
      have k11 : D10.1 64 0 = nI n := by rw [eD10, sr_sI_1, if_neg (by omega)]; exact kn
      have hin : i = n := by omega
      subst hin
      refine wp_vret dX7_formOf_66 rfl ⟨rfl, ?_⟩
      subst eD10
      rw [sr_sI_r, sr_rI_rI, sr_rI_1, if_pos rfl]
      congr 1; funext k; simp only [upd, sr_formTo, sr_fill, sr_form]
      repeat' split
      all_goals first | rfl | omega | simp_all
    · refine wp_aload_n dX7_formOf_16 rfl rfl ?_
      refine wp_getR (r := 67) dX7_formOf_17 fl_X7_24 (by decide) rfl rfl rfl ?_
      refine wp_iload dX7_formOf_20 rfl ?_
      refine wp_iload_n dX7_formOf_22 rfl rfl ?_
      refine wp_iload dX7_formOf_23 rfl ?_
      refine wp_callS (M2 := M_X7_has) (n := 2) (As := [.int (nI a), .int (nI i)]) (st := [.int (nI i), .ref 67]) dX7_formOf_25 (c_X7_has g ((sr_rI D 67 (sr_formTo i n a b (D.1 67)))) a i (by omega) (by omega)) ca_X7_116 ⟨nm_X7_has, by decide, by decide⟩ rfl rfl (Nat.le_of_ble_eq_true rfl) (fun r12 E13 q14 => ?_)
      obtain ⟨rfl, rfl⟩ := q14
      show WP g _ _ _ (.int (sr_b (a.testBit i)) :: _) _ _
      refine wp_if_eq_b (tgt := 35) dX7_formOf_28 (by decide) (fun c15 => ?_) (fun c15 => ?_)
      · have h1 := c15
        refine wp_iload_n dX7_formOf_35 rfl rfl ?_
        refine wp_iload dX7_formOf_36 rfl ?_
        refine wp_callS (M2 := M_X7_has) (n := 2) (As := [.int (nI b), .int (nI i)]) (st := [.int (nI i), .ref 67]) dX7_formOf_38 (c_X7_has g ((sr_rI D 67 (sr_formTo i n a b (D.1 67)))) b i (by omega) (by omega)) ca_X7_116 ⟨nm_X7_has, by decide, by decide⟩ rfl rfl (Nat.le_of_ble_eq_true rfl) (fun r16 E17 q18 => ?_)
        obtain ⟨rfl, rfl⟩ := q18
        show WP g _ _ _ (.int (sr_b (b.testBit i)) :: _) _ _
        refine wp_if_eq_b (tgt := 48) dX7_formOf_41 (by decide) (fun c19 => ?_) (fun c19 => ?_)
        · have h2 := c19
          refine wp_iconst (v := nI 0) dX7_formOf_48 rfl ?_
          refine wp_iast dX7_formOf_49 (by decide) rfl (show _ < 7 by omega) (by first | omega | (split <;> omega)) ?_
          refine wp_D (fun D20 eD20 => ?_)
          have k21 : D20.1 64 0 = nI n := by rw [eD20, sr_sI_1, if_neg (by omega)]; exact kn
          refine wp_iinc_n (b := 1) (lv' := [(0, .ref 63), (1, .int (nI a)), (2, .int (nI b)), (3, .int t), (4, .int (nI (i + 1)))]) dX7_formOf_50 rfl rfl (by decide) rfl ?_
          refine wp_goto (tgt := 7) dX7_formOf_53 (by decide) ?_
          have h := ih (by omega)
          unfold sr_formTo at h
          rw [← sr_fillI] at h
          have hv : sr_form n a b (nI 0) i = nI 0 := by simp_all [sr_form]
          rw [hv] at h
          subst eD20
          exact h
        · have h2 := c19
          refine wp_iconst (v := -1) dX7_formOf_44 rfl ?_
          refine wp_goto (tgt := 49) dX7_formOf_45 (by decide) ?_
          refine wp_iast dX7_formOf_49 (by decide) rfl (show _ < 7 by omega) (by first | omega | (split <;> omega)) ?_
          refine wp_D (fun D22 eD22 => ?_)
          have k23 : D22.1 64 0 = nI n := by rw [eD22, sr_sI_1, if_neg (by omega)]; exact kn
          refine wp_iinc_n (b := 1) (lv' := [(0, .ref 63), (1, .int (nI a)), (2, .int (nI b)), (3, .int t), (4, .int (nI (i + 1)))]) dX7_formOf_50 rfl rfl (by decide) rfl ?_
          refine wp_goto (tgt := 7) dX7_formOf_53 (by decide) ?_
          have h := ih (by omega)
          unfold sr_formTo at h
          rw [← sr_fillI] at h
          have hv : sr_form n a b (nI 0) i = (-1) := by simp_all [sr_form]
          rw [hv] at h
          subst eD22
          exact h
      · have h1 := c15
        refine wp_iconst (v := nI 1) dX7_formOf_31 rfl ?_
        refine wp_goto (tgt := 49) dX7_formOf_32 (by decide) ?_
        refine wp_iast dX7_formOf_49 (by decide) rfl (show _ < 7 by omega) (by first | omega | (split <;> omega)) ?_
        refine wp_D (fun D24 eD24 => ?_)
        have k25 : D24.1 64 0 = nI n := by rw [eD24, sr_sI_1, if_neg (by omega)]; exact kn
        refine wp_iinc_n (b := 1) (lv' := [(0, .ref 63), (1, .int (nI a)), (2, .int (nI b)), (3, .int t), (4, .int (nI (i + 1)))]) dX7_formOf_50 rfl rfl (by decide) rfl ?_
        refine wp_goto (tgt := 7) dX7_formOf_53 (by decide) ?_
        have h := ih (by omega)
        unfold sr_formTo at h
        rw [← sr_fillI] at h
        have hv : sr_form n a b (nI 0) i = nI 1 := by simp_all [sr_form]
        rw [hv] at h
        subst eD24
        exact h
  refine wp_aload_n dX7_formOf_0 rfl rfl ?_
  refine wp_callV (M2 := M_X7_clearsForm) (n := 0) (As := []) (st := []) dX7_formOf_1 (c_X7_clearsForm g D) ca_X7_143 ⟨nm_X7_clearsForm, by decide, by decide⟩ rfl (by decide) rfl rfl rfl (Nat.le_of_ble_eq_true rfl) (fun r26 E27 q28 => ?_)
  obtain ⟨rfl, eE27⟩ := q28
  have eE27 := eE27.symm
  show WP g _ _ _ _ _ _
  refine wp_iconst (v := nI 0) dX7_formOf_4 rfl ?_
  refine wp_istore (lv' := [(0, .ref 63), (1, .int (nI a)), (2, .int (nI b)), (3, .int t), (4, .int (nI 0))]) dX7_formOf_5 (by decide) rfl ?_
  have h := hL 0 (by omega)
  unfold sr_formTo at h
  rw [sr_fill_0] at h
  subst eE27
  exact h
set_option maxHeartbeats 4000000 in
set_option maxRecDepth 100000 in
theorem c_X7_difference (g : sr_G) (D : sr_St) (i j : Nat) (hi : i < 6) (hj : j < 6)  : Con g M_X7_difference [.ref 63, .int (nI i), .int (nI j)] D (sr_ret (none) (sr_rI D 67 (sr_fill 7 (sr_dform i j) (D.1 67)))) := by
  refine Con.of pn_X7_difference (Nat.le_of_ble_eq_true rfl) ?_
  show WP g M_X7_difference 0 [(0, .ref 63), (1, .int (nI i)), (2, .int (nI j))] [] D _
  refine wp_aload_n dX7_difference_0 rfl rfl ?_
  refine wp_callV (M2 := M_X7_clearsForm) (n := 0) (As := []) (st := []) dX7_difference_1 (c_X7_clearsForm g D) ca_X7_143 ⟨nm_X7_clearsForm, by decide, by decide⟩ rfl (by decide) rfl rfl rfl (Nat.le_of_ble_eq_true rfl) (fun r29 E30 q31 => ?_)
  obtain ⟨rfl, eE30⟩ := q31
  have eE30 := eE30.symm
  show WP g _ _ _ _ _ _
  refine wp_iload_n dX7_difference_4 rfl rfl ?_
  refine wp_iload_n dX7_difference_5 rfl rfl ?_
  refine wp_icmp_ne_n (tgt := 10) dX7_difference_6 (by decide) (by first | omega | (split <;> omega)) (by first | omega | (split <;> omega)) (fun c32 => ?_) (fun c32 => ?_)
  · refine wp_aload_n dX7_difference_10 rfl rfl ?_
    refine wp_getR (r := 67) dX7_difference_11 fl_X7_24 (by decide) rfl rfl rfl ?_
    refine wp_iload_n dX7_difference_14 rfl rfl ?_
    refine wp_iconst (v := nI 1) dX7_difference_15 rfl ?_
    refine wp_iast dX7_difference_16 (by decide) rfl (show _ < 7 by omega) (by first | omega | (split <;> omega)) ?_
    refine wp_D (fun D33 eD33 => ?_)
    refine wp_aload_n dX7_difference_17 rfl rfl ?_
    refine wp_getR (r := 67) dX7_difference_18 fl_X7_24 (by decide) rfl rfl rfl ?_
    refine wp_iload_n dX7_difference_21 rfl rfl ?_
    refine wp_iconst (v := -1) dX7_difference_22 rfl ?_
    refine wp_iast dX7_difference_23 (by decide) rfl (show _ < 7 by omega) (by first | omega | (split <;> omega)) ?_
    refine wp_D (fun D34 eD34 => ?_)
    refine wp_vret dX7_difference_24 rfl ⟨rfl, ?_⟩
    subst eE30 eD33 eD34
    try rw [sr_sI_r, sr_sI_r, sr_rI_rI, sr_rI_rI]
    congr 1; funext k; simp only [upd, sr_rI_1, if_true, sr_fill, sr_dform]
    repeat' split
    all_goals first | rfl | omega | simp_all
  · refine wp_vret dX7_difference_9 rfl ⟨rfl, ?_⟩
    subst eE30
    try rw [sr_sI_r, sr_sI_r, sr_rI_rI, sr_rI_rI]
    congr 1; funext k; simp only [upd, sr_rI_1, if_true, sr_fill, sr_dform]
    repeat' split
    all_goals first | rfl | omega | simp_all
set_option maxHeartbeats 4000000 in
set_option maxRecDepth 100000 in
theorem c_X7_rowAt (g : sr_G) (D : sr_St) (i j : Nat) (hi : i < 7) (hj : j < 8)  : Con g M_X7_rowAt [.ref 63, .int (nI i), .int (nI j)] D (sr_ret (some (.long (D.2 70 (8 * i + j)))) D) := by
  refine Con.of pn_X7_rowAt (Nat.le_of_ble_eq_true rfl) ?_
  show WP g M_X7_rowAt 0 [(0, .ref 63), (1, .int (nI i)), (2, .int (nI j))] [] D _
  refine wp_aload_n dX7_rowAt_0 rfl rfl ?_
  refine wp_getR (r := 70) dX7_rowAt_1 fl_X7_34 (by decide) rfl rfl rfl ?_
  refine wp_bipush (v := nI 8) dX7_rowAt_4 rfl ?_
  refine wp_iload_n dX7_rowAt_6 rfl rfl ?_
  refine wp_imul_n dX7_rowAt_7 ?_
  refine wp_iload_n dX7_rowAt_8 rfl rfl ?_
  refine wp_iadd_n dX7_rowAt_9 ?_
  refine wp_lald dX7_rowAt_10 (by decide) rfl (show _ < 56 by omega) (by first | omega | (split <;> omega)) ?_
  exact wp_lret dX7_rowAt_11 rfl ⟨rfl, rfl⟩
/-- sums of longs -/
def sr_sumL (f : Nat → Int64) : Nat → Int64
  | 0 => 0
  | k + 1 => sr_sumL f k + f k
set_option maxHeartbeats 4000000 in
set_option maxRecDepth 100000 in
theorem c_X7_value (g : sr_G) (D : sr_St) (w : Nat) (hw : D.1 63 18 = nI w) (hw7 : w ≤ 7)  : Con g M_X7_value [.ref 63] D (sr_ret (some (.long (sr_sumL (fun k => D.2 71 k * D.2 69 k) w))) D) := by
  refine Con.of pn_X7_value (Nat.le_of_ble_eq_true rfl) ?_
  show WP g M_X7_value 0 [(0, .ref 63)] [] D _
  have hL : ∀ i, i ≤ w → WP g M_X7_value 4 [(0, .ref 63), (1, .long (sr_sumL (fun k => D.2 71 k * D.2 69 k) i)), (3, .int (nI i))] [] D (sr_ret (some (.long (sr_sumL (fun k => D.2 71 k * D.2 69 k) w))) D) := by
    refine sr_up (fun i hi ih => ?_)
    refine wp_iload_n dX7_value_4 rfl rfl ?_
    refine wp_aload_n dX7_value_5 rfl rfl ?_
    refine wp_getI_n (n := w) dX7_value_6 fl_X7_146 (by decide) rfl rfl (hw) ?_
    refine wp_icmp_ge_n (tgt := 34) dX7_value_9 (by decide) (by first | omega | (split <;> omega)) (by first | omega | (split <;> omega)) (fun c35 => ?_) (fun c35 => ?_)
    · refine wp_lload_n dX7_value_34 rfl rfl ?_
      have : i = w := by omega
      subst this
      exact wp_lret dX7_value_35 rfl ⟨rfl, rfl⟩
    · refine wp_lload_n dX7_value_12 rfl rfl ?_
      refine wp_aload_n dX7_value_13 rfl rfl ?_
      refine wp_getR (r := 71) dX7_value_14 fl_X7_37 (by decide) rfl rfl rfl ?_
      refine wp_iload_n dX7_value_17 rfl rfl ?_
      refine wp_lald dX7_value_18 (by decide) rfl (show _ < 7 by omega) (by first | omega | (split <;> omega)) ?_
      refine wp_aload_n dX7_value_19 rfl rfl ?_
      refine wp_getR (r := 69) dX7_value_20 fl_X7_31 (by decide) rfl rfl rfl ?_
      refine wp_iload_n dX7_value_23 rfl rfl ?_
      refine wp_lald dX7_value_24 (by decide) rfl (show _ < 7 by omega) (by first | omega | (split <;> omega)) ?_
      refine wp_lmul dX7_value_25 ?_
      refine wp_ladd dX7_value_26 ?_
      refine wp_topl (fun x36 ex36 => ?_)
      refine wp_lstore_n (lv' := [(0, .ref 63), (1, .long x36), (3, .int (nI i))]) dX7_value_27 rfl (by decide) rfl ?_
      refine wp_iinc_n (b := 1) (lv' := [(0, .ref 63), (1, .long x36), (3, .int (nI (i + 1)))]) dX7_value_28 rfl rfl (by decide) rfl ?_
      refine wp_goto (tgt := 4) dX7_value_31 (by decide) ?_
      subst ex36
      exact ih (by omega)
  refine wp_lconst (v := 0) dX7_value_0 rfl ?_
  refine wp_lstore_n (lv' := [(0, .ref 63), (1, .long 0)]) dX7_value_1 rfl (by decide) rfl ?_
  refine wp_iconst (v := nI 0) dX7_value_2 rfl ?_
  refine wp_istore_n (lv' := [(0, .ref 63), (1, .long 0), (3, .int (nI 0))]) dX7_value_3 rfl (by decide) rfl ?_
  exact hL 0 (by omega)
set_option maxHeartbeats 4000000 in
set_option maxRecDepth 100000 in
theorem c_X7_doubt (g : sr_G) (D : sr_St) (w : Nat) (hw : D.1 63 18 = nI w) (hw7 : w ≤ 7)  : Con g M_X7_doubt [.ref 63] D (sr_ret (some (.long (sr_sumL (fun k => D.2 71 k * (D.1 67 k).toInt64) w))) D) := by
  refine Con.of pn_X7_doubt (Nat.le_of_ble_eq_true rfl) ?_
  show WP g M_X7_doubt 0 [(0, .ref 63)] [] D _
  have hL : ∀ i, i ≤ w → WP g M_X7_doubt 4 [(0, .ref 63), (1, .long (sr_sumL (fun k => D.2 71 k * (D.1 67 k).toInt64) i)), (3, .int (nI i))] [] D (sr_ret (some (.long (sr_sumL (fun k => D.2 71 k * (D.1 67 k).toInt64) w))) D) := by
    refine sr_up (fun i hi ih => ?_)
    refine wp_iload_n dX7_doubt_4 rfl rfl ?_
    refine wp_aload_n dX7_doubt_5 rfl rfl ?_
    refine wp_getI_n (n := w) dX7_doubt_6 fl_X7_146 (by decide) rfl rfl (hw) ?_
    refine wp_icmp_ge_n (tgt := 35) dX7_doubt_9 (by decide) (by first | omega | (split <;> omega)) (by first | omega | (split <;> omega)) (fun c37 => ?_) (fun c37 => ?_)
    · refine wp_lload_n dX7_doubt_35 rfl rfl ?_
      have : i = w := by omega
      subst this
      exact wp_lret dX7_doubt_36 rfl ⟨rfl, rfl⟩
    · refine wp_lload_n dX7_doubt_12 rfl rfl ?_
      refine wp_aload_n dX7_doubt_13 rfl rfl ?_
      refine wp_getR (r := 71) dX7_doubt_14 fl_X7_37 (by decide) rfl rfl rfl ?_
      refine wp_iload_n dX7_doubt_17 rfl rfl ?_
      refine wp_lald dX7_doubt_18 (by decide) rfl (show _ < 7 by omega) (by first | omega | (split <;> omega)) ?_
      refine wp_aload_n dX7_doubt_19 rfl rfl ?_
      refine wp_getR (r := 67) dX7_doubt_20 fl_X7_24 (by decide) rfl rfl rfl ?_
      refine wp_iload_n dX7_doubt_23 rfl rfl ?_
      refine wp_iald dX7_doubt_24 (by decide) rfl (show _ < 7 by omega) (by first | omega | (split <;> omega)) ?_
      refine wp_i2l dX7_doubt_25 ?_
      refine wp_lmul dX7_doubt_26 ?_
      refine wp_ladd dX7_doubt_27 ?_
      refine wp_topl (fun x38 ex38 => ?_)
      refine wp_lstore_n (lv' := [(0, .ref 63), (1, .long x38), (3, .int (nI i))]) dX7_doubt_28 rfl (by decide) rfl ?_
      refine wp_iinc_n (b := 1) (lv' := [(0, .ref 63), (1, .long x38), (3, .int (nI (i + 1)))]) dX7_doubt_29 rfl rfl (by decide) rfl ?_
      refine wp_goto (tgt := 4) dX7_doubt_32 (by decide) ?_
      subst ex38
      exact ih (by omega)
  refine wp_lconst (v := 0) dX7_doubt_0 rfl ?_
  refine wp_lstore_n (lv' := [(0, .ref 63), (1, .long 0)]) dX7_doubt_1 rfl (by decide) rfl ?_
  refine wp_iconst (v := nI 0) dX7_doubt_2 rfl ?_
  refine wp_istore_n (lv' := [(0, .ref 63), (1, .long 0), (3, .int (nI 0))]) dX7_doubt_3 rfl (by decide) rfl ?_
  exact hL 0 (by omega)
def sr_comesP (w : Nat) (f : Nat → Int32) (p : Nat → Int64) : Nat → Int64 := fun k => if k / 7 < w ∧ k % 7 < w then p k + (f (k / 7) * f (k % 7)).toInt64 else p k
def sr_comesS (w : Nat) (f : Nat → Int32) (m : Int32) (p : Nat → Int64) : Nat → Int64 := fun k => if k < w then p k + (f k).toInt64 * m.toInt64 else p k
def sr_comesPt (w i j : Nat) (f : Nat → Int32) (p : Nat → Int64) : Nat → Int64 := fun k => if (k / 7 < i ∧ k % 7 < w) ∨ (k / 7 = i ∧ k % 7 < j) then p k + (f (k / 7) * f (k % 7)).toInt64 else p k
set_option maxHeartbeats 4000000 in
set_option maxRecDepth 100000 in
theorem c_X7_comes (g : sr_G) (D : sr_St) (w : Nat) (hw : D.1 63 18 = nI w) (hw7 : w ≤ 7) (m : Int32)  : Con g M_X7_comes [.ref 63, .int m] D (sr_ret (none) (sr_rJ (sr_rJ D 68 (sr_comesP w (D.1 67) (D.2 68))) 69 (sr_comesS w (D.1 67) m (D.2 69)))) := by
  refine Con.of pn_X7_comes (Nat.le_of_ble_eq_true rfl) ?_
  show WP g M_X7_comes 0 [(0, .ref 63), (1, .int m)] [] D _
  have hL : ∀ i, i ≤ w → WP g M_X7_comes 2 [(0, .ref 63), (1, .int m), (2, .int (nI i))] [] (sr_rJ (sr_rJ D 68 (sr_comesPt w i 0 (D.1 67) (D.2 68))) 69 (sr_comesS i (D.1 67) m (D.2 69))) (sr_ret none (sr_rJ (sr_rJ D 68 (sr_comesP w (D.1 67) (D.2 68))) 69 (sr_comesS w (D.1 67) m (D.2 69)))) := by
    refine sr_up (fun i hi ih => ?_)
    have h54 : i < w → WP g M_X7_comes 54 [(0, .ref 63), (1, .int m), (2, .int (nI i))] [] (sr_rJ (sr_rJ D 68 (sr_comesPt w i w (D.1 67) (D.2 68))) 69 (sr_comesS i (D.1 67) m (D.2 69))) (sr_ret none (sr_rJ (sr_rJ D 68 (sr_comesP w (D.1 67) (D.2 68))) 69 (sr_comesS w (D.1 67) m (D.2 69)))) := by
      intro hiw
      refine wp_aload_n dX7_comes_54 rfl rfl ?_
      refine wp_getR (r := 69) dX7_comes_55 fl_X7_31 (by decide) rfl rfl rfl ?_
      refine wp_iload_n dX7_comes_58 rfl rfl ?_
      refine wp_dup2 dX7_comes_59 rfl rfl ?_
      refine wp_lald dX7_comes_60 (by decide) rfl (show _ < 7 by omega) (by first | omega | (split <;> omega)) ?_
      refine wp_aload_n dX7_comes_61 rfl rfl ?_
      refine wp_getR (r := 67) dX7_comes_62 fl_X7_24 (by decide) rfl rfl rfl ?_
      refine wp_iload_n dX7_comes_65 rfl rfl ?_
      refine wp_iald dX7_comes_66 (by decide) rfl (show _ < 7 by omega) (by first | omega | (split <;> omega)) ?_
      refine wp_i2l dX7_comes_67 ?_
      refine wp_iload_n dX7_comes_68 rfl rfl ?_
      refine wp_i2l dX7_comes_69 ?_
      refine wp_lmul dX7_comes_70 ?_
      refine wp_ladd dX7_comes_71 ?_
      refine wp_last dX7_comes_72 (by decide) rfl (show _ < 7 by omega) (by first | omega | (split <;> omega)) ?_
      refine wp_D (fun D42 eD42 => ?_)
      have k43 : D42.1 63 18 = nI w := by rw [eD42, sr_sJ_1]; exact hw
      refine wp_iinc_n (b := 1) (lv' := [(0, .ref 63), (1, .int m), (2, .int (nI (i + 1)))]) dX7_comes_73 rfl rfl (by decide) rfl ?_
      refine wp_goto (tgt := 2) dX7_comes_76 (by decide) ?_
      have h := ih (by omega)
      refine wp_D (fun F eF => ?_)
      have hF : F = (sr_rJ (sr_rJ D 68 (sr_comesPt w (i + 1) 0 (D.1 67) (D.2 68))) 69 (sr_comesS (i + 1) (D.1 67) m (D.2 69))) := by
        rw [eF]
        subst eD42
        simp only [sr_sJ_r, sr_rJ]
        congr 1
        funext o
        by_cases e1 : o = 69
        · subst e1; simp
          funext k
          unfold vp_updL sr_comesS
          by_cases e : k = i
          · subst e; simp
          · rw [if_neg e]; by_cases e3 : k < i
            · rw [if_pos e3, if_pos (by omega)]
            · rw [if_neg e3, if_neg (by omega)]
        · by_cases e2 : o = 68
          · subst e2; simp
            funext k
            unfold sr_comesPt
            by_cases e3 : (k / 7 < i ∧ k % 7 < w) ∨ (k / 7 = i ∧ k % 7 < w)
            · rw [if_pos e3, if_pos (by omega)]
            · rw [if_neg e3, if_neg (by omega)]
          · simp [e1, e2]
      rw [hF]; exact h
    have hI : i < w → ∀ j, j ≤ w → WP g M_X7_comes 12 [(0, .ref 63), (1, .int m), (2, .int (nI i)), (3, .int (nI j))] [] (sr_rJ (sr_rJ D 68 (sr_comesPt w i j (D.1 67) (D.2 68))) 69 (sr_comesS i (D.1 67) m (D.2 69))) (sr_ret none (sr_rJ (sr_rJ D 68 (sr_comesP w (D.1 67) (D.2 68))) 69 (sr_comesS w (D.1 67) m (D.2 69)))) := by
      intro hiw
      refine sr_up (fun j hj ihj => ?_)
      refine wp_iload_n dX7_comes_12 rfl rfl ?_
      refine wp_aload_n dX7_comes_13 rfl rfl ?_
      refine wp_getI_n (n := w) dX7_comes_14 fl_X7_146 (by decide) rfl rfl (hw) ?_
      refine wp_icmp_ge_n (tgt := 54) dX7_comes_17 (by decide) (by first | omega | (split <;> omega)) (by first | omega | (split <;> omega)) (fun c39 => ?_) (fun c39 => ?_)
      · have hjw : j = w := by omega
        subst hjw
        exact wp_pick [0, 1, 2] rfl (h54 (by omega))
      · refine wp_aload_n dX7_comes_20 rfl rfl ?_
        refine wp_getR (r := 68) dX7_comes_21 fl_X7_27 (by decide) rfl rfl rfl ?_
        refine wp_bipush (v := nI 7) dX7_comes_24 rfl ?_
        refine wp_iload_n dX7_comes_26 rfl rfl ?_
        refine wp_imul_n dX7_comes_27 ?_
        refine wp_iload_n dX7_comes_28 rfl rfl ?_
        refine wp_iadd_n dX7_comes_29 ?_
        refine wp_dup2 dX7_comes_30 rfl rfl ?_
        refine wp_lald dX7_comes_31 (by decide) rfl (show _ < 49 by omega) (by first | omega | (split <;> omega)) ?_
        refine wp_aload_n dX7_comes_32 rfl rfl ?_
        refine wp_getR (r := 67) dX7_comes_33 fl_X7_24 (by decide) rfl rfl rfl ?_
        refine wp_iload_n dX7_comes_36 rfl rfl ?_
        refine wp_iald dX7_comes_37 (by decide) rfl (show _ < 7 by omega) (by first | omega | (split <;> omega)) ?_
        refine wp_aload_n dX7_comes_38 rfl rfl ?_
        refine wp_getR (r := 67) dX7_comes_39 fl_X7_24 (by decide) rfl rfl rfl ?_
        refine wp_iload_n dX7_comes_42 rfl rfl ?_
        refine wp_iald dX7_comes_43 (by decide) rfl (show _ < 7 by omega) (by first | omega | (split <;> omega)) ?_
        refine wp_imul dX7_comes_44 ?_
        refine wp_i2l dX7_comes_45 ?_
        refine wp_ladd dX7_comes_46 ?_
        refine wp_last dX7_comes_47 (by decide) rfl (show _ < 49 by omega) (by first | omega | (split <;> omega)) ?_
        refine wp_D (fun D40 eD40 => ?_)
        have k41 : D40.1 63 18 = nI w := by rw [eD40, sr_sJ_1]; exact hw
        refine wp_iinc_n (b := 1) (lv' := [(0, .ref 63), (1, .int m), (2, .int (nI i)), (3, .int (nI (j + 1)))]) dX7_comes_48 rfl rfl (by decide) rfl ?_
        refine wp_goto (tgt := 12) dX7_comes_51 (by decide) ?_
        have h := ihj (by omega)
        refine wp_D (fun F eF => ?_)
        have hF : F = (sr_rJ (sr_rJ D 68 (sr_comesPt w i (j + 1) (D.1 67) (D.2 68))) 69 (sr_comesS i (D.1 67) m (D.2 69))) := by
          rw [eF]
          subst eD40
          simp only [sr_sJ_r, sr_rJ]
          congr 1
          funext o
          by_cases e1 : o = 69
          · subst e1; simp
          · by_cases e2 : o = 68
            · subst e2; simp
              funext k
              unfold vp_updL sr_comesPt
              by_cases e : k = 7 * i + j
              · subst e; simp [show (7 * i + j) / 7 = i by omega, show (7 * i + j) % 7 = j by omega]
              · rw [if_neg e]; by_cases e3 : (k / 7 < i ∧ k % 7 < w) ∨ (k / 7 = i ∧ k % 7 < j)
                · rw [if_pos e3, if_pos (by omega)]
                · rw [if_neg e3, if_neg (by omega)]
            · simp [e1, e2]
        rw [hF]; exact h
    refine wp_iload_n dX7_comes_2 rfl rfl ?_
    refine wp_aload_n dX7_comes_3 rfl rfl ?_
    refine wp_getI_n (n := w) dX7_comes_4 fl_X7_146 (by decide) rfl rfl (hw) ?_
    refine wp_icmp_ge_n (tgt := 79) dX7_comes_7 (by decide) (by first | omega | (split <;> omega)) (by first | omega | (split <;> omega)) (fun c44 => ?_) (fun c44 => ?_)
    · have hiw : i = w := by omega
      subst hiw
      refine wp_vret dX7_comes_79 rfl ⟨rfl, ?_⟩
      have hp : sr_comesPt i i 0 (D.1 67) (D.2 68) = sr_comesP i (D.1 67) (D.2 68) := by
        funext k; unfold sr_comesPt sr_comesP
        by_cases e3 : k / 7 < i ∧ k % 7 < i
        · rw [if_pos e3, if_pos (by omega)]
        · rw [if_neg e3, if_neg (by omega)]
      rw [hp]
    · refine wp_iconst (v := nI 0) dX7_comes_10 rfl ?_
      refine wp_istore_n (lv' := [(0, .ref 63), (1, .int m), (2, .int (nI i)), (3, .int (nI 0))]) dX7_comes_11 rfl (by decide) rfl ?_
      exact hI (by omega) 0 (by omega)
  refine wp_iconst (v := nI 0) dX7_comes_0 rfl ?_
  refine wp_istore_n (lv' := [(0, .ref 63), (1, .int m), (2, .int (nI 0))]) dX7_comes_1 rfl (by decide) rfl ?_
  have h := hL 0 (by omega)
  have hp : sr_comesPt w 0 0 (D.1 67) (D.2 68) = D.2 68 := by funext k; unfold sr_comesPt; rw [if_neg (by omega)]
  have hs : sr_comesS 0 (D.1 67) m (D.2 69) = D.2 69 := by funext k; unfold sr_comesS; rw [if_neg (by omega)]
  rw [hp, hs, sr_rJ_self, sr_rJ_self] at h
  exact h
