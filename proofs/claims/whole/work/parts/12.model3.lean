/-- the model's call begins: thrown is 0 -/
abbrev sr_th (D : sr_St) : sr_St := sr_sI D 63 0 (nI 0)
theorem sr_th_1 (D : sr_St) (o k : Nat) (h : ¬ (o = 63 ∧ k = 0)) : (sr_th D).1 o k = D.1 o k := by rw [sr_sI_1, if_neg h]
set_option maxHeartbeats 4000000 in
set_option maxRecDepth 100000 in
theorem c_X7_crew (g : sr_G) (D : sr_St) (v : Int32)  : Con g M_X7_crew [.ref 63, .int v] D (sr_ret (some (.int (sr_b (sr_isIn v (nI 0) (nI 6))))) (if sr_isIn v (nI 0) (nI 6) = true then sr_rI (sr_th D) 64 (upd (upd (D.1 64) 0 v) 2 (nI 0)) else sr_th D)) := by
  refine Con.of pn_X7_crew (Nat.le_of_ble_eq_true rfl) ?_
  show WP g M_X7_crew 0 [(0, .ref 63), (1, .int v)] [] D _
  refine wp_aload_n dX7_crew_0 rfl rfl ?_
  refine wp_iconst (v := nI 0) dX7_crew_1 rfl ?_
  refine wp_putI dX7_crew_2 fl_X7_43 (by decide) rfl rfl ?_
  refine wp_D (fun D1 eD1 => ?_)
  refine wp_iload_n dX7_crew_5 rfl rfl ?_
  refine wp_iconst (v := nI 0) dX7_crew_6 rfl ?_
  refine wp_bipush (v := nI 6) dX7_crew_7 rfl ?_
  refine wp_callS (M2 := M_X7_isIn) (n := 3) (As := [.int v, .int (nI 0), .int (nI 6)]) (st := []) dX7_crew_9 (c_X7_isIn g D1 v (nI 0) (nI 6)) ca_X7_50 ⟨nm_X7_isIn, by decide, by decide⟩ rfl rfl (Nat.le_of_ble_eq_true rfl) (fun r2 E3 q4 => ?_)
  obtain ⟨rfl, rfl⟩ := q4
  show WP g _ _ _ (.int (sr_b (sr_isIn v (nI 0) (nI 6))) :: _) _ _
  refine wp_if_ne_b (tgt := 17) dX7_crew_12 (by decide) (fun c5 => ?_) (fun c5 => ?_)
  · refine wp_aload_n dX7_crew_17 rfl rfl ?_
    refine wp_getR (r := 64) dX7_crew_18 fl_X7_7 (by decide) rfl rfl rfl ?_
    refine wp_iconst (v := nI 0) dX7_crew_21 rfl ?_
    refine wp_iload_n dX7_crew_22 rfl rfl ?_
    refine wp_iast dX7_crew_23 (by decide) rfl (by decide) (by omega) ?_
    refine wp_D (fun D6 eD6 => ?_)
    refine wp_aload_n dX7_crew_24 rfl rfl ?_
    refine wp_getR (r := 64) dX7_crew_25 fl_X7_7 (by decide) rfl rfl rfl ?_
    refine wp_iconst (v := nI 2) dX7_crew_28 rfl ?_
    refine wp_iconst (v := nI 0) dX7_crew_29 rfl ?_
    refine wp_iast dX7_crew_30 (by decide) rfl (by decide) (by omega) ?_
    refine wp_D (fun D7 eD7 => ?_)
    refine wp_iconst (v := nI 1) dX7_crew_31 rfl ?_
    refine wp_zret dX7_crew_32 rfl (Or.inr rfl) ?_
    subst eD1 eD6 eD7
    have hb : sr_isIn v (nI 0) (nI 6) = true := by simp_all [sr_sI_1]
    refine ⟨sr_bt hb, ?_⟩
    rw [if_pos hb]
    try simp [sr_th, sr_sI_r, sr_rI_rI, sr_rI_1]
  · refine wp_iconst (v := nI 0) dX7_crew_15 rfl ?_
    refine wp_zret dX7_crew_16 rfl (Or.inl rfl) ?_
    subst eD1
    have hb : sr_isIn v (nI 0) (nI 6) = false := by simp_all [sr_sI_1]
    refine ⟨sr_bf hb, ?_⟩
    rw [if_neg (by rw [hb]; decide)]
set_option maxHeartbeats 4000000 in
set_option maxRecDepth 100000 in
theorem c_X7_limit (g : sr_G) (D : sr_St) (v : Int32)  : Con g M_X7_limit [.ref 63, .int v] D (sr_ret (some (.int (sr_b (sr_isIn v (nI 1) (nI 99) && !decide (v = D.1 64 1))))) (if (sr_isIn v (nI 1) (nI 99) && !decide (v = D.1 64 1)) = true then sr_rI (sr_th D) 64 (upd (D.1 64) 1 v) else sr_th D)) := by
  refine Con.of pn_X7_limit (Nat.le_of_ble_eq_true rfl) ?_
  show WP g M_X7_limit 0 [(0, .ref 63), (1, .int v)] [] D _
  refine wp_aload_n dX7_limit_0 rfl rfl ?_
  refine wp_iconst (v := nI 0) dX7_limit_1 rfl ?_
  refine wp_putI dX7_limit_2 fl_X7_43 (by decide) rfl rfl ?_
  refine wp_D (fun D8 eD8 => ?_)
  refine wp_iload_n dX7_limit_5 rfl rfl ?_
  refine wp_iconst (v := nI 1) dX7_limit_6 rfl ?_
  refine wp_bipush (v := nI 99) dX7_limit_7 rfl ?_
  refine wp_callS (M2 := M_X7_isIn) (n := 3) (As := [.int v, .int (nI 1), .int (nI 99)]) (st := []) dX7_limit_9 (c_X7_isIn g D8 v (nI 1) (nI 99)) ca_X7_50 ⟨nm_X7_isIn, by decide, by decide⟩ rfl rfl (Nat.le_of_ble_eq_true rfl) (fun r9 E10 q11 => ?_)
  obtain ⟨rfl, rfl⟩ := q11
  show WP g _ _ _ (.int (sr_b (sr_isIn v (nI 1) (nI 99))) :: _) _ _
  refine wp_if_eq_b (tgt := 25) dX7_limit_12 (by decide) (fun c12 => ?_) (fun c12 => ?_)
  · refine wp_iconst (v := nI 0) dX7_limit_25 rfl ?_
    refine wp_zret dX7_limit_26 rfl (Or.inl rfl) ?_
    subst eD8
    have hb : (sr_isIn v (nI 1) (nI 99) && !decide (v = D.1 64 1)) = false := by simp_all [sr_sI_1]
    refine ⟨sr_bf hb, ?_⟩
    rw [if_neg (by rw [hb]; decide)]
  · refine wp_iload_n dX7_limit_15 rfl rfl ?_
    refine wp_aload_n dX7_limit_16 rfl rfl ?_
    refine wp_getR (r := 64) dX7_limit_17 fl_X7_7 (by decide) rfl rfl rfl ?_
    refine wp_iconst (v := nI 1) dX7_limit_20 rfl ?_
    refine wp_iald dX7_limit_21 (by decide) rfl (by decide) (by omega) ?_
    refine wp_icmp_ne (tgt := 27) dX7_limit_22 (by decide) (fun c13 => ?_) (fun c13 => ?_)
    · refine wp_aload_n dX7_limit_27 rfl rfl ?_
      refine wp_getR (r := 64) dX7_limit_28 fl_X7_7 (by decide) rfl rfl rfl ?_
      refine wp_iconst (v := nI 1) dX7_limit_31 rfl ?_
      refine wp_iload_n dX7_limit_32 rfl rfl ?_
      refine wp_iast dX7_limit_33 (by decide) rfl (by decide) (by omega) ?_
      refine wp_D (fun D14 eD14 => ?_)
      refine wp_iconst (v := nI 1) dX7_limit_34 rfl ?_
      refine wp_zret dX7_limit_35 rfl (Or.inr rfl) ?_
      subst eD8 eD14
      have hb : (sr_isIn v (nI 1) (nI 99) && !decide (v = D.1 64 1)) = true := by simp_all [sr_sI_1]
      refine ⟨sr_bt hb, ?_⟩
      rw [if_pos hb]
      try simp [sr_th, sr_sI_r, sr_rI_rI, sr_rI_1]
    · refine wp_iconst (v := nI 0) dX7_limit_25 rfl ?_
      refine wp_zret dX7_limit_26 rfl (Or.inl rfl) ?_
      subst eD8
      have hb : (sr_isIn v (nI 1) (nI 99) && !decide (v = D.1 64 1)) = false := by simp_all [sr_sI_1]
      refine ⟨sr_bf hb, ?_⟩
      rw [if_neg (by rw [hb]; decide)]
set_option maxHeartbeats 4000000 in
set_option maxRecDepth 100000 in
theorem c_X7_end (g : sr_G) (D : sr_St) (v : Int32)  : Con g M_X7_end [.ref 63, .int v] D (sr_ret (some (.int (sr_b (sr_isIn v (nI 0) (D.1 63 4))))) (if sr_isIn v (nI 0) (D.1 63 4) = true then sr_sI (sr_th D) 63 4 v else sr_th D)) := by
  refine Con.of pn_X7_end (Nat.le_of_ble_eq_true rfl) ?_
  show WP g M_X7_end 0 [(0, .ref 63), (1, .int v)] [] D _
  refine wp_aload_n dX7_end_0 rfl rfl ?_
  refine wp_iconst (v := nI 0) dX7_end_1 rfl ?_
  refine wp_putI dX7_end_2 fl_X7_43 (by decide) rfl rfl ?_
  refine wp_D (fun D15 eD15 => ?_)
  refine wp_iload_n dX7_end_5 rfl rfl ?_
  refine wp_iconst (v := nI 0) dX7_end_6 rfl ?_
  refine wp_aload_n dX7_end_7 rfl rfl ?_
  refine wp_getI dX7_end_8 fl_X7_77 (by decide) rfl rfl ?_
  refine wp_callS (M2 := M_X7_isIn) (n := 3) (As := [.int v, .int (nI 0), .int (D15.1 63 4)]) (st := []) dX7_end_11 (c_X7_isIn g D15 v (nI 0) (D15.1 63 4)) ca_X7_50 ⟨nm_X7_isIn, by decide, by decide⟩ rfl rfl (Nat.le_of_ble_eq_true rfl) (fun r16 E17 q18 => ?_)
  obtain ⟨rfl, rfl⟩ := q18
  show WP g _ _ _ (.int (sr_b (sr_isIn v (nI 0) (D15.1 63 4))) :: _) _ _
  refine wp_if_ne_b (tgt := 19) dX7_end_14 (by decide) (fun c19 => ?_) (fun c19 => ?_)
  · refine wp_aload_n dX7_end_19 rfl rfl ?_
    refine wp_iload_n dX7_end_20 rfl rfl ?_
    refine wp_putI dX7_end_21 fl_X7_77 (by decide) rfl rfl ?_
    refine wp_D (fun D20 eD20 => ?_)
    refine wp_iconst (v := nI 1) dX7_end_24 rfl ?_
    refine wp_zret dX7_end_25 rfl (Or.inr rfl) ?_
    subst eD15 eD20
    have hb : sr_isIn v (nI 0) (D.1 63 4) = true := by simp_all [sr_sI_1]
    refine ⟨sr_bt hb, ?_⟩
    rw [if_pos hb]
    try simp [sr_th, sr_sI_r, sr_rI_rI, sr_rI_1]
  · refine wp_iconst (v := nI 0) dX7_end_17 rfl ?_
    refine wp_zret dX7_end_18 rfl (Or.inl rfl) ?_
    subst eD15
    have hb : sr_isIn v (nI 0) (D.1 63 4) = false := by simp_all [sr_sI_1]
    refine ⟨sr_bf hb, ?_⟩
    rw [if_neg (by rw [hb]; decide)]
set_option maxHeartbeats 4000000 in
set_option maxRecDepth 100000 in
theorem c_X7_fault (g : sr_G) (D : sr_St) (v : Int32)  : Con g M_X7_fault [.ref 63, .int v] D (sr_ret (some (.int (if v = 0 then D.1 63 5 else if v = nI 1 then D.1 63 6 else -1))) (sr_th D)) := by
  refine Con.of pn_X7_fault (Nat.le_of_ble_eq_true rfl) ?_
  show WP g M_X7_fault 0 [(0, .ref 63), (1, .int v)] [] D _
  refine wp_aload_n dX7_fault_0 rfl rfl ?_
  refine wp_iconst (v := nI 0) dX7_fault_1 rfl ?_
  refine wp_putI dX7_fault_2 fl_X7_43 (by decide) rfl rfl ?_
  refine wp_D (fun D21 eD21 => ?_)
  refine wp_iload_n dX7_fault_5 rfl rfl ?_
  refine wp_if_ne (tgt := 16) dX7_fault_6 (by decide) (fun c22 => ?_) (fun c22 => ?_)
  · refine wp_iload_n dX7_fault_16 rfl rfl ?_
    refine wp_iconst (v := nI 1) dX7_fault_17 rfl ?_
    refine wp_icmp_ne (tgt := 28) dX7_fault_18 (by decide) (fun c23 => ?_) (fun c23 => ?_)
    · refine wp_iconst (v := -1) dX7_fault_28 rfl ?_
      refine wp_iret dX7_fault_29 rfl ?_
      subst eD21
      refine ⟨?_, rfl⟩
      simp_all [sr_sI_1]
    · refine wp_aload_n dX7_fault_21 rfl rfl ?_
      refine wp_getI dX7_fault_22 fl_X7_20 (by decide) rfl rfl ?_
      refine wp_goto (tgt := 29) dX7_fault_25 (by decide) ?_
      refine wp_iret dX7_fault_29 rfl ?_
      subst eD21
      refine ⟨?_, rfl⟩
      simp_all [sr_sI_1]
  · refine wp_aload_n dX7_fault_9 rfl rfl ?_
    refine wp_getI dX7_fault_10 fl_X7_89 (by decide) rfl rfl ?_
    refine wp_goto (tgt := 29) dX7_fault_13 (by decide) ?_
    refine wp_iret dX7_fault_29 rfl ?_
    subst eD21
    refine ⟨?_, rfl⟩
    simp_all [sr_sI_1]
/-- race q of r goes -/
def sr_goes (f : Nat → Int32) (q r : Nat) : Nat → Int32 := fun k => if k = 2 then nI (r - 1) else if 3 + 4 * q ≤ k ∧ k < 3 + 4 * (r - 1) then f (k + 4) else f k
def sr_goesTo (f : Nat → Int32) (q i : Nat) : Nat → Int32 := fun k => if 3 + 4 * q ≤ k ∧ k < i then f (k + 4) else f k
set_option maxHeartbeats 4000000 in
set_option maxRecDepth 100000 in
theorem c_X7_goes (g : sr_G) (D : sr_St) (q r : Nat) (hr : D.1 64 2 = nI r) (hq : q < r) (hr12 : r ≤ 12)  : Con g M_X7_goes [.ref 63, .int (nI q)] D (sr_ret (none) (sr_rI D 64 (sr_goes (D.1 64) q r))) := by
  refine Con.of pn_X7_goes (Nat.le_of_ble_eq_true rfl) ?_
  show WP g M_X7_goes 0 [(0, .ref 63), (1, .int (nI q))] [] D _
  have hL : ∀ i, i ≤ 3 + 4 * (r - 1) → 3 + 4 * q ≤ i → WP g M_X7_goes 6 [(0, .ref 63), (1, .int (nI q)), (2, .int (nI i))] [] (sr_rI D 64 (sr_goesTo (D.1 64) q i)) (sr_ret none (sr_rI D 64 (sr_goes (D.1 64) q r))) := by
    refine sr_up (fun i hi ih hqi => ?_)
    refine wp_D (fun E eE => ?_)
    have kr : E.1 64 2 = nI r := by rw [eE, sr_rI_1, if_pos rfl]; simp only [sr_goesTo]; rw [if_neg (by omega)]; exact hr
    refine wp_iload_n dX7_goes_6 rfl rfl ?_
    refine wp_iconst (v := nI 3) dX7_goes_7 rfl ?_
    refine wp_iconst (v := nI 4) dX7_goes_8 rfl ?_
    refine wp_aload_n dX7_goes_9 rfl rfl ?_
    refine wp_callV (M2 := M_X7_races) (n := 0) (As := []) (st := [.int (nI 4), .int (nI 3), .int (nI i)]) dX7_goes_10 (c_X7_races_n g E r kr) ca_X7_58 ⟨nm_X7_races, by decide, by decide⟩ rfl (by decide) rfl rfl rfl (Nat.le_of_ble_eq_true rfl) (fun r24 E25 q26 => ?_)
    obtain ⟨rfl, rfl⟩ := q26
    show WP g _ _ _ (.int (nI r) :: _) _ _
    refine wp_iconst (v := nI 1) dX7_goes_13 rfl ?_
    refine wp_isub_n dX7_goes_14 (by omega) ?_
    refine wp_imul_n dX7_goes_15 ?_
    refine wp_iadd_n dX7_goes_16 ?_
    refine wp_icmp_ge_n (tgt := 40) dX7_goes_17 (by decide) (by omega) (by omega) (fun c27 => ?_) (fun c27 => ?_)
    · refine wp_aload_n dX7_goes_40 rfl rfl ?_
      refine wp_getR (r := 64) dX7_goes_41 fl_X7_7 (by decide) rfl rfl rfl ?_
      refine wp_iconst (v := nI 2) dX7_goes_44 rfl ?_
      refine wp_dup2 dX7_goes_45 rfl rfl ?_
      refine wp_iald dX7_goes_46 (by decide) rfl (by decide) (by omega) ?_
      rw [kr]
      refine wp_iconst (v := nI 1) dX7_goes_47 rfl ?_
      refine wp_isub_n dX7_goes_48 (by omega) ?_
      refine wp_iast dX7_goes_49 (by decide) rfl (by decide) (by omega) ?_
      refine wp_D (fun D28 eD28 => ?_)
      have k30 : D28.1 64 2 = nI (r - 1) := by rw [eD28, sr_sI_1, if_pos ⟨rfl, rfl⟩]
      refine wp_vret dX7_goes_50 rfl ⟨rfl, ?_⟩
      subst eD28
      subst eE
      simp only [sr_sI_r, sr_rI_rI, sr_rI_1, if_true]
      congr 1; funext k; simp only [upd, sr_goesTo, sr_goes]
      by_cases e : k = 2
      · subst e; rw [if_pos rfl, if_pos rfl]
      · rw [if_neg e, if_neg e, show i = 3 + 4 * (r - 1) by omega]
    · refine wp_aload_n dX7_goes_20 rfl rfl ?_
      refine wp_getR (r := 64) dX7_goes_21 fl_X7_7 (by decide) rfl rfl rfl ?_
      refine wp_iload_n dX7_goes_24 rfl rfl ?_
      refine wp_aload_n dX7_goes_25 rfl rfl ?_
      refine wp_getR (r := 64) dX7_goes_26 fl_X7_7 (by decide) rfl rfl rfl ?_
      refine wp_iload_n dX7_goes_29 rfl rfl ?_
      refine wp_iconst (v := nI 4) dX7_goes_30 rfl ?_
      refine wp_iadd_n dX7_goes_31 ?_
      refine wp_iald dX7_goes_32 (by decide) rfl (show _ < 60 by omega) (by omega) ?_
      refine wp_iast dX7_goes_33 (by decide) rfl (show _ < 60 by omega) (by omega) ?_
      refine wp_D (fun D31 eD31 => ?_)
      have k32 : D31.1 64 2 = nI r := by rw [eD31, sr_sI_1, if_neg (by omega)]; exact kr
      refine wp_iinc_n (b := 1) (lv' := [(0, .ref 63), (1, .int (nI q)), (2, .int (nI (i + 1)))]) dX7_goes_34 rfl rfl (by decide) rfl ?_
      refine wp_goto (tgt := 6) dX7_goes_37 (by decide) ?_
      refine wp_D (fun F eF => ?_)
      have h := ih (by omega) (by omega)
      have hF : F = sr_rI D 64 (sr_goesTo (D.1 64) q (i + 1)) := by
        rw [eF]; subst eD31; subst eE
        simp only [sr_sI_r, sr_rI_rI, sr_rI_1, if_true]
        congr 1; funext k; simp only [upd, sr_goesTo]
        by_cases e : k = i
        · subst e; rw [if_pos rfl, if_neg (by omega), if_pos (by omega)]
        · rw [if_neg e]; by_cases e2 : 3 + 4 * q ≤ k ∧ k < i
          · rw [if_pos e2, if_pos (by omega)]
          · rw [if_neg e2, if_neg (by omega)]
      rw [hF]; exact h
  refine wp_iconst (v := nI 3) dX7_goes_0 rfl ?_
  refine wp_iconst (v := nI 4) dX7_goes_1 rfl ?_
  refine wp_iload_n dX7_goes_2 rfl rfl ?_
  refine wp_imul_n dX7_goes_3 ?_
  refine wp_iadd_n dX7_goes_4 ?_
  refine wp_istore_n (lv' := [(0, .ref 63), (1, .int (nI q)), (2, .int (nI (3 + (4 * q))))]) dX7_goes_5 rfl (by decide) rfl ?_
  have h := hL (3 + 4 * q) (by omega) (Nat.le_refl _)
  have h0 : sr_goesTo (D.1 64) q (3 + 4 * q) = D.1 64 := by funext k; simp only [sr_goesTo]; rw [if_neg (by omega)]
  rw [h0, sr_rI_self] at h
  exact h
