def sr_raceOk (n : Nat) (a b m t : Int32) : Bool := sr_crew n a b && (sr_isIn m (-999) (nI 999) && sr_isIn t (-1) (nI 1))
set_option maxHeartbeats 4000000 in
set_option maxRecDepth 100000 in
theorem c_X7_race (g : sr_G) (D : sr_St) (n r : Nat) (hn : D.1 64 0 = nI n) (hn6 : n ≤ 6) (hr : D.1 64 2 = nI r) (hr12 : r ≤ 12) (a b m t : Int32)  : Con g M_X7_race [.ref 63, .int a, .int b, .int m, .int t] D (sr_ret (some (.int (if sr_raceOk n a b m t = true then if r = 12 then -2 else nI r else -1))) (if sr_raceOk n a b m t = true then if r = 12 then sr_th D else sr_rI (sr_th D) 64 (sr_more (D.1 64) r a b m t) else sr_th D)) := by
  refine Con.of pn_X7_race (Nat.le_of_ble_eq_true rfl) ?_
  show WP g M_X7_race 0 [(0, .ref 63), (1, .int a), (2, .int b), (3, .int m), (4, .int t)] [] D _
  refine wp_aload_n dX7_race_0 rfl rfl ?_
  refine wp_iconst (v := nI 0) dX7_race_1 rfl ?_
  refine wp_putI dX7_race_2 fl_X7_43 (by decide) rfl rfl ?_
  refine wp_D (fun D33 eD33 => ?_)
  have k34 : D33.1 64 0 = nI n := by rw [eD33, sr_sI_1, if_neg (by omega)]; exact hn
  have k35 : D33.1 64 2 = nI r := by rw [eD33, sr_sI_1, if_neg (by omega)]; exact hr
  refine wp_aload_n dX7_race_5 rfl rfl ?_
  refine wp_iload_n dX7_race_6 rfl rfl ?_
  refine wp_iload_n dX7_race_7 rfl rfl ?_
  refine wp_callV (M2 := M_X7_areCrews) (n := 2) (As := [.int a, .int b]) (st := []) dX7_race_8 (c_X7_areCrews g D33 n k34 hn6 a b) ca_X7_61 ⟨nm_X7_areCrews, by decide, by decide⟩ rfl (by decide) rfl rfl rfl (Nat.le_of_ble_eq_true rfl) (fun r36 E37 q38 => ?_)
  obtain ⟨rfl, rfl⟩ := q38
  show WP g _ _ _ (.int (sr_b (sr_crew n a b)) :: _) _ _
  refine wp_if_eq_b (tgt := 37) dX7_race_11 (by decide) (fun c39 => ?_) (fun c39 => ?_)
  · refine wp_iconst (v := -1) dX7_race_37 rfl ?_
    refine wp_iret dX7_race_38 rfl ?_
    subst eD33
    have hb : sr_raceOk n a b m t = false := by simp_all [sr_raceOk]
    refine ⟨?_, ?_⟩
    · rw [if_neg (by rw [hb]; decide)]
    · rw [if_neg (by rw [hb]; decide)]
  · refine wp_iload_n dX7_race_14 rfl rfl ?_
    refine wp_sipush (v := -999) dX7_race_15 rfl ?_
    refine wp_sipush (v := nI 999) dX7_race_18 rfl ?_
    refine wp_callS (M2 := M_X7_isIn) (n := 3) (As := [.int m, .int ((-999)), .int (nI 999)]) (st := []) dX7_race_21 (c_X7_isIn g D33 m ((-999)) (nI 999)) ca_X7_50 ⟨nm_X7_isIn, by decide, by decide⟩ rfl rfl (Nat.le_of_ble_eq_true rfl) (fun r40 E41 q42 => ?_)
    obtain ⟨rfl, rfl⟩ := q42
    show WP g _ _ _ (.int (sr_b (sr_isIn m ((-999)) (nI 999))) :: _) _ _
    refine wp_if_eq_b (tgt := 37) dX7_race_24 (by decide) (fun c43 => ?_) (fun c43 => ?_)
    · refine wp_iconst (v := -1) dX7_race_37 rfl ?_
      refine wp_iret dX7_race_38 rfl ?_
      subst eD33
      have hb : sr_raceOk n a b m t = false := by simp_all [sr_raceOk]
      refine ⟨?_, ?_⟩
      · rw [if_neg (by rw [hb]; decide)]
      · rw [if_neg (by rw [hb]; decide)]
    · refine wp_iload dX7_race_27 rfl ?_
      refine wp_iconst (v := -1) dX7_race_29 rfl ?_
      refine wp_iconst (v := nI 1) dX7_race_30 rfl ?_
      refine wp_callS (M2 := M_X7_isIn) (n := 3) (As := [.int t, .int ((-1)), .int (nI 1)]) (st := []) dX7_race_31 (c_X7_isIn g D33 t ((-1)) (nI 1)) ca_X7_50 ⟨nm_X7_isIn, by decide, by decide⟩ rfl rfl (Nat.le_of_ble_eq_true rfl) (fun r44 E45 q46 => ?_)
      obtain ⟨rfl, rfl⟩ := q46
      show WP g _ _ _ (.int (sr_b (sr_isIn t ((-1)) (nI 1))) :: _) _ _
      refine wp_if_ne_b (tgt := 39) dX7_race_34 (by decide) (fun c47 => ?_) (fun c47 => ?_)
      · refine wp_aload_n dX7_race_39 rfl rfl ?_
        refine wp_callV (M2 := M_X7_races) (n := 0) (As := []) (st := []) dX7_race_40 (c_X7_races_n g D33 r k35) ca_X7_58 ⟨nm_X7_races, by decide, by decide⟩ rfl (by decide) rfl rfl rfl (Nat.le_of_ble_eq_true rfl) (fun r48 E49 q50 => ?_)
        obtain ⟨rfl, rfl⟩ := q50
        show WP g _ _ _ (.int (nI r) :: _) _ _
        refine wp_bipush (v := nI 12) dX7_race_43 rfl ?_
        refine wp_icmp_ne_n (tgt := 51) dX7_race_45 (by decide) (by omega) (by omega) (fun c51 => ?_) (fun c51 => ?_)
        · refine wp_aload_n dX7_race_51 rfl rfl ?_
          refine wp_iload_n dX7_race_52 rfl rfl ?_
          refine wp_iload_n dX7_race_53 rfl rfl ?_
          refine wp_iload_n dX7_race_54 rfl rfl ?_
          refine wp_iload dX7_race_55 rfl ?_
          refine wp_callV (M2 := M_X7_more) (n := 4) (As := [.int a, .int b, .int m, .int t]) (st := []) dX7_race_57 (c_X7_more g D33 r k35 (by omega) a b m t) ca_X7_65 ⟨nm_X7_more, by decide, by decide⟩ rfl (by decide) rfl rfl rfl (Nat.le_of_ble_eq_true rfl) (fun r52 E53 q54 => ?_)
          obtain ⟨rfl, eE53⟩ := q54
          have eE53 := eE53.symm
          show WP g _ _ _ _ _ _
          have k55 : E53.1 64 2 = nI (r + 1) := by rw [eE53, sr_rI_1, if_pos rfl]; simp [sr_more]
          refine wp_aload_n dX7_race_60 rfl rfl ?_
          refine wp_callV (M2 := M_X7_races) (n := 0) (As := []) (st := []) dX7_race_61 (c_X7_races_n g E53 (r + 1) k55) ca_X7_58 ⟨nm_X7_races, by decide, by decide⟩ rfl (by decide) rfl rfl rfl (Nat.le_of_ble_eq_true rfl) (fun r56 E57 q58 => ?_)
          obtain ⟨rfl, rfl⟩ := q58
          show WP g _ _ _ (.int (nI (r + 1)) :: _) _ _
          refine wp_iconst (v := nI 1) dX7_race_64 rfl ?_
          refine wp_isub_n dX7_race_65 (by omega) ?_
          refine wp_iret dX7_race_66 rfl ?_
          subst eD33 eE53
          have hb : sr_raceOk n a b m t = true := by simp_all [sr_raceOk]
          refine ⟨?_, ?_⟩
          · rw [if_pos hb, if_neg (by assumption)]; rfl
          · rw [if_pos hb, if_neg (by assumption)]; simp [sr_th, sr_sI_r, sr_rI_1]
        · refine wp_bipush (v := -2) dX7_race_48 rfl ?_
          refine wp_iret dX7_race_50 rfl ?_
          subst eD33
          have hb : sr_raceOk n a b m t = true := by simp_all [sr_raceOk]
          refine ⟨?_, ?_⟩
          · rw [if_pos hb, if_pos (by assumption)]
          · rw [if_pos hb, if_pos (by assumption)]
      · refine wp_iconst (v := -1) dX7_race_37 rfl ?_
        refine wp_iret dX7_race_38 rfl ?_
        subst eD33
        have hb : sr_raceOk n a b m t = false := by simp_all [sr_raceOk]
        refine ⟨?_, ?_⟩
        · rw [if_neg (by rw [hb]; decide)]
        · rw [if_neg (by rw [hb]; decide)]
theorem sr_in_n {v : Int32} {n : Nat} (hn : n ≤ 1000) : (sr_isIn v (nI 0) (nI n - nI 1) = true) ↔ ∃ x, x < n ∧ v = nI x := by
  unfold sr_isIn
  simp only [Bool.and_eq_true, decide_eq_true_eq, Int32.le_iff_toInt_le]
  have e : (nI n - nI 1).toInt = (n : Int) - 1 := pk_sub_toInt (by omega) (by decide)
  have e0 : (nI 0).toInt = 0 := by decide
  rw [e, e0]
  constructor
  · intro h
    obtain ⟨x, hx, rfl⟩ := nI_of (x := v) (by rw [Int32.lt_iff_toInt_lt]; show ¬ _ < (0 : Int); omega)
    rw [nI_toInt hx] at h
    exact ⟨x, by omega, rfl⟩
  · rintro ⟨x, hx, rfl⟩
    rw [nI_toInt (by omega)]
    omega
set_option maxHeartbeats 4000000 in
set_option maxRecDepth 100000 in
theorem c_X7_strike (g : sr_G) (D : sr_St) (r : Nat) (hr : D.1 64 2 = nI r) (hr12 : r ≤ 12) (v : Int32)  : Con g M_X7_strike [.ref 63, .int v] D (fun a D' => (∀ q, q < r → v = nI q → a = some (.int (nI (r - 1))) ∧ D' = sr_rI (sr_th D) 64 (sr_goes (D.1 64) q r)) ∧ ((¬ ∃ q, q < r ∧ v = nI q) → a = some (.int (-1)) ∧ D' = sr_th D)) := by
  refine Con.of pn_X7_strike (Nat.le_of_ble_eq_true rfl) ?_
  show WP g M_X7_strike 0 [(0, .ref 63), (1, .int v)] [] D _
  rcases Decidable.em (sr_isIn v (nI 0) (nI r - nI 1) = true) with hv | hv
  · obtain ⟨x, hx, rfl⟩ := (sr_in_n (by omega)).mp hv
    refine wp_aload_n dX7_strike_0 rfl rfl ?_
    refine wp_iconst (v := nI 0) dX7_strike_1 rfl ?_
    refine wp_putI dX7_strike_2 fl_X7_43 (by decide) rfl rfl ?_
    refine wp_D (fun D59 eD59 => ?_)
    have k60 : D59.1 64 2 = nI r := by rw [eD59, sr_sI_1, if_neg (by omega)]; exact hr
    refine wp_iload_n dX7_strike_5 rfl rfl ?_
    refine wp_iconst (v := nI 0) dX7_strike_6 rfl ?_
    refine wp_aload_n dX7_strike_7 rfl rfl ?_
    refine wp_callV (M2 := M_X7_races) (n := 0) (As := []) (st := [.int (nI 0), .int (nI x)]) dX7_strike_8 (c_X7_races_n g D59 r k60) ca_X7_58 ⟨nm_X7_races, by decide, by decide⟩ rfl (by decide) rfl rfl rfl (Nat.le_of_ble_eq_true rfl) (fun r61 E62 q63 => ?_)
    obtain ⟨rfl, rfl⟩ := q63
    show WP g _ _ _ (.int (nI r) :: _) _ _
    refine wp_iconst (v := nI 1) dX7_strike_11 rfl ?_
    refine wp_isub dX7_strike_12 ?_
    refine wp_callS (M2 := M_X7_isIn) (n := 3) (As := [.int (nI x), .int (nI 0), .int ((nI r) - (nI 1))]) (st := []) dX7_strike_13 (c_X7_isIn g D59 (nI x) (nI 0) ((nI r) - (nI 1))) ca_X7_50 ⟨nm_X7_isIn, by decide, by decide⟩ rfl rfl (Nat.le_of_ble_eq_true rfl) (fun r64 E65 q66 => ?_)
    obtain ⟨rfl, rfl⟩ := q66
    show WP g _ _ _ (.int (sr_b (sr_isIn (nI x) (nI 0) ((nI r) - (nI 1)))) :: _) _ _
    refine wp_if_ne_b (tgt := 21) dX7_strike_16 (by decide) (fun c67 => ?_) (fun c67 => ?_)
    · refine wp_aload_n dX7_strike_21 rfl rfl ?_
      refine wp_iload_n dX7_strike_22 rfl rfl ?_
      refine wp_callV (M2 := M_X7_goes) (n := 1) (As := [.int (nI x)]) (st := []) dX7_strike_23 (c_X7_goes g D59 x r k60 (by omega) (by omega)) ca_X7_69 ⟨nm_X7_goes, by decide, by decide⟩ rfl (by decide) rfl rfl rfl (Nat.le_of_ble_eq_true rfl) (fun r68 E69 q70 => ?_)
      obtain ⟨rfl, eE69⟩ := q70
      have eE69 := eE69.symm
      show WP g _ _ _ _ _ _
      have k71 : E69.1 64 2 = nI (r - 1) := by rw [eE69, sr_rI_1, if_pos rfl]; simp [sr_goes]
      refine wp_aload_n dX7_strike_26 rfl rfl ?_
      refine wp_callV (M2 := M_X7_races) (n := 0) (As := []) (st := []) dX7_strike_27 (c_X7_races_n g E69 (r - 1) k71) ca_X7_58 ⟨nm_X7_races, by decide, by decide⟩ rfl (by decide) rfl rfl rfl (Nat.le_of_ble_eq_true rfl) (fun r72 E73 q74 => ?_)
      obtain ⟨rfl, rfl⟩ := q74
      show WP g _ _ _ (.int (nI (r - 1)) :: _) _ _
      refine wp_iret dX7_strike_30 rfl ⟨fun q hq e => ?_, fun h => absurd ⟨x, hx, rfl⟩ h⟩
      have e := (nI_eq (by omega) (by omega)).mp e
      subst e
      subst eD59 eE69
      exact ⟨rfl, by simp [sr_th, sr_sI_r, sr_rI_1]⟩
    · exact absurd hv (by rw [c67]; decide)
  · refine wp_aload_n dX7_strike_0 rfl rfl ?_
    refine wp_iconst (v := nI 0) dX7_strike_1 rfl ?_
    refine wp_putI dX7_strike_2 fl_X7_43 (by decide) rfl rfl ?_
    refine wp_D (fun D75 eD75 => ?_)
    have k76 : D75.1 64 2 = nI r := by rw [eD75, sr_sI_1, if_neg (by omega)]; exact hr
    refine wp_iload_n dX7_strike_5 rfl rfl ?_
    refine wp_iconst (v := nI 0) dX7_strike_6 rfl ?_
    refine wp_aload_n dX7_strike_7 rfl rfl ?_
    refine wp_callV (M2 := M_X7_races) (n := 0) (As := []) (st := [.int (nI 0), .int v]) dX7_strike_8 (c_X7_races_n g D75 r k76) ca_X7_58 ⟨nm_X7_races, by decide, by decide⟩ rfl (by decide) rfl rfl rfl (Nat.le_of_ble_eq_true rfl) (fun r77 E78 q79 => ?_)
    obtain ⟨rfl, rfl⟩ := q79
    show WP g _ _ _ (.int (nI r) :: _) _ _
    refine wp_iconst (v := nI 1) dX7_strike_11 rfl ?_
    refine wp_isub dX7_strike_12 ?_
    refine wp_callS (M2 := M_X7_isIn) (n := 3) (As := [.int v, .int (nI 0), .int ((nI r) - (nI 1))]) (st := []) dX7_strike_13 (c_X7_isIn g D75 v (nI 0) ((nI r) - (nI 1))) ca_X7_50 ⟨nm_X7_isIn, by decide, by decide⟩ rfl rfl (Nat.le_of_ble_eq_true rfl) (fun r80 E81 q82 => ?_)
    obtain ⟨rfl, rfl⟩ := q82
    show WP g _ _ _ (.int (sr_b (sr_isIn v (nI 0) ((nI r) - (nI 1)))) :: _) _ _
    refine wp_if_ne_b (tgt := 21) dX7_strike_16 (by decide) (fun c83 => ?_) (fun c83 => ?_)
    · exact absurd c83 hv
    · refine wp_iconst (v := -1) dX7_strike_19 rfl ?_
      refine wp_iret dX7_strike_20 rfl ⟨fun q hq e => absurd ((sr_in_n (by omega)).mpr ⟨q, hq, e⟩) hv, fun _ => ?_⟩
      subst eD75
      exact ⟨rfl, rfl⟩
