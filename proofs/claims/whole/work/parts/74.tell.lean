theorem lg_copy {D : sr_St} {dr : Nat → Nat → Int32} {now : Nat → Int32} {n r : Nat} (hd : ∀ o, 9 ≤ o → o ≤ 13 → D.1 o = dr o) (h : ts_lg dr now n r) : lg (sr_4 (sr_sI (sr_sI (sr_sI D 1 0 (D.1 9 0)) 1 1 (D.1 9 1)) 1 2 (nI r)) 1 (fun p => sr_cp (D.1 (p + 8)) (D.1 p) r)) now n r := by
  obtain ⟨a1, a2, a3, a4⟩ := h
  refine ⟨?_, ?_, ?_, fun q hq => ?_⟩
  · rw [sr_4_1, if_neg (by decide), sr_sI_1, if_neg (by decide), sr_sI_1, if_neg (by decide), sr_sI_1, if_pos ⟨rfl, rfl⟩, hd 9 (by decide) (by decide)]; exact a1
  · rw [sr_4_1, if_neg (by decide), sr_sI_1, if_neg (by decide), sr_sI_1, if_pos ⟨rfl, rfl⟩, hd 9 (by decide) (by decide)]; exact a2
  · rw [sr_4_1, if_neg (by decide), sr_sI_1, if_pos ⟨rfl, rfl⟩]
  · rw [sr_4_1, if_pos (by decide), sr_4_1, if_pos (by decide), sr_4_1, if_pos (by decide), sr_4_1, if_pos (by decide)]
    unfold sr_cp
    rw [if_pos hq, if_pos hq, if_pos hq, if_pos hq, hd 10 (by decide) (by decide), hd 11 (by decide) (by decide), hd 12 (by decide) (by decide), hd 13 (by decide) (by decide)]
    exact a4 q hq
theorem CI.cg {now : Nat → Int32} {n r : Nat} {D E : sr_St} (h : CI now n r D) (k1 : ∀ o, (1 ≤ o ∧ o ≤ 5) ∨ o = 14 ∨ o = 33 → E.1 o = D.1 o) (k2 : E.2 = D.2) : CI now n r E := by
  obtain ⟨h1, ⟨a1, a2, a3, a4⟩, h3, b1, b2, b3, b4⟩ := h
  refine ⟨h1, ⟨?_, ?_, ?_, fun q hq => ?_⟩, mx_cong h3 (fun o _ _ => by rw [k2]), mx_cong b1 (fun o _ _ => by rw [k2]), ?_, ?_, fun z hz => ?_⟩
  · rw [k1 1 (by decide)]; exact a1
  · rw [k1 1 (by decide)]; exact a2
  · rw [k1 1 (by decide)]; exact a3
  · rw [k1 2 (by decide), k1 3 (by decide), k1 4 (by decide), k1 5 (by decide)]; exact a4 q hq
  · rw [k2]; exact b2
  · rw [k1 14 (by decide)]; exact b3
  · rw [k1 33 (by decide)]; exact b4 z hz
theorem sr_Q_o {D : sr_St} {t : tk_T} {st fl ca cb : Nat} {dr : Nat → Nat → Int32} {o : Nat} (h6 : ¬ o = 6) (h7 : ¬ o = 7) (h9 : ¬ (9 ≤ o ∧ o ≤ 13)) : (sr_Q D t st fl ca cb dr).1 o = D.1 o := by
  unfold sr_Q sr_R sr_Z; simp [h6, h7, h9]
theorem sr_Q_o9 {D : sr_St} {t : tk_T} {st fl ca cb : Nat} {dr : Nat → Nat → Int32} {o : Nat} (h9 : 9 ≤ o ∧ o ≤ 13) : (sr_Q D t st fl ca cb dr).1 o = dr o := by
  unfold sr_Q sr_R sr_Z; simp [show ¬ o = 7 by omega, show ¬ o = 6 by omega, h9]
set_option maxHeartbeats 400000 in
set_option maxRecDepth 100000 in
theorem c_X6_tell (g : sr_G) (hRW : cl_RW g) (D : sr_St) (now : Nat → Int32) (n r : Nat) (hci : CI now n r D) (L k p e st fl ca cb : Nat) (hL : D.1 7 0 = nI L) (h300 : L ≤ 300) (hk : k ≤ 10) (hp : p ≤ 400) (i1 : D.1 7 1 = nI k) (i2 : D.1 7 2 = nI p) (i3 : D.1 7 4 = nI e) (i4 : D.1 6 0 = nI st) (i5 : D.1 6 1 = nI fl) (i6 : D.1 6 4 = nI ca) (i7 : D.1 6 5 = nI cb) (now' : Nat → Int32) (n' r' : Nat) (hgood : (tl_X D L ca cb r).1 = true → ts_lg (tl_X D L ca cb r).2.2.2.2.2.2 now' n' r' ∧ sr_logOk now' n' r') : Con g M_X6_tell [.ref 0] D (fun qa D' => ((tl_X D L ca cb r).1 = true → qa = some (.int (nI (tl_X D L ca cb r).2.2.1)) ∧ CI now' n' r' D' ∧ D'.1 0 11 = -1) ∧ ((tl_X D L ca cb r).1 = false → qa = some (.int (-1)) ∧ CI now n r D' ∧ D'.1 0 11 = nI (tl_X D L ca cb r).2.2.1) ∧ D'.1 0 10 = nI (tl_X D L ca cb r).2.2.2.1 ∧ D'.1 7 0 = nI 0 ∧ TI D' ∧ cl_pt D D') := by
  refine Con.of pn_X6_tell (Nat.le_of_ble_eq_true rfl) ?_
  show WP g M_X6_tell 0 [(0, .ref 0)] [] D _
  have hn6 := hci.n6
  have hr12 := hci.r12
  have hdk : ts_dok (ts_dr D r) := tl_dok hci.2.1.1 hn6 hr12
  have hXo : tk_ok L (tl_X D L ca cb r).2.1 ∧ ts_dok (tl_X D L ca cb r).2.2.2.2.2.2 := ts_all_ok 300 0 _ 0 ca cb _ (tkn_ok (Nat.zero_le _)) hdk
  have h22 : WP g M_X6_tell 22 [(0, .ref 0), (1, .int (sr_b (tl_X D L ca cb r).1))] [] (sr_Q D (tl_X D L ca cb r).2.1 (tl_X D L ca cb r).2.2.1 (tl_X D L ca cb r).2.2.2.1 (tl_X D L ca cb r).2.2.2.2.1 (tl_X D L ca cb r).2.2.2.2.2.1 (tl_X D L ca cb r).2.2.2.2.2.2) (fun qa D' => ((tl_X D L ca cb r).1 = true → qa = some (.int (nI (tl_X D L ca cb r).2.2.1)) ∧ CI now' n' r' D' ∧ D'.1 0 11 = -1) ∧ ((tl_X D L ca cb r).1 = false → qa = some (.int (-1)) ∧ CI now n r D' ∧ D'.1 0 11 = nI (tl_X D L ca cb r).2.2.1) ∧ D'.1 0 10 = nI (tl_X D L ca cb r).2.2.2.1 ∧ D'.1 7 0 = nI 0 ∧ TI D' ∧ cl_pt D D') := by
    refine wp_aload_n dX6_tell_22 rfl rfl ?_
    refine wp_getR (r := 6) dX6_tell_23 fl_X6_19 (by decide) rfl rfl rfl ?_
    refine wp_getR (r := 7) dX6_tell_26 fl_X6_67 (by decide) rfl rfl rfl ?_
    refine wp_iconst (v := nI 0) dX6_tell_29 rfl ?_
    refine wp_putI dX6_tell_30 fl_X6_71 (by decide) rfl rfl ?_
    refine wp_D (fun D1262 eD1262 => ?_)
    refine wp_aload_n dX6_tell_33 rfl rfl ?_
    refine wp_aload_n dX6_tell_34 rfl rfl ?_
    refine wp_getR (r := 6) dX6_tell_35 fl_X6_19 (by decide) rfl rfl rfl ?_
    refine wp_getI_n (n := (tl_X D L ca cb r).2.2.2.1) dX6_tell_38 fl_X6_91 (by decide) rfl rfl (by rw [eD1262, sr_sI_1, if_neg (by decide)]; rfl) ?_
    refine wp_putI dX6_tell_41 fl_X6_60 (by decide) rfl rfl ?_
    refine wp_D (fun D1263 eD1263 => ?_)
    refine wp_iload_n dX6_tell_44 rfl rfl ?_
    refine wp_if_ne_b (tgt := 61) dX6_tell_45 (by decide) (fun c1264 => ?_) (fun c1264 => ?_)
    · have hb := c1264
      refine wp_aload_n dX6_tell_61 rfl rfl ?_
      refine wp_iconst (v := -1) dX6_tell_62 rfl ?_
      refine wp_putI dX6_tell_63 fl_X6_64 (by decide) rfl rfl ?_
      refine wp_D (fun D1265 eD1265 => ?_)
      have d9 : ∀ o, 9 ≤ o → o ≤ 13 → D1265.1 o = (tl_X D L ca cb r).2.2.2.2.2.2 o := fun o h1 h2 => by funext z; rw [eD1265, sr_sI_1, if_neg (by omega), eD1263, sr_sI_1, if_neg (by omega), eD1262, sr_sI_1, if_neg (by omega), sr_Q_o9 ⟨h1, h2⟩]
      have dO : ∀ o, ¬ o = 0 → ¬ o = 6 → ¬ o = 7 → ¬ (9 ≤ o ∧ o ≤ 13) → D1265.1 o = D.1 o := fun o h0 h6 h7 h9 => by funext z; rw [eD1265, sr_sI_1, if_neg (by omega), eD1263, sr_sI_1, if_neg (by omega), eD1262, sr_sI_1, if_neg (by omega), sr_Q_o h6 h7 h9]
      have d2 : D1265.2 = D.2 := by rw [eD1265, sr_sI_2, eD1263, sr_sI_2, eD1262, sr_sI_2]; rfl
      have d70 : D1265.1 7 0 = nI 0 := by rw [eD1265, sr_sI_1, if_neg (by decide), eD1263, sr_sI_1, if_neg (by decide), eD1262, sr_sI_1, if_pos ⟨rfl, rfl⟩]
      have d7 : ∀ z, ¬ z = 0 → D1265.1 7 z = (sr_Q D (tl_X D L ca cb r).2.1 (tl_X D L ca cb r).2.2.1 (tl_X D L ca cb r).2.2.2.1 (tl_X D L ca cb r).2.2.2.2.1 (tl_X D L ca cb r).2.2.2.2.2.1 (tl_X D L ca cb r).2.2.2.2.2.2).1 7 z := fun z hz => by rw [eD1265, sr_sI_1, if_neg (by omega), eD1263, sr_sI_1, if_neg (by omega), eD1262, sr_sI_1, if_neg (by omega)]
      have d6 : D1265.1 6 = (sr_Q D (tl_X D L ca cb r).2.1 (tl_X D L ca cb r).2.2.1 (tl_X D L ca cb r).2.2.2.1 (tl_X D L ca cb r).2.2.2.2.1 (tl_X D L ca cb r).2.2.2.2.2.1 (tl_X D L ca cb r).2.2.2.2.2.2).1 6 := by funext z; rw [eD1265, sr_sI_1, if_neg (by omega), eD1263, sr_sI_1, if_neg (by omega), eD1262, sr_sI_1, if_neg (by omega)]
      have d60 : D1265.1 6 0 = nI (tl_X D L ca cb r).2.2.1 := by rw [d6]; rfl
      have d010 : D1265.1 0 10 = nI (tl_X D L ca cb r).2.2.2.1 := by rw [eD1265, sr_sI_1, if_neg (by decide), eD1263, sr_sI_1, if_pos ⟨rfl, rfl⟩]
      have d011 : D1265.1 0 11 = ((-1)) := by rw [eD1265, sr_sI_1, if_pos ⟨rfl, rfl⟩]
      have dTI : TI D1265 := ⟨(tl_X D L ca cb r).2.1.1, (tl_X D L ca cb r).2.1.2.1, (tl_X D L ca cb r).2.1.2.2.2, (tl_X D L ca cb r).2.2.1, (tl_X D L ca cb r).2.2.2.1, (tl_X D L ca cb r).2.2.2.2.1, (tl_X D L ca cb r).2.2.2.2.2.1, hXo.1.1, by have := hXo.1.2.1; omega, by rw [d7 1 (by decide)]; rfl, by rw [d7 2 (by decide)]; rfl, by rw [d7 4 (by decide)]; rfl, d60, by rw [d6]; rfl, by rw [d6]; rfl, by rw [d6]; rfl⟩
      refine wp_aload_n dX6_tell_66 rfl rfl ?_
      refine wp_getR (r := 1) dX6_tell_67 fl_X6_10 (by decide) rfl rfl rfl ?_
      refine wp_aload_n dX6_tell_70 rfl rfl ?_
      refine wp_getR (r := 6) dX6_tell_71 fl_X6_19 (by decide) rfl rfl rfl ?_
      refine wp_getR (r := 9) dX6_tell_74 fl_X6_80 (by decide) rfl rfl rfl ?_
      refine wp_callV (M2 := M_X3_copyFrom) (n := 1) (As := [.ref 9]) (st := []) dX6_tell_77 (c_X3_copyFrom1 g D1265 r' (by rw [d9 9 (by decide) (by decide)]; exact (hgood hb).1.2.2.1) (hgood hb).2.1.2.2.2) ca_X6_83 ⟨nm_X3_copyFrom, by decide, by decide⟩ rfl (by decide) rfl rfl rfl (Nat.le_of_ble_eq_true rfl) (fun r1266 E1267 q1268 => ?_)
      obtain ⟨rfl, eE1267⟩ := q1268
      have eE1267 := eE1267.symm
      show WP g _ _ _ _ _ _
      refine wp_aload_n dX6_tell_80 rfl rfl ?_
      refine wp_callV (M2 := M_X6_judge) (n := 0) (As := []) (st := []) dX6_tell_81 (c_X6_judge g E1267 now' n' r' (hgood hb).2 (by rw [eE1267]; exact lg_copy d9 (hgood hb).1)) ca_X6_97 ⟨nm_X6_judge, by decide, by decide⟩ rfl (by decide) rfl rfl rfl (Nat.le_of_ble_eq_true rfl) (fun r1269 E1270 q1271 => ?_)
      obtain ⟨rfl, ci1, pj1⟩ := q1271
      show WP g _ _ _ _ _ _
      have k60 : E1270.1 6 0 = nI (tl_X D L ca cb r).2.2.1 := by rw [pj1.1 6 (by decide) (by decide) (by decide), eE1267, sr_4_1, if_neg (by decide), sr_sI_1, if_neg (by decide), sr_sI_1, if_neg (by decide), sr_sI_1, if_neg (by decide)]; exact d60
      refine wp_aload_n dX6_tell_84 rfl rfl ?_
      refine wp_getR (r := 6) dX6_tell_85 fl_X6_19 (by decide) rfl rfl rfl ?_
      refine wp_getI_n (n := (tl_X D L ca cb r).2.2.1) dX6_tell_88 fl_X6_94 (by decide) rfl rfl (k60) ?_
      have dk : ∀ o z, ¬ (1 ≤ o ∧ o ≤ 5) → ¬ o = 34 → ¬ o = 33 → ¬ o = 14 → E1270.1 o z = D1265.1 o z := fun o z h1 h2 h3 h4 => by rw [pj1.1 o h2 h3 h4, eE1267, sr_4_1, if_neg (by omega), sr_sI_1, if_neg (by omega), sr_sI_1, if_neg (by omega), sr_sI_1, if_neg (by omega)]
      have dk2 : ∀ o, ¬ (14 ≤ o ∧ o ≤ 32) → E1270.2 o = D.2 o := fun o ho => by rw [pj1.2 o ho, eE1267, sr_4_2, sr_sI_2, sr_sI_2, sr_sI_2, d2]
      refine wp_iret dX6_tell_91 rfl ⟨fun _ => ⟨rfl, ci1, ?_⟩, fun h => absurd hb (by rw [h]; decide), ?_, ?_, ?_, ⟨fun o h0 h1 h2 h3 h4 => ?_, dk2⟩⟩
      · rw [dk 0 11 (by decide) (by decide) (by decide) (by decide)]; exact d011
      · rw [dk 0 10 (by decide) (by decide) (by decide) (by decide)]; exact d010
      · rw [dk 7 0 (by decide) (by decide) (by decide) (by decide)]; exact d70
      · obtain ⟨a1, a2, a3, a4, a5, a6, a7, b1, b2, b3, b4, b5, b6, b7, b8, b9⟩ := dTI
        refine ⟨a1, a2, a3, a4, a5, a6, a7, b1, b2, ?_, ?_, ?_, ?_, ?_, ?_, ?_⟩ <;> rw [dk _ _ (by decide) (by decide) (by decide) (by decide)] <;> assumption
      · funext z; rw [dk o z (by omega) h4 h3 (by omega), dO o h0 (by omega) (by omega) (by omega)]
    · have hb := c1264
      refine wp_aload_n dX6_tell_48 rfl rfl ?_
      refine wp_aload_n dX6_tell_49 rfl rfl ?_
      refine wp_getR (r := 6) dX6_tell_50 fl_X6_19 (by decide) rfl rfl rfl ?_
      refine wp_getI_n (n := (tl_X D L ca cb r).2.2.1) dX6_tell_53 fl_X6_94 (by decide) rfl rfl (by rw [eD1263, sr_sI_1, if_neg (by decide), eD1262, sr_sI_1, if_neg (by decide)]; rfl) ?_
      refine wp_putI dX6_tell_56 fl_X6_64 (by decide) rfl rfl ?_
      refine wp_D (fun D1272 eD1272 => ?_)
      have d9 : ∀ o, 9 ≤ o → o ≤ 13 → D1272.1 o = (tl_X D L ca cb r).2.2.2.2.2.2 o := fun o h1 h2 => by funext z; rw [eD1272, sr_sI_1, if_neg (by omega), eD1263, sr_sI_1, if_neg (by omega), eD1262, sr_sI_1, if_neg (by omega), sr_Q_o9 ⟨h1, h2⟩]
      have dO : ∀ o, ¬ o = 0 → ¬ o = 6 → ¬ o = 7 → ¬ (9 ≤ o ∧ o ≤ 13) → D1272.1 o = D.1 o := fun o h0 h6 h7 h9 => by funext z; rw [eD1272, sr_sI_1, if_neg (by omega), eD1263, sr_sI_1, if_neg (by omega), eD1262, sr_sI_1, if_neg (by omega), sr_Q_o h6 h7 h9]
      have d2 : D1272.2 = D.2 := by rw [eD1272, sr_sI_2, eD1263, sr_sI_2, eD1262, sr_sI_2]; rfl
      have d70 : D1272.1 7 0 = nI 0 := by rw [eD1272, sr_sI_1, if_neg (by decide), eD1263, sr_sI_1, if_neg (by decide), eD1262, sr_sI_1, if_pos ⟨rfl, rfl⟩]
      have d7 : ∀ z, ¬ z = 0 → D1272.1 7 z = (sr_Q D (tl_X D L ca cb r).2.1 (tl_X D L ca cb r).2.2.1 (tl_X D L ca cb r).2.2.2.1 (tl_X D L ca cb r).2.2.2.2.1 (tl_X D L ca cb r).2.2.2.2.2.1 (tl_X D L ca cb r).2.2.2.2.2.2).1 7 z := fun z hz => by rw [eD1272, sr_sI_1, if_neg (by omega), eD1263, sr_sI_1, if_neg (by omega), eD1262, sr_sI_1, if_neg (by omega)]
      have d6 : D1272.1 6 = (sr_Q D (tl_X D L ca cb r).2.1 (tl_X D L ca cb r).2.2.1 (tl_X D L ca cb r).2.2.2.1 (tl_X D L ca cb r).2.2.2.2.1 (tl_X D L ca cb r).2.2.2.2.2.1 (tl_X D L ca cb r).2.2.2.2.2.2).1 6 := by funext z; rw [eD1272, sr_sI_1, if_neg (by omega), eD1263, sr_sI_1, if_neg (by omega), eD1262, sr_sI_1, if_neg (by omega)]
      have d60 : D1272.1 6 0 = nI (tl_X D L ca cb r).2.2.1 := by rw [d6]; rfl
      have d010 : D1272.1 0 10 = nI (tl_X D L ca cb r).2.2.2.1 := by rw [eD1272, sr_sI_1, if_neg (by decide), eD1263, sr_sI_1, if_pos ⟨rfl, rfl⟩]
      have d011 : D1272.1 0 11 = (nI ((tl_X D L ca cb r).2.2.1)) := by rw [eD1272, sr_sI_1, if_pos ⟨rfl, rfl⟩]
      have dTI : TI D1272 := ⟨(tl_X D L ca cb r).2.1.1, (tl_X D L ca cb r).2.1.2.1, (tl_X D L ca cb r).2.1.2.2.2, (tl_X D L ca cb r).2.2.1, (tl_X D L ca cb r).2.2.2.1, (tl_X D L ca cb r).2.2.2.2.1, (tl_X D L ca cb r).2.2.2.2.2.1, hXo.1.1, by have := hXo.1.2.1; omega, by rw [d7 1 (by decide)]; rfl, by rw [d7 2 (by decide)]; rfl, by rw [d7 4 (by decide)]; rfl, d60, by rw [d6]; rfl, by rw [d6]; rfl, by rw [d6]; rfl⟩
      refine wp_iconst (v := -1) dX6_tell_59 rfl ?_
      refine wp_iret dX6_tell_60 rfl ⟨fun h => absurd h (by rw [hb]; decide), fun _ => ⟨rfl, hci.cg (fun o ho => dO o (by omega) (by omega) (by omega) (by omega)) d2, d011⟩, d010, d70, dTI, ⟨fun o h0 h1 h2 h3 h4 => dO o h0 (by omega) (by omega) (by omega), fun o _ => by rw [d2]⟩⟩
  refine wp_aload_n dX6_tell_0 rfl rfl ?_
  refine wp_getR (r := 6) dX6_tell_1 fl_X6_19 (by decide) rfl rfl rfl ?_
  refine wp_getR (r := 9) dX6_tell_4 fl_X6_80 (by decide) rfl rfl rfl ?_
  refine wp_aload_n dX6_tell_7 rfl rfl ?_
  refine wp_getR (r := 1) dX6_tell_8 fl_X6_10 (by decide) rfl rfl rfl ?_
  refine wp_callV (M2 := M_X3_copyFrom) (n := 1) (As := [.ref 1]) (st := []) dX6_tell_11 (c_X3_copyFrom9 g D r hci.2.1.2.2.1 hr12) ca_X6_83 ⟨nm_X3_copyFrom, by decide, by decide⟩ rfl (by decide) rfl rfl rfl (Nat.le_of_ble_eq_true rfl) (fun r1273 E1274 q1275 => ?_)
  rw [sr_copy9, ← sr_Q_of i1 i2 i3 i4 i5 i6 i7 (ts_dr D r)] at q1275
  obtain ⟨rfl, rfl⟩ := q1275
  show WP g _ _ _ _ _ _
  refine wp_aload_n dX6_tell_14 rfl rfl ?_
  refine wp_getR (r := 6) dX6_tell_15 fl_X6_19 (by decide) rfl rfl rfl ?_
  refine wp_callV (M2 := M_X5_readAll) (n := 0) (As := []) (st := []) dX6_tell_18 (c_X5_readAll g hRW D L (k, p, D.1 7 3, e) st fl ca cb (ts_dr D r) hL h300 hk hp hdk) ca_X6_87 ⟨nm_X5_readAll, by decide, by decide⟩ rfl (by decide) rfl rfl rfl (Nat.le_of_ble_eq_true rfl) (fun r1276 E1277 q1278 => ?_)
  obtain ⟨rfl, rfl⟩ := q1278
  show WP g _ _ _ (.int (sr_b (tl_X D L ca cb r).1) :: _) (sr_Q D (tl_X D L ca cb r).2.1 (tl_X D L ca cb r).2.2.1 (tl_X D L ca cb r).2.2.2.1 (tl_X D L ca cb r).2.2.2.2.1 (tl_X D L ca cb r).2.2.2.2.2.1 (tl_X D L ca cb r).2.2.2.2.2.2) _
  refine wp_istore_n (lv' := [(0, .ref 0), (1, .int (sr_b (tl_X D L ca cb r).1))]) dX6_tell_21 rfl (by decide) rfl ?_
  exact h22
