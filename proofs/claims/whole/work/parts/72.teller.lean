theorem wp_st80 {g : sr_G} {pc pc2 : Nat} {v : Int32} {D : sr_St} {Q : Option Value → sr_St → Prop} {off : Int} (hd : decode M_X5_readAll.2.1 pc = .ok (.istore_n 1, 1)) (hd2 : decode M_X5_readAll.2.1 pc2 = .ok (.goto off, 3)) (h : WP g M_X5_readAll 106 [(0, .ref 6), (1, .int v)] [] D Q) (h1 : pc2 = pc + 1 := by rfl) (h2 : (pc2 : Int) + off = 106 := by decide) : WP g M_X5_readAll pc [(0, .ref 6)] [.int v] D Q := by
  subst h1
  refine wp_istore_n (lv' := [(0, .ref 6), (1, .int v)]) hd rfl (by decide) rfl ?_
  exact wp_goto (tgt := 106) hd2 h2 h
set_option maxHeartbeats 400000 in
set_option maxRecDepth 100000 in
theorem c_X5_readAll (g : sr_G) (hRW : cl_RW g) (D : sr_St) (L : Nat) (t : tk_T) (st fl ca cb : Nat) (dr : Nat → Nat → Int32) (hL : D.1 7 0 = nI L) (h300 : L ≤ 300) (hk10 : t.1 ≤ 10) (hp4 : t.2.1 ≤ 400) (hd : ts_dok dr) : Con g M_X5_readAll [.ref 6] (sr_Q D t st fl ca cb dr) (fun qa D' => qa = some (.int (sr_b (ts_all (D.1 8) L 300 0 ((tkn (D.1 8) L t.2.2.1 0)) 0 ca cb dr).1)) ∧ D' = sr_Q D (ts_all (D.1 8) L 300 0 ((tkn (D.1 8) L t.2.2.1 0)) 0 ca cb dr).2.1 (ts_all (D.1 8) L 300 0 ((tkn (D.1 8) L t.2.2.1 0)) 0 ca cb dr).2.2.1 (ts_all (D.1 8) L 300 0 ((tkn (D.1 8) L t.2.2.1 0)) 0 ca cb dr).2.2.2.1 (ts_all (D.1 8) L 300 0 ((tkn (D.1 8) L t.2.2.1 0)) 0 ca cb dr).2.2.2.2.1 (ts_all (D.1 8) L 300 0 ((tkn (D.1 8) L t.2.2.1 0)) 0 ca cb dr).2.2.2.2.2.1 (ts_all (D.1 8) L 300 0 ((tkn (D.1 8) L t.2.2.1 0)) 0 ca cb dr).2.2.2.2.2.2) := by
  refine Con.of pn_X5_readAll (Nat.le_of_ble_eq_true rfl) ?_
  show WP g M_X5_readAll 0 [(0, .ref 6)] [] (sr_Q D t st fl ca cb dr) _
  have hL2 : ∀ k (st : Nat) (t : tk_T) (fl ca cb : Nat) (dr : Nat → Nat → Int32), tk_ok L t → ts_dok dr → st + k = 300 → WP g M_X5_readAll 24 [(0, .ref 6)] [] (sr_Q D t st fl ca cb dr) (fun qa D' => qa = some (.int (sr_b (ts_all (D.1 8) L k st t fl ca cb dr).1)) ∧ D' = sr_Q D (ts_all (D.1 8) L k st t fl ca cb dr).2.1 (ts_all (D.1 8) L k st t fl ca cb dr).2.2.1 (ts_all (D.1 8) L k st t fl ca cb dr).2.2.2.1 (ts_all (D.1 8) L k st t fl ca cb dr).2.2.2.2.1 (ts_all (D.1 8) L k st t fl ca cb dr).2.2.2.2.2.1 (ts_all (D.1 8) L k st t fl ca cb dr).2.2.2.2.2.2) := by
    intro k
    induction k with
    | zero =>
      intro st t fl ca cb dr tok hd hst
      have ht10 := tok.1
      refine wp_aload_n dX5_readAll_24 rfl rfl ?_
      refine wp_getR (r := 7) dX5_readAll_25 fl_X5_21 (by decide) rfl rfl rfl ?_
      refine wp_getI_n (n := t.1) dX5_readAll_28 fl_X5_44 (by decide) rfl rfl (rfl) ?_
      refine wp_if_eq_n (tgt := 149) dX5_readAll_31 (by decide) (by first | omega | (split <;> omega)) (fun c1231 => ?_) (fun c1231 => ?_)
      · refine wp_iconst (v := nI 1) dX5_readAll_149 rfl ?_
        exact wp_zret dX5_readAll_150 rfl (Or.inr rfl) ⟨rfl, rfl⟩
      · refine wp_aload_n dX5_readAll_34 rfl rfl ?_
        refine wp_getI_n (n := st) dX5_readAll_35 fl_X5_9 (by decide) rfl rfl (rfl) ?_
        refine wp_sipush (v := nI 300) dX5_readAll_38 rfl ?_
        refine wp_icmp_ge_n (tgt := 149) dX5_readAll_41 (by decide) (by first | omega | (split <;> omega)) (by first | omega | (split <;> omega)) (fun c1232 => ?_) (fun c1232 => ?_)
        · refine wp_iconst (v := nI 1) dX5_readAll_149 rfl ?_
          exact wp_zret dX5_readAll_150 rfl (Or.inr rfl) ⟨rfl, rfl⟩
        · exact absurd c1232 (by omega)
    | succ k ih =>
      intro st t fl ca cb dr tok hd hst
      have ht10 := tok.1
      have hone := ts_one_ok (b := D.1 8) (fl := fl) (ca := ca) (cb := cb) tok hd
      have hok10 := hone.1.1
      have h106 : ¬ t.1 = 0 → WP g M_X5_readAll 106 [(0, .ref 6), (1, .int (sr_b (ts_one (D.1 8) L t fl ca cb dr).1))] [] (sr_Q D ((ts_one (D.1 8) L t fl ca cb dr).2.1) st ((ts_one (D.1 8) L t fl ca cb dr).2.2.1) ((ts_one (D.1 8) L t fl ca cb dr).2.2.2.1) ((ts_one (D.1 8) L t fl ca cb dr).2.2.2.2.1) ((ts_one (D.1 8) L t fl ca cb dr).2.2.2.2.2)) (fun qa D' => qa = some (.int (sr_b (ts_all (D.1 8) L (k + 1) st t fl ca cb dr).1)) ∧ D' = sr_Q D (ts_all (D.1 8) L (k + 1) st t fl ca cb dr).2.1 (ts_all (D.1 8) L (k + 1) st t fl ca cb dr).2.2.1 (ts_all (D.1 8) L (k + 1) st t fl ca cb dr).2.2.2.1 (ts_all (D.1 8) L (k + 1) st t fl ca cb dr).2.2.2.2.1 (ts_all (D.1 8) L (k + 1) st t fl ca cb dr).2.2.2.2.2.1 (ts_all (D.1 8) L (k + 1) st t fl ca cb dr).2.2.2.2.2.2) := by
        intro ht0
        refine wp_iload_n dX5_readAll_106 rfl rfl ?_
        refine wp_if_ne_b (tgt := 112) dX5_readAll_107 (by decide) (fun c1233 => ?_) (fun c1233 => ?_)
        · have g1 := c1233
          refine wp_aload_n dX5_readAll_112 rfl rfl ?_
          refine wp_getR (r := 7) dX5_readAll_113 fl_X5_21 (by decide) rfl rfl rfl ?_
          refine wp_getI_n (n := ((ts_one (D.1 8) L t fl ca cb dr).2.1).1) dX5_readAll_116 fl_X5_44 (by decide) rfl rfl (rfl) ?_
          refine wp_iconst (v := nI 2) dX5_readAll_119 rfl ?_
          refine wp_icmp_eq_n (tgt := 129) dX5_readAll_120 (by decide) (by first | omega | (split <;> omega)) (by first | omega | (split <;> omega)) (fun c1234 => ?_) (fun c1234 => ?_)
          · have g2 := c1234
            refine wp_aload_n dX5_readAll_129 rfl rfl ?_
            refine wp_getR (r := 7) dX5_readAll_130 fl_X5_21 (by decide) rfl rfl rfl ?_
            refine wp_callV (M2 := M_X4_step) (n := 0) (As := []) (st := []) dX5_readAll_133 (c_X4_step g hRW (sr_Z D st ((ts_one (D.1 8) L t fl ca cb dr).2.2.1) ((ts_one (D.1 8) L t fl ca cb dr).2.2.2.1) ((ts_one (D.1 8) L t fl ca cb dr).2.2.2.2.1) ((ts_one (D.1 8) L t fl ca cb dr).2.2.2.2.2)) L ((ts_one (D.1 8) L t fl ca cb dr).2.1).1 ((ts_one (D.1 8) L t fl ca cb dr).2.1).2.1 ((ts_one (D.1 8) L t fl ca cb dr).2.1).2.2.1 ((ts_one (D.1 8) L t fl ca cb dr).2.1).2.2.2 hL h300 hone.1.2.2 hone.1.1 (by have := hone.1.2.1; omega)) ca_X5_41 ⟨nm_X4_step, by decide, by decide⟩ rfl (by decide) rfl rfl rfl (Nat.le_of_ble_eq_true rfl) (fun r1235 E1236 q1237 => ?_)
            rw [sr_Q_tk] at q1237
            obtain ⟨rfl, rfl⟩ := q1237
            show WP g _ _ _ _ _ _
            have tok1238 : tk_ok L (tkn (D.1 8) L ((ts_one (D.1 8) L t fl ca cb dr).2.1).2.2.1 ((ts_one (D.1 8) L t fl ca cb dr).2.1).2.2.2) := tkn_ok hone.1.2.2
            refine wp_aload_n dX5_readAll_136 rfl rfl ?_
            refine wp_dup dX5_readAll_137 rfl ?_
            refine wp_getI_n (n := st) dX5_readAll_138 fl_X5_9 (by decide) rfl rfl (rfl) ?_
            refine wp_iconst (v := nI 1) dX5_readAll_141 rfl ?_
            refine wp_iadd_n dX5_readAll_142 ?_
            refine wp_putI dX5_readAll_143 fl_X5_9 (by decide) rfl rfl ?_
            rw [sr_Q_s0]
            refine wp_goto (tgt := 24) dX5_readAll_146 (by decide) ?_
            have hX : (ts_all (D.1 8) L (k + 1) st t fl ca cb dr) = _ := (if_neg ht0).trans ((if_pos g1).trans (if_pos g2))
            rw [hX]
            exact wp_pick [0] rfl (ih (st + 1) (tkn (D.1 8) L ((ts_one (D.1 8) L t fl ca cb dr).2.1).2.2.1 ((ts_one (D.1 8) L t fl ca cb dr).2.1).2.2.2) ((ts_one (D.1 8) L t fl ca cb dr).2.2.1) ((ts_one (D.1 8) L t fl ca cb dr).2.2.2.1) ((ts_one (D.1 8) L t fl ca cb dr).2.2.2.2.1) ((ts_one (D.1 8) L t fl ca cb dr).2.2.2.2.2) tok1238 hone.2 (by omega))
          · have g2 := c1234
            refine wp_aload_n dX5_readAll_123 rfl rfl ?_
            refine wp_iconst (v := nI 1) dX5_readAll_124 rfl ?_
            refine wp_callV (M2 := M_X5_refuse) (n := 1) (As := [.int (nI 1)]) (st := []) dX5_readAll_125 (c_X5_refuse g D L ((ts_one (D.1 8) L t fl ca cb dr).2.1) st ((ts_one (D.1 8) L t fl ca cb dr).2.2.1) ((ts_one (D.1 8) L t fl ca cb dr).2.2.2.1) ((ts_one (D.1 8) L t fl ca cb dr).2.2.2.2.1) ((ts_one (D.1 8) L t fl ca cb dr).2.2.2.2.2) hL 1 hone.1 h300) ca_X5_57 ⟨nm_X5_refuse, by decide, by decide⟩ rfl (by decide) rfl rfl rfl (Nat.le_of_ble_eq_true rfl) (fun r1239 E1240 q1241 => ?_)
            obtain ⟨rfl, rfl⟩ := q1241
            show WP g _ _ _ (.int (nI 0) :: _) _ _
            have hX : (ts_all (D.1 8) L (k + 1) st t fl ca cb dr) = _ := (if_neg ht0).trans ((if_pos g1).trans (if_neg g2))
            refine wp_zret dX5_readAll_128 rfl (Or.inl rfl) ?_
            rw [hX]
            exact ⟨rfl, rfl⟩
        · have g1 := c1233
          refine wp_iconst (v := nI 0) dX5_readAll_110 rfl ?_
          have hX : (ts_all (D.1 8) L (k + 1) st t fl ca cb dr) = _ := (if_neg ht0).trans (if_neg (by rw [g1]; decide))
          refine wp_zret dX5_readAll_111 rfl (Or.inl rfl) ?_
          rw [hX]
          exact ⟨rfl, rfl⟩
      refine wp_aload_n dX5_readAll_24 rfl rfl ?_
      refine wp_getR (r := 7) dX5_readAll_25 fl_X5_21 (by decide) rfl rfl rfl ?_
      refine wp_getI_n (n := t.1) dX5_readAll_28 fl_X5_44 (by decide) rfl rfl (rfl) ?_
      refine wp_if_eq_n (tgt := 149) dX5_readAll_31 (by decide) (by first | omega | (split <;> omega)) (fun c1242 => ?_) (fun c1242 => ?_)
      · have ht0 := c1242
        refine wp_iconst (v := nI 1) dX5_readAll_149 rfl ?_
        have hX : (ts_all (D.1 8) L (k + 1) st t fl ca cb dr) = _ := if_pos ht0
        refine wp_zret dX5_readAll_150 rfl (Or.inr rfl) ?_
        rw [hX]
        exact ⟨rfl, rfl⟩
      · have ht0 := c1242
        refine wp_aload_n dX5_readAll_34 rfl rfl ?_
        refine wp_getI_n (n := st) dX5_readAll_35 fl_X5_9 (by decide) rfl rfl (rfl) ?_
        refine wp_sipush (v := nI 300) dX5_readAll_38 rfl ?_
        refine wp_icmp_ge_n (tgt := 149) dX5_readAll_41 (by decide) (by first | omega | (split <;> omega)) (by first | omega | (split <;> omega)) (fun c1243 => ?_) (fun c1243 => ?_)
        · exact absurd c1243 (by omega)
        · refine wp_aload_n dX5_readAll_44 rfl rfl ?_
          refine wp_getR (r := 7) dX5_readAll_45 fl_X5_21 (by decide) rfl rfl rfl ?_
          refine wp_getI_n (n := t.1) dX5_readAll_48 fl_X5_44 (by decide) rfl rfl (rfl) ?_
          by_cases hk4 : t.1 = 4
          · refine wp_topeq (congrArg nI hk4) ?_
            refine wp_tableIn (off := 25) (tgt := 76) dX5_readAll_51 (by decide) (by decide) rfl (by decide) ?_
            refine wp_aload_n dX5_readAll_76 rfl rfl ?_
            refine wp_callV (M2 := M_X5_readRowers) (n := 0) (As := []) (st := []) dX5_readAll_77 (c_X5_readRowers g hRW D L t st fl ca cb dr hL h300 tok ) ca_X5_47 ⟨nm_X5_readRowers, by decide, by decide⟩ rfl (by decide) rfl rfl rfl (Nat.le_of_ble_eq_true rfl) (fun r1244 E1245 q1246 => ?_)
            obtain ⟨rfl, rfl⟩ := q1246
            have hO : (ts_one (D.1 8) L t fl ca cb dr) = _ := if_pos hk4
            have h6 := h106 ht0
            rw [hO] at h6
            exact wp_st80 (pc2 := 81) dX5_readAll_80 dX5_readAll_81 h6
          by_cases hk5 : t.1 = 5
          · refine wp_topeq (congrArg nI hk5) ?_
            refine wp_tableIn (off := 33) (tgt := 84) dX5_readAll_51 (by decide) (by decide) rfl (by decide) ?_
            refine wp_aload_n dX5_readAll_84 rfl rfl ?_
            refine wp_callV (M2 := M_X5_readBound) (n := 0) (As := []) (st := []) dX5_readAll_85 (c_X5_readBound g hRW D L t st fl ca cb dr hL h300 tok ) ca_X5_51 ⟨nm_X5_readBound, by decide, by decide⟩ rfl (by decide) rfl rfl rfl (Nat.le_of_ble_eq_true rfl) (fun r1247 E1248 q1249 => ?_)
            obtain ⟨rfl, rfl⟩ := q1249
            have hO : (ts_one (D.1 8) L t fl ca cb dr) = _ := (if_neg hk4).trans (if_pos hk5)
            have h6 := h106 ht0
            rw [hO] at h6
            exact wp_st80 (pc2 := 89) dX5_readAll_88 dX5_readAll_89 h6
          by_cases hk6 : t.1 = 6
          · refine wp_topeq (congrArg nI hk6) ?_
            refine wp_tableIn (off := 41) (tgt := 92) dX5_readAll_51 (by decide) (by decide) rfl (by decide) ?_
            refine wp_aload_n dX5_readAll_92 rfl rfl ?_
            refine wp_callV (M2 := M_X5_readRace) (n := 0) (As := []) (st := []) dX5_readAll_93 (c_X5_readRace g hRW D L t st fl ca cb dr hL h300 tok (ts_n dr) (ts_r dr) hd.1 hd.2.1 hd.2.2.1 hd.2.2.2) ca_X5_54 ⟨nm_X5_readRace, by decide, by decide⟩ rfl (by decide) rfl rfl rfl (Nat.le_of_ble_eq_true rfl) (fun r1250 E1251 q1252 => ?_)
            obtain ⟨rfl, rfl⟩ := q1252
            have hO : (ts_one (D.1 8) L t fl ca cb dr) = _ := (if_neg hk4).trans ((if_neg hk5).trans (if_pos hk6))
            have h6 := h106 ht0
            rw [hO] at h6
            exact wp_st80 (pc2 := 97) dX5_readAll_96 dX5_readAll_97 h6
          refine wp_tableOut (tgt := 100) dX5_readAll_51 (by rw [nI_toInt (by omega)]; omega) (by decide) ?_
          refine wp_aload_n dX5_readAll_100 rfl rfl ?_
          refine wp_iconst (v := nI 1) dX5_readAll_101 rfl ?_
          refine wp_callV (M2 := M_X5_refuse) (n := 1) (As := [.int (nI 1)]) (st := []) dX5_readAll_102 (c_X5_refuse g D L t st fl ca cb dr hL 1 tok h300) ca_X5_57 ⟨nm_X5_refuse, by decide, by decide⟩ rfl (by decide) rfl rfl rfl (Nat.le_of_ble_eq_true rfl) (fun r1253 E1254 q1255 => ?_)
          obtain ⟨rfl, rfl⟩ := q1255
          show WP g _ _ _ (.int (nI 0) :: _) _ _
          refine wp_istore_n (lv' := [(0, .ref 6), (1, .int (nI 0))]) dX5_readAll_105 rfl (by decide) rfl ?_
          have hO : (ts_one (D.1 8) L t fl ca cb dr) = _ := (if_neg hk4).trans ((if_neg hk5).trans (if_neg hk6))
          have h6 := h106 ht0
          rw [hO] at h6
          exact h6
  refine wp_aload_n dX5_readAll_0 rfl rfl ?_
  refine wp_iconst (v := nI 0) dX5_readAll_1 rfl ?_
  refine wp_putI dX5_readAll_2 fl_X5_15 (by decide) rfl rfl ?_
  rw [sr_Q_s1]
  refine wp_aload_n dX5_readAll_5 rfl rfl ?_
  refine wp_iconst (v := nI 0) dX5_readAll_6 rfl ?_
  refine wp_putI dX5_readAll_7 fl_X5_9 (by decide) rfl rfl ?_
  rw [sr_Q_s0]
  refine wp_aload_n dX5_readAll_10 rfl rfl ?_
  refine wp_getR (r := 7) dX5_readAll_11 fl_X5_21 (by decide) rfl rfl rfl ?_
  refine wp_callV (M2 := M_X4_rewind) (n := 0) (As := []) (st := []) dX5_readAll_14 (c_X4_rewind g (sr_Z D 0 0 ca cb dr) L t.1 t.2.1 t.2.2.1 t.2.2.2 hL) ca_X5_38 ⟨nm_X4_rewind, by decide, by decide⟩ rfl (by decide) rfl rfl rfl (Nat.le_of_ble_eq_true rfl) (fun r1256 E1257 q1258 => ?_)
  obtain ⟨rfl, rfl⟩ := q1258
  show WP g _ _ _ _ (sr_Q D ((t.1, t.2.1, t.2.2.1, 0)) 0 0 ca cb dr) _
  refine wp_aload_n dX5_readAll_17 rfl rfl ?_
  refine wp_getR (r := 7) dX5_readAll_18 fl_X5_21 (by decide) rfl rfl rfl ?_
  refine wp_callV (M2 := M_X4_step) (n := 0) (As := []) (st := []) dX5_readAll_21 (c_X4_step g hRW (sr_Z D 0 0 ca cb dr) L t.1 t.2.1 t.2.2.1 0 hL h300 (Nat.zero_le _) hk10 hp4) ca_X5_41 ⟨nm_X4_step, by decide, by decide⟩ rfl (by decide) rfl rfl rfl (Nat.le_of_ble_eq_true rfl) (fun r1259 E1260 q1261 => ?_)
  rw [sr_Q_tk] at q1261
  obtain ⟨rfl, rfl⟩ := q1261
  show WP g _ _ _ _ _ _
  have tok0 : tk_ok L (tkn (D.1 8) L t.2.2.1 0) := tkn_ok (Nat.zero_le _)
  exact hL2 300 0 (tkn (D.1 8) L t.2.2.1 0) 0 ca cb dr tok0 hd rfl
