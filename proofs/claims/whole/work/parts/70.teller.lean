section TS
variable (b : Nat → Int32) (L : Nat)
/-- a race: good, token, flaw, crews, draft -/
abbrev ts_W : Type := Bool × tk_T × Nat × Nat × Nat × (Nat → Nat → Int32)
def ts_t1 (t : tk_T) : tk_T := tkn b L t.2.2.1 t.2.2.2
def ts_c1 (n : Nat) (t : tk_T) (fl : Nat) : ts_C := ts_cr b L n 1 (ts_t1 b L t) fl 0 0
def ts_c2 (n : Nat) (t : tk_T) (fl : Nat) : ts_C := ts_cr b L n 0 (ts_t1 b L (ts_c1 b L n t fl).2.1) (ts_c1 b L n t fl).2.2.1 (ts_c1 b L n t fl).2.2.2.1 (ts_c1 b L n t fl).2.2.2.2
def ts_m (n : Nat) (t : tk_T) (fl : Nat) (dr : Nat → Nat → Int32) (r : Nat) : ts_X := ts_mar b L (ts_t1 b L (ts_c2 b L n t fl).2.1) (ts_c2 b L n t fl).2.2.1 dr r (ts_c2 b L n t fl).2.2.2.1 (ts_c2 b L n t fl).2.2.2.2
def ts_race (n : Nat) (t : tk_T) (fl ca cb : Nat) (dr : Nat → Nat → Int32) (r : Nat) : ts_W :=
  if r = 12 then (false, t, 4 + 8 * t.2.1, ca, cb, dr)
  else if (ts_c1 b L n t fl).1 = true then
    (if (ts_c1 b L n t fl).2.1.1 = 3 then
      (if (ts_c2 b L n t fl).1 = true then
        (if (ts_c2 b L n t fl).2.1.1 = 7 then
          (if sr_bc (nI (ts_c2 b L n t fl).2.2.2.2) < sr_bc (nI (ts_c2 b L n t fl).2.2.2.1) then (false, (ts_c2 b L n t fl).2.1, 4 + 8 * (ts_c2 b L n t fl).2.1.2.1, (ts_c2 b L n t fl).2.2.2.1, (ts_c2 b L n t fl).2.2.2.2, dr)
          else ((ts_m b L n t fl dr r).1, (ts_m b L n t fl dr r).2.1, (ts_m b L n t fl dr r).2.2.1, (ts_c2 b L n t fl).2.2.2.1, (ts_c2 b L n t fl).2.2.2.2, (ts_m b L n t fl dr r).2.2.2))
        else (false, (ts_c2 b L n t fl).2.1, 1 + 8 * (ts_c2 b L n t fl).2.1.2.1, (ts_c2 b L n t fl).2.2.2.1, (ts_c2 b L n t fl).2.2.2.2, dr))
      else (false, (ts_c2 b L n t fl).2.1, (ts_c2 b L n t fl).2.2.1, (ts_c2 b L n t fl).2.2.2.1, (ts_c2 b L n t fl).2.2.2.2, dr))
    else (false, (ts_c1 b L n t fl).2.1, 1 + 8 * (ts_c1 b L n t fl).2.1.2.1, (ts_c1 b L n t fl).2.2.2.1, (ts_c1 b L n t fl).2.2.2.2, dr))
  else (false, (ts_c1 b L n t fl).2.1, (ts_c1 b L n t fl).2.2.1, (ts_c1 b L n t fl).2.2.2.1, (ts_c1 b L n t fl).2.2.2.2, dr)
end TS
theorem ts_cl_ok {b : Nat → Int32} {L n isA : Nat} (hn : n ≤ 6) : ∀ (d : Nat) (t : tk_T) (fl ca cb : Nat), tk_ok L t → ca < 64 → cb < 64 → tk_ok L (ts_cl b L n isA d t fl ca cb).2.1 ∧ (ts_cl b L n isA d t fl ca cb).2.2.2.1 < 64 ∧ (ts_cl b L n isA d t fl ca cb).2.2.2.2 < 64 := by
  intro d
  induction d with
  | zero => intro t fl ca cb h1 h2 h3; exact ⟨h1, h2, h3⟩
  | succ d ih =>
    intro t fl ca cb h1 h2 h3
    unfold ts_cl
    split
    · split
      · next hr =>
        obtain ⟨x, hx, hxe⟩ := (sr_row_n hn).mp hr
        have hxl : t.2.2.1.toNatClampNeg < 6 := by rw [hxe, nI_clamp (by omega)]; omega
        have hpx : 2 ^ t.2.2.1.toNatClampNeg ≤ 32 := Nat.le_trans (Nat.pow_le_pow_right (by decide) (show t.2.2.1.toNatClampNeg ≤ 5 by omega)) (by decide)
        have ha : ca ||| 1 * 2 ^ t.2.2.1.toNatClampNeg < 64 := Nat.or_lt_two_pow (n := 6) h2 (by omega)
        have hb : cb ||| 1 * 2 ^ t.2.2.1.toNatClampNeg < 64 := Nat.or_lt_two_pow (n := 6) h3 (by omega)
        split
        · split
          · exact ⟨h1, h2, h3⟩
          · refine ih _ _ _ _ (tkn_ok h1.2.2) ?_ ?_ <;> split <;> assumption
        · exact ⟨h1, h2, h3⟩
      · exact ⟨h1, h2, h3⟩
    · exact ⟨h1, h2, h3⟩
theorem ts_cr_ok {b : Nat → Int32} {L n isA : Nat} (hn : n ≤ 6) {t : tk_T} {fl ca cb : Nat} (h1 : tk_ok L t) (h2 : ca < 64) (h3 : cb < 64) : tk_ok L (ts_cr b L n isA t fl ca cb).2.1 ∧ (ts_cr b L n isA t fl ca cb).2.2.2.1 < 64 ∧ (ts_cr b L n isA t fl ca cb).2.2.2.2 < 64 := by
  unfold ts_cr
  split
  · exact ts_cl_ok hn _ _ _ _ _ h1 h2 h3
  · exact ⟨h1, h2, h3⟩
set_option maxHeartbeats 400000 in
set_option maxRecDepth 100000 in
theorem c_X5_readRace (g : sr_G) (hRW : cl_RW g) (D : sr_St) (L : Nat) (t : tk_T) (st fl ca cb : Nat) (dr : Nat → Nat → Int32) (hL : D.1 7 0 = nI L) (h300 : L ≤ 300) (tok : tk_ok L t) (n r : Nat) (hn9 : dr 9 0 = nI n) (hn6 : n ≤ 6) (hr9 : dr 9 2 = nI r) (hr12 : r ≤ 12) : Con g M_X5_readRace [.ref 6] (sr_Q D t st fl ca cb dr) (fun qa D' => qa = some (.int (sr_b (ts_race (D.1 8) L n t fl ca cb dr r).1)) ∧ D' = sr_Q D (ts_race (D.1 8) L n t fl ca cb dr r).2.1 st (ts_race (D.1 8) L n t fl ca cb dr r).2.2.1 (ts_race (D.1 8) L n t fl ca cb dr r).2.2.2.1 (ts_race (D.1 8) L n t fl ca cb dr r).2.2.2.2.1 (ts_race (D.1 8) L n t fl ca cb dr r).2.2.2.2.2) := by
  refine Con.of pn_X5_readRace (Nat.le_of_ble_eq_true rfl) ?_
  show WP g M_X5_readRace 0 [(0, .ref 6)] [] (sr_Q D t st fl ca cb dr) _
  refine wp_aload_n dX5_readRace_0 rfl rfl ?_
  refine wp_getR (r := 9) dX5_readRace_1 fl_X5_28 (by decide) rfl rfl rfl ?_
  refine wp_callV (M2 := M_X3_isFull) (n := 0) (As := []) (st := []) dX5_readRace_4 (c_X3_isFull9 g (sr_Q D t st fl ca cb dr) r hr9 hr12) ca_X5_80 ⟨nm_X3_isFull, by decide, by decide⟩ rfl (by decide) rfl rfl rfl (Nat.le_of_ble_eq_true rfl) (fun r1183 E1184 q1185 => ?_)
  obtain ⟨rfl, rfl⟩ := q1185
  show WP g _ _ _ (.int (sr_b (decide (r = 12))) :: _) _ _
  refine wp_if_eq_b (tgt := 16) dX5_readRace_7 (by decide) (fun c1186 => ?_) (fun c1186 => ?_)
  · have hf := of_decide_eq_false c1186
    refine wp_aload_n dX5_readRace_16 rfl rfl ?_
    refine wp_getR (r := 7) dX5_readRace_17 fl_X5_21 (by decide) rfl rfl rfl ?_
    refine wp_callV (M2 := M_X4_step) (n := 0) (As := []) (st := []) dX5_readRace_20 (c_X4_step g hRW (sr_Z D st fl ca cb dr) L t.1 t.2.1 t.2.2.1 t.2.2.2 hL h300 tok.2.2 tok.1 (by have := tok.2.1; omega)) ca_X5_41 ⟨nm_X4_step, by decide, by decide⟩ rfl (by decide) rfl rfl rfl (Nat.le_of_ble_eq_true rfl) (fun r1187 E1188 q1189 => ?_)
    rw [sr_Q_tk] at q1189
    obtain ⟨rfl, rfl⟩ := q1189
    show WP g _ _ _ _ _ _
    have tok1190 : tk_ok L (tkn (D.1 8) L t.2.2.1 t.2.2.2) := tkn_ok tok.2.2
    refine wp_aload_n dX5_readRace_23 rfl rfl ?_
    refine wp_iconst (v := nI 0) dX5_readRace_24 rfl ?_
    refine wp_putI dX5_readRace_25 fl_X5_32 (by decide) rfl rfl ?_
    rw [sr_Q_s4]
    refine wp_aload_n dX5_readRace_28 rfl rfl ?_
    refine wp_iconst (v := nI 0) dX5_readRace_29 rfl ?_
    refine wp_putI dX5_readRace_30 fl_X5_35 (by decide) rfl rfl ?_
    rw [sr_Q_s5]
    refine wp_aload_n dX5_readRace_33 rfl rfl ?_
    refine wp_iconst (v := nI 1) dX5_readRace_34 rfl ?_
    refine wp_callV (M2 := M_X5_readCrew) (n := 1) (As := [.int (nI 1)]) (st := []) dX5_readRace_35 (c_X5_readCrew g hRW D L (tkn (D.1 8) L t.2.2.1 t.2.2.2) st fl 0 0 dr hL h300 tok1190 n hn9 hn6 1 (by decide) (by decide) (by decide)) ca_X5_83 ⟨nm_X5_readCrew, by decide, by decide⟩ rfl (by decide) rfl rfl rfl (Nat.le_of_ble_eq_true rfl) (fun r1191 E1192 q1193 => ?_)
    obtain ⟨rfl, rfl⟩ := q1193
    show WP g _ _ _ (.int (sr_b (ts_c1 (D.1 8) L n t fl).1) :: _) (sr_Q D ((ts_c1 (D.1 8) L n t fl).2.1) st ((ts_c1 (D.1 8) L n t fl).2.2.1) ((ts_c1 (D.1 8) L n t fl).2.2.2.1) ((ts_c1 (D.1 8) L n t fl).2.2.2.2) dr) _
    have ok1 : tk_ok L (ts_c1 (D.1 8) L n t fl).2.1 ∧ (ts_c1 (D.1 8) L n t fl).2.2.2.1 < 64 ∧ (ts_c1 (D.1 8) L n t fl).2.2.2.2 < 64 := ts_cr_ok hn6 tok1190 (by decide) (by decide)
    have ok1k := ok1.1.1
    refine wp_if_ne_b (tgt := 43) dX5_readRace_38 (by decide) (fun c1194 => ?_) (fun c1194 => ?_)
    · have g1 := c1194
      refine wp_aload_n dX5_readRace_43 rfl rfl ?_
      refine wp_getR (r := 7) dX5_readRace_44 fl_X5_21 (by decide) rfl rfl rfl ?_
      refine wp_getI_n (n := ((ts_c1 (D.1 8) L n t fl).2.1).1) dX5_readRace_47 fl_X5_44 (by decide) rfl rfl (rfl) ?_
      refine wp_iconst (v := nI 3) dX5_readRace_50 rfl ?_
      refine wp_icmp_eq_n (tgt := 60) dX5_readRace_51 (by decide) (by first | omega | (split <;> omega)) (by first | omega | (split <;> omega)) (fun c1195 => ?_) (fun c1195 => ?_)
      · have g2 := c1195
        refine wp_aload_n dX5_readRace_60 rfl rfl ?_
        refine wp_getR (r := 7) dX5_readRace_61 fl_X5_21 (by decide) rfl rfl rfl ?_
        refine wp_callV (M2 := M_X4_step) (n := 0) (As := []) (st := []) dX5_readRace_64 (c_X4_step g hRW (sr_Z D st ((ts_c1 (D.1 8) L n t fl).2.2.1) ((ts_c1 (D.1 8) L n t fl).2.2.2.1) ((ts_c1 (D.1 8) L n t fl).2.2.2.2) dr) L ((ts_c1 (D.1 8) L n t fl).2.1).1 ((ts_c1 (D.1 8) L n t fl).2.1).2.1 ((ts_c1 (D.1 8) L n t fl).2.1).2.2.1 ((ts_c1 (D.1 8) L n t fl).2.1).2.2.2 hL h300 ok1.1.2.2 ok1.1.1 (by have := ok1.1.2.1; omega)) ca_X5_41 ⟨nm_X4_step, by decide, by decide⟩ rfl (by decide) rfl rfl rfl (Nat.le_of_ble_eq_true rfl) (fun r1196 E1197 q1198 => ?_)
        rw [sr_Q_tk] at q1198
        obtain ⟨rfl, rfl⟩ := q1198
        show WP g _ _ _ _ _ _
        have tok1199 : tk_ok L (tkn (D.1 8) L ((ts_c1 (D.1 8) L n t fl).2.1).2.2.1 ((ts_c1 (D.1 8) L n t fl).2.1).2.2.2) := tkn_ok ok1.1.2.2
        refine wp_aload_n dX5_readRace_67 rfl rfl ?_
        refine wp_iconst (v := nI 0) dX5_readRace_68 rfl ?_
        refine wp_callV (M2 := M_X5_readCrew) (n := 1) (As := [.int (nI 0)]) (st := []) dX5_readRace_69 (c_X5_readCrew g hRW D L (tkn (D.1 8) L ((ts_c1 (D.1 8) L n t fl).2.1).2.2.1 ((ts_c1 (D.1 8) L n t fl).2.1).2.2.2) st ((ts_c1 (D.1 8) L n t fl).2.2.1) ((ts_c1 (D.1 8) L n t fl).2.2.2.1) ((ts_c1 (D.1 8) L n t fl).2.2.2.2) dr hL h300 tok1199 n hn9 hn6 0 (by decide) ok1.2.1 ok1.2.2) ca_X5_83 ⟨nm_X5_readCrew, by decide, by decide⟩ rfl (by decide) rfl rfl rfl (Nat.le_of_ble_eq_true rfl) (fun r1200 E1201 q1202 => ?_)
        obtain ⟨rfl, rfl⟩ := q1202
        show WP g _ _ _ (.int (sr_b (ts_c2 (D.1 8) L n t fl).1) :: _) (sr_Q D ((ts_c2 (D.1 8) L n t fl).2.1) st ((ts_c2 (D.1 8) L n t fl).2.2.1) ((ts_c2 (D.1 8) L n t fl).2.2.2.1) ((ts_c2 (D.1 8) L n t fl).2.2.2.2) dr) _
        have ok2 : tk_ok L (ts_c2 (D.1 8) L n t fl).2.1 ∧ (ts_c2 (D.1 8) L n t fl).2.2.2.1 < 64 ∧ (ts_c2 (D.1 8) L n t fl).2.2.2.2 < 64 := ts_cr_ok hn6 tok1199 ok1.2.1 ok1.2.2
        have ok2k := ok2.1.1
        refine wp_if_ne_b (tgt := 77) dX5_readRace_72 (by decide) (fun c1203 => ?_) (fun c1203 => ?_)
        · have g3 := c1203
          refine wp_aload_n dX5_readRace_77 rfl rfl ?_
          refine wp_getR (r := 7) dX5_readRace_78 fl_X5_21 (by decide) rfl rfl rfl ?_
          refine wp_getI_n (n := ((ts_c2 (D.1 8) L n t fl).2.1).1) dX5_readRace_81 fl_X5_44 (by decide) rfl rfl (rfl) ?_
          refine wp_bipush (v := nI 7) dX5_readRace_84 rfl ?_
          refine wp_icmp_eq_n (tgt := 95) dX5_readRace_86 (by decide) (by first | omega | (split <;> omega)) (by first | omega | (split <;> omega)) (fun c1204 => ?_) (fun c1204 => ?_)
          · have g4 := c1204
            refine wp_aload_n dX5_readRace_95 rfl rfl ?_
            refine wp_getI_n (n := (ts_c2 (D.1 8) L n t fl).2.2.2.2) dX5_readRace_96 fl_X5_35 (by decide) rfl rfl (rfl) ?_
            refine wp_callS (M2 := M_J6_bitCount_0f7a4) (n := 1) (As := [.int (nI ((ts_c2 (D.1 8) L n t fl).2.2.2.2))]) (st := []) dX5_readRace_99 (c_J6_bitCount_0f7a4 g ((sr_Q D ((ts_c2 (D.1 8) L n t fl).2.1) st ((ts_c2 (D.1 8) L n t fl).2.2.1) ((ts_c2 (D.1 8) L n t fl).2.2.2.1) ((ts_c2 (D.1 8) L n t fl).2.2.2.2) dr)) (nI ((ts_c2 (D.1 8) L n t fl).2.2.2.2))) ca_X5_87 ⟨nm_J6_bitCount_0f7a4, by decide, by decide⟩ rfl rfl (Nat.le_of_ble_eq_true rfl) (fun r1205 E1206 q1207 => ?_)
            obtain ⟨rfl, rfl⟩ := q1207
            show WP g _ _ _ (.int (sr_bc (nI ((ts_c2 (D.1 8) L n t fl).2.2.2.2))) :: _) _ _
            refine wp_aload_n dX5_readRace_102 rfl rfl ?_
            refine wp_getI_n (n := (ts_c2 (D.1 8) L n t fl).2.2.2.1) dX5_readRace_103 fl_X5_32 (by decide) rfl rfl (rfl) ?_
            refine wp_callS (M2 := M_J6_bitCount_0f7a4) (n := 1) (As := [.int (nI ((ts_c2 (D.1 8) L n t fl).2.2.2.1))]) (st := [.int (sr_bc (nI ((ts_c2 (D.1 8) L n t fl).2.2.2.2)))]) dX5_readRace_106 (c_J6_bitCount_0f7a4 g ((sr_Q D ((ts_c2 (D.1 8) L n t fl).2.1) st ((ts_c2 (D.1 8) L n t fl).2.2.1) ((ts_c2 (D.1 8) L n t fl).2.2.2.1) ((ts_c2 (D.1 8) L n t fl).2.2.2.2) dr)) (nI ((ts_c2 (D.1 8) L n t fl).2.2.2.1))) ca_X5_87 ⟨nm_J6_bitCount_0f7a4, by decide, by decide⟩ rfl rfl (Nat.le_of_ble_eq_true rfl) (fun r1208 E1209 q1210 => ?_)
            obtain ⟨rfl, rfl⟩ := q1210
            show WP g _ _ _ (.int (sr_bc (nI ((ts_c2 (D.1 8) L n t fl).2.2.2.1))) :: _) _ _
            refine wp_icmp_ge (tgt := 118) dX5_readRace_109 (by decide) (fun c1211 => ?_) (fun c1211 => ?_)
            · have g5 := c1211
              refine wp_aload_n dX5_readRace_118 rfl rfl ?_
              refine wp_getR (r := 7) dX5_readRace_119 fl_X5_21 (by decide) rfl rfl rfl ?_
              refine wp_callV (M2 := M_X4_step) (n := 0) (As := []) (st := []) dX5_readRace_122 (c_X4_step g hRW (sr_Z D st ((ts_c2 (D.1 8) L n t fl).2.2.1) ((ts_c2 (D.1 8) L n t fl).2.2.2.1) ((ts_c2 (D.1 8) L n t fl).2.2.2.2) dr) L ((ts_c2 (D.1 8) L n t fl).2.1).1 ((ts_c2 (D.1 8) L n t fl).2.1).2.1 ((ts_c2 (D.1 8) L n t fl).2.1).2.2.1 ((ts_c2 (D.1 8) L n t fl).2.1).2.2.2 hL h300 ok2.1.2.2 ok2.1.1 (by have := ok2.1.2.1; omega)) ca_X5_41 ⟨nm_X4_step, by decide, by decide⟩ rfl (by decide) rfl rfl rfl (Nat.le_of_ble_eq_true rfl) (fun r1212 E1213 q1214 => ?_)
              rw [sr_Q_tk] at q1214
              obtain ⟨rfl, rfl⟩ := q1214
              show WP g _ _ _ _ _ _
              have tok1215 : tk_ok L (tkn (D.1 8) L ((ts_c2 (D.1 8) L n t fl).2.1).2.2.1 ((ts_c2 (D.1 8) L n t fl).2.1).2.2.2) := tkn_ok ok2.1.2.2
              refine wp_aload_n dX5_readRace_125 rfl rfl ?_
              refine wp_callV (M2 := M_X5_readMargin) (n := 0) (As := []) (st := []) dX5_readRace_126 (c_X5_readMargin g hRW D L (tkn (D.1 8) L ((ts_c2 (D.1 8) L n t fl).2.1).2.2.1 ((ts_c2 (D.1 8) L n t fl).2.1).2.2.2) st ((ts_c2 (D.1 8) L n t fl).2.2.1) ((ts_c2 (D.1 8) L n t fl).2.2.2.1) ((ts_c2 (D.1 8) L n t fl).2.2.2.2) dr hL h300 tok1215 r hr9 (by omega)) ca_X5_93 ⟨nm_X5_readMargin, by decide, by decide⟩ rfl (by decide) rfl rfl rfl (Nat.le_of_ble_eq_true rfl) (fun r1216 E1217 q1218 => ?_)
              obtain ⟨rfl, rfl⟩ := q1218
              show WP g _ _ _ (.int (sr_b (ts_m (D.1 8) L n t fl dr r).1) :: _) (sr_Q D ((ts_m (D.1 8) L n t fl dr r).2.1) st ((ts_m (D.1 8) L n t fl dr r).2.2.1) ((ts_c2 (D.1 8) L n t fl).2.2.2.1) ((ts_c2 (D.1 8) L n t fl).2.2.2.2) ((ts_m (D.1 8) L n t fl dr r).2.2.2)) _
              have g6 := g5
              rw [Int32.le_iff_toInt_le] at g6
              have hX : (ts_race (D.1 8) L n t fl ca cb dr r) = _ := (if_neg hf).trans ((if_pos g1).trans ((if_pos g2).trans ((if_pos g3).trans ((if_pos g4).trans (if_neg (by rw [Int32.lt_iff_toInt_lt]; omega))))))
              refine wp_zret dX5_readRace_129 rfl (sr_b01 _) ?_
              rw [hX]
              exact ⟨rfl, rfl⟩
            · have g5 := c1211
              refine wp_aload_n dX5_readRace_112 rfl rfl ?_
              refine wp_iconst (v := nI 4) dX5_readRace_113 rfl ?_
              refine wp_callV (M2 := M_X5_refuse) (n := 1) (As := [.int (nI 4)]) (st := []) dX5_readRace_114 (c_X5_refuse g D L ((ts_c2 (D.1 8) L n t fl).2.1) st ((ts_c2 (D.1 8) L n t fl).2.2.1) ((ts_c2 (D.1 8) L n t fl).2.2.2.1) ((ts_c2 (D.1 8) L n t fl).2.2.2.2) dr hL 4 ok2.1 h300) ca_X5_57 ⟨nm_X5_refuse, by decide, by decide⟩ rfl (by decide) rfl rfl rfl (Nat.le_of_ble_eq_true rfl) (fun r1219 E1220 q1221 => ?_)
              obtain ⟨rfl, rfl⟩ := q1221
              show WP g _ _ _ (.int (nI 0) :: _) _ _
              have g6 := g5
              rw [Int32.le_iff_toInt_le] at g6
              have hX : (ts_race (D.1 8) L n t fl ca cb dr r) = _ := (if_neg hf).trans ((if_pos g1).trans ((if_pos g2).trans ((if_pos g3).trans ((if_pos g4).trans (if_pos (by rw [Int32.lt_iff_toInt_lt]; omega))))))
              refine wp_zret dX5_readRace_117 rfl (Or.inl rfl) ?_
              rw [hX]
              exact ⟨rfl, rfl⟩
          · have g4 := c1204
            refine wp_aload_n dX5_readRace_89 rfl rfl ?_
            refine wp_iconst (v := nI 1) dX5_readRace_90 rfl ?_
            refine wp_callV (M2 := M_X5_refuse) (n := 1) (As := [.int (nI 1)]) (st := []) dX5_readRace_91 (c_X5_refuse g D L ((ts_c2 (D.1 8) L n t fl).2.1) st ((ts_c2 (D.1 8) L n t fl).2.2.1) ((ts_c2 (D.1 8) L n t fl).2.2.2.1) ((ts_c2 (D.1 8) L n t fl).2.2.2.2) dr hL 1 ok2.1 h300) ca_X5_57 ⟨nm_X5_refuse, by decide, by decide⟩ rfl (by decide) rfl rfl rfl (Nat.le_of_ble_eq_true rfl) (fun r1222 E1223 q1224 => ?_)
            obtain ⟨rfl, rfl⟩ := q1224
            show WP g _ _ _ (.int (nI 0) :: _) _ _
            have hX : (ts_race (D.1 8) L n t fl ca cb dr r) = _ := (if_neg hf).trans ((if_pos g1).trans ((if_pos g2).trans ((if_pos g3).trans (if_neg g4))))
            refine wp_zret dX5_readRace_94 rfl (Or.inl rfl) ?_
            rw [hX]
            exact ⟨rfl, rfl⟩
        · have g3 := c1203
          refine wp_iconst (v := nI 0) dX5_readRace_75 rfl ?_
          have hX : (ts_race (D.1 8) L n t fl ca cb dr r) = _ := (if_neg hf).trans ((if_pos g1).trans ((if_pos g2).trans (if_neg (by rw [g3]; decide))))
          refine wp_zret dX5_readRace_76 rfl (Or.inl rfl) ?_
          rw [hX]
          exact ⟨rfl, rfl⟩
      · have g2 := c1195
        refine wp_aload_n dX5_readRace_54 rfl rfl ?_
        refine wp_iconst (v := nI 1) dX5_readRace_55 rfl ?_
        refine wp_callV (M2 := M_X5_refuse) (n := 1) (As := [.int (nI 1)]) (st := []) dX5_readRace_56 (c_X5_refuse g D L ((ts_c1 (D.1 8) L n t fl).2.1) st ((ts_c1 (D.1 8) L n t fl).2.2.1) ((ts_c1 (D.1 8) L n t fl).2.2.2.1) ((ts_c1 (D.1 8) L n t fl).2.2.2.2) dr hL 1 ok1.1 h300) ca_X5_57 ⟨nm_X5_refuse, by decide, by decide⟩ rfl (by decide) rfl rfl rfl (Nat.le_of_ble_eq_true rfl) (fun r1225 E1226 q1227 => ?_)
        obtain ⟨rfl, rfl⟩ := q1227
        show WP g _ _ _ (.int (nI 0) :: _) _ _
        have hX : (ts_race (D.1 8) L n t fl ca cb dr r) = _ := (if_neg hf).trans ((if_pos g1).trans (if_neg g2))
        refine wp_zret dX5_readRace_59 rfl (Or.inl rfl) ?_
        rw [hX]
        exact ⟨rfl, rfl⟩
    · have g1 := c1194
      refine wp_iconst (v := nI 0) dX5_readRace_41 rfl ?_
      have hX : (ts_race (D.1 8) L n t fl ca cb dr r) = _ := (if_neg hf).trans (if_neg (by rw [g1]; decide))
      refine wp_zret dX5_readRace_42 rfl (Or.inl rfl) ?_
      rw [hX]
      exact ⟨rfl, rfl⟩
  · have hf := of_decide_eq_true c1186
    refine wp_aload_n dX5_readRace_10 rfl rfl ?_
    refine wp_iconst (v := nI 4) dX5_readRace_11 rfl ?_
    refine wp_callV (M2 := M_X5_refuse) (n := 1) (As := [.int (nI 4)]) (st := []) dX5_readRace_12 (c_X5_refuse g D L t st fl ca cb dr hL 4 tok h300) ca_X5_57 ⟨nm_X5_refuse, by decide, by decide⟩ rfl (by decide) rfl rfl rfl (Nat.le_of_ble_eq_true rfl) (fun r1228 E1229 q1230 => ?_)
    obtain ⟨rfl, rfl⟩ := q1230
    show WP g _ _ _ (.int (nI 0) :: _) _ _
    have hX : (ts_race (D.1 8) L n t fl ca cb dr r) = _ := if_pos hf
    refine wp_zret dX5_readRace_15 rfl (Or.inl rfl) ?_
    rw [hX]
    exact ⟨rfl, rfl⟩
