def ts_app (dr : Nat → Nat → Int32) (r : Nat) (a b m s : Int32) : Nat → Nat → Int32 := sr_u2 (sr_u2 (sr_u2 (sr_u2 (sr_u2 dr 10 r a) 11 r b) 12 r m) 13 r s) 9 2 (nI (r + 1))
theorem sr_Q_app {D : sr_St} {t : tk_T} {st fl ca cb r : Nat} {dr : Nat → Nat → Int32} {a b m s : Int32} : sr_app (sr_Q D t st fl ca cb dr) 9 r a b m s = sr_Q D t st fl ca cb (ts_app dr r a b m s) := by
  unfold sr_app ts_app
  rw [sr_Q_d (by decide), sr_Q_d (by decide), sr_Q_d (by decide), sr_Q_d (by decide), sr_Q_d (by decide)]
theorem wp_topeq {g : sr_G} {M : sr_Md} {pc : Nat} {lv : List (Nat × Value)} {st : List Value} {D : sr_St} {Q : Option Value → sr_St → Prop} {x y : Int32} (h : x = y) (k : WP g M pc lv (.int y :: st) D Q) : WP g M pc lv (.int x :: st) D Q := by subst h; exact k
section TS
variable (b : Nat → Int32) (L : Nat)
def ts_sm (k : Nat) : Int32 := if k = 8 then nI 1 else if k = 9 then -1 else nI 0
def ts_mt (t : tk_T) : tk_T := if (tkn b L t.2.2.1 t.2.2.2).1 = 8 ∨ (tkn b L t.2.2.1 t.2.2.2).1 = 9 then tkn b L (tkn b L t.2.2.1 t.2.2.2).2.2.1 (tkn b L t.2.2.1 t.2.2.2).2.2.2 else tkn b L t.2.2.1 t.2.2.2
def ts_mar (t : tk_T) (fl : Nat) (dr : Nat → Nat → Int32) (r ca cb : Nat) : ts_X := if t.1 = 1 then (true, ts_mt b L t, fl, ts_app dr r (nI ca) (nI cb) t.2.2.1 (ts_sm (tkn b L t.2.2.1 t.2.2.2).1)) else (false, t, 1 + 8 * t.2.1, dr)
abbrev ts_C : Type := Bool × tk_T × Nat × Nat × Nat
def ts_cl (n isA : Nat) : Nat → tk_T → Nat → Nat → Nat → ts_C
  | 0, t, fl, ca, cb => (true, t, fl, ca, cb)
  | d + 1, t, fl, ca, cb => if t.1 = 1 then (if sr_row n t.2.2.1 = true then (if (ca ||| cb) &&& (1 * 2 ^ t.2.2.1.toNatClampNeg) = 0 then (if d = 0 then (false, t, 4 + 8 * t.2.1, ca, cb) else ts_cl n isA d (tkn b L t.2.2.1 t.2.2.2) fl (if isA = 1 then ca ||| 1 * 2 ^ t.2.2.1.toNatClampNeg else ca) (if isA = 1 then cb else cb ||| 1 * 2 ^ t.2.2.1.toNatClampNeg)) else (false, t, 3 + 8 * t.2.1, ca, cb)) else (false, t, 2 + 8 * t.2.1, ca, cb)) else (true, t, fl, ca, cb)
def ts_cr (n isA : Nat) (t : tk_T) (fl ca cb : Nat) : ts_C := if t.1 = 1 then ts_cl b L n isA (1 + (if isA = 1 then 3 else sr_bits ca)) t fl ca cb else (false, t, 1 + 8 * t.2.1, ca, cb)
end TS
set_option maxHeartbeats 400000 in
set_option maxRecDepth 100000 in
theorem c_X5_readMargin (g : sr_G) (hRW : cl_RW g) (D : sr_St) (L : Nat) (t : tk_T) (st fl ca cb : Nat) (dr : Nat → Nat → Int32) (hL : D.1 7 0 = nI L) (h300 : L ≤ 300) (tok : tk_ok L t) (r : Nat) (hr9 : dr 9 2 = nI r) (hr : r < 12) : Con g M_X5_readMargin [.ref 6] (sr_Q D t st fl ca cb dr) (fun qa D' => qa = some (.int (sr_b (ts_mar (D.1 8) L t fl dr r ca cb).1)) ∧ D' = sr_Q D (ts_mar (D.1 8) L t fl dr r ca cb).2.1 st (ts_mar (D.1 8) L t fl dr r ca cb).2.2.1 ca cb (ts_mar (D.1 8) L t fl dr r ca cb).2.2.2) := by
  refine Con.of pn_X5_readMargin (Nat.le_of_ble_eq_true rfl) ?_
  show WP g M_X5_readMargin 0 [(0, .ref 6)] [] (sr_Q D t st fl ca cb dr) _
  refine wp_aload_n dX5_readMargin_0 rfl rfl ?_
  refine wp_getR (r := 7) dX5_readMargin_1 fl_X5_21 (by decide) rfl rfl rfl ?_
  refine wp_getI_n (n := t.1) dX5_readMargin_4 fl_X5_44 (by decide) rfl rfl (rfl) ?_
  refine wp_iconst (v := nI 1) dX5_readMargin_7 rfl ?_
  refine wp_icmp_eq_n (tgt := 17) dX5_readMargin_8 (by decide) (by have := tok.1; have := (tkn_ok (b := D.1 8) (v := t.2.2.1) tok.2.2).1; omega) (by first | omega | (split <;> omega)) (fun c1118 => ?_) (fun c1118 => ?_)
  · have h1 := c1118
    refine wp_aload_n dX5_readMargin_17 rfl rfl ?_
    refine wp_getR (r := 7) dX5_readMargin_18 fl_X5_21 (by decide) rfl rfl rfl ?_
    refine wp_getI dX5_readMargin_21 fl_X5_64 (by decide) rfl rfl ?_
    show WP g _ _ _ (.int t.2.2.1 :: _) _ _
    refine wp_istore_n (lv' := [(0, .ref 6), (1, .int t.2.2.1)]) dX5_readMargin_24 rfl (by decide) rfl ?_
    refine wp_aload_n dX5_readMargin_25 rfl rfl ?_
    refine wp_getR (r := 7) dX5_readMargin_26 fl_X5_21 (by decide) rfl rfl rfl ?_
    refine wp_callV (M2 := M_X4_step) (n := 0) (As := []) (st := []) dX5_readMargin_29 (c_X4_step g hRW (sr_Z D st fl ca cb dr) L t.1 t.2.1 t.2.2.1 t.2.2.2 hL h300 tok.2.2 tok.1 (by have := tok.2.1; omega)) ca_X5_41 ⟨nm_X4_step, by decide, by decide⟩ rfl (by decide) rfl rfl rfl (Nat.le_of_ble_eq_true rfl) (fun r1119 E1120 q1121 => ?_)
    rw [sr_Q_tk] at q1121
    obtain ⟨rfl, rfl⟩ := q1121
    show WP g _ _ _ _ _ _
    have tok1122 : tk_ok L (tkn (D.1 8) L t.2.2.1 t.2.2.2) := tkn_ok tok.2.2
    refine wp_aload_n dX5_readMargin_32 rfl rfl ?_
    refine wp_getR (r := 7) dX5_readMargin_33 fl_X5_21 (by decide) rfl rfl rfl ?_
    refine wp_getI_n (n := (tkn (D.1 8) L t.2.2.1 t.2.2.2).1) dX5_readMargin_36 fl_X5_44 (by decide) rfl rfl (rfl) ?_
    refine wp_bipush (v := nI 8) dX5_readMargin_39 rfl ?_
    refine wp_icmp_ne_n (tgt := 48) dX5_readMargin_41 (by decide) (by have := tok.1; have := (tkn_ok (b := D.1 8) (v := t.2.2.1) tok.2.2).1; omega) (by first | omega | (split <;> omega)) (fun c1123 => ?_) (fun c1123 => ?_)
    · have h8 := c1123
      refine wp_aload_n dX5_readMargin_48 rfl rfl ?_
      refine wp_getR (r := 7) dX5_readMargin_49 fl_X5_21 (by decide) rfl rfl rfl ?_
      refine wp_getI_n (n := (tkn (D.1 8) L t.2.2.1 t.2.2.2).1) dX5_readMargin_52 fl_X5_44 (by decide) rfl rfl (rfl) ?_
      refine wp_bipush (v := nI 9) dX5_readMargin_55 rfl ?_
      refine wp_icmp_ne_n (tgt := 64) dX5_readMargin_57 (by decide) (by have := tok.1; have := (tkn_ok (b := D.1 8) (v := t.2.2.1) tok.2.2).1; omega) (by first | omega | (split <;> omega)) (fun c1124 => ?_) (fun c1124 => ?_)
      · have h9 := c1124
        refine wp_iconst (v := nI 0) dX5_readMargin_64 rfl ?_
        refine wp_istore_n (lv' := [(0, .ref 6), (1, .int t.2.2.1), (2, .int (nI 0))]) dX5_readMargin_65 rfl (by decide) rfl ?_
        refine wp_iload_n dX5_readMargin_66 rfl rfl ?_
        refine wp_if_eq (tgt := 77) dX5_readMargin_67 (by decide) (fun _ => ?_) (fun c1125 => absurd c1125 (by decide))
        refine wp_aload_n dX5_readMargin_77 rfl rfl ?_
        refine wp_getR (r := 9) dX5_readMargin_78 fl_X5_28 (by decide) rfl rfl rfl ?_
        refine wp_aload_n dX5_readMargin_81 rfl rfl ?_
        refine wp_getI_n (n := ca) dX5_readMargin_82 fl_X5_32 (by decide) rfl rfl (rfl) ?_
        refine wp_aload_n dX5_readMargin_85 rfl rfl ?_
        refine wp_getI_n (n := cb) dX5_readMargin_86 fl_X5_35 (by decide) rfl rfl (rfl) ?_
        refine wp_iload_n dX5_readMargin_89 rfl rfl ?_
        refine wp_iload_n dX5_readMargin_90 rfl rfl ?_
        refine wp_callV (M2 := M_X3_append) (n := 4) (As := [.int (nI ca), .int (nI cb), .int t.2.2.1, .int (nI 0)]) (st := []) dX5_readMargin_91 (c_X3_append9 g (sr_Q D (tkn (D.1 8) L t.2.2.1 t.2.2.2) st fl ca cb dr) r hr9 (by omega) (nI ca) (nI cb) t.2.2.1 (nI 0)) ca_X5_99 ⟨nm_X3_append, by decide, by decide⟩ rfl (by decide) rfl rfl rfl (Nat.le_of_ble_eq_true rfl) (fun r1126 E1127 q1128 => ?_)
        rw [if_neg (show ¬ r = 12 by omega), sr_Q_app] at q1128
        obtain ⟨rfl, rfl⟩ := q1128
        show WP g _ _ _ _ _ _
        refine wp_iconst (v := nI 1) dX5_readMargin_94 rfl ?_
        have hX : (ts_mar (D.1 8) L t fl dr r ca cb) = _ := if_pos h1
        have hs : ts_sm (tkn (D.1 8) L t.2.2.1 t.2.2.2).1 = nI 0 := (if_neg h8).trans (if_neg h9)
        have hm : ts_mt (D.1 8) L t = _ := if_neg (fun y => y.elim h8 h9)
        refine wp_zret dX5_readMargin_95 rfl (Or.inr rfl) ?_
        rw [hX, hs, hm]
        exact ⟨rfl, rfl⟩
      · have h9 := c1124
        refine wp_iconst (v := -1) dX5_readMargin_60 rfl ?_
        refine wp_goto (tgt := 65) dX5_readMargin_61 (by decide) ?_
        refine wp_istore_n (lv' := [(0, .ref 6), (1, .int t.2.2.1), (2, .int ((-1)))]) dX5_readMargin_65 rfl (by decide) rfl ?_
        refine wp_iload_n dX5_readMargin_66 rfl rfl ?_
        refine wp_if_eq (tgt := 77) dX5_readMargin_67 (by decide) (fun c1129 => absurd c1129 (by decide)) (fun _ => ?_)
        refine wp_aload_n dX5_readMargin_70 rfl rfl ?_
        refine wp_getR (r := 7) dX5_readMargin_71 fl_X5_21 (by decide) rfl rfl rfl ?_
        refine wp_callV (M2 := M_X4_step) (n := 0) (As := []) (st := []) dX5_readMargin_74 (c_X4_step g hRW (sr_Z D st fl ca cb dr) L (tkn (D.1 8) L t.2.2.1 t.2.2.2).1 (tkn (D.1 8) L t.2.2.1 t.2.2.2).2.1 (tkn (D.1 8) L t.2.2.1 t.2.2.2).2.2.1 (tkn (D.1 8) L t.2.2.1 t.2.2.2).2.2.2 hL h300 tok1122.2.2 tok1122.1 (by have := tok1122.2.1; omega)) ca_X5_41 ⟨nm_X4_step, by decide, by decide⟩ rfl (by decide) rfl rfl rfl (Nat.le_of_ble_eq_true rfl) (fun r1130 E1131 q1132 => ?_)
        rw [sr_Q_tk] at q1132
        obtain ⟨rfl, rfl⟩ := q1132
        show WP g _ _ _ _ _ _
        have tok1133 : tk_ok L (tkn (D.1 8) L (tkn (D.1 8) L t.2.2.1 t.2.2.2).2.2.1 (tkn (D.1 8) L t.2.2.1 t.2.2.2).2.2.2) := tkn_ok tok1122.2.2
        refine wp_aload_n dX5_readMargin_77 rfl rfl ?_
        refine wp_getR (r := 9) dX5_readMargin_78 fl_X5_28 (by decide) rfl rfl rfl ?_
        refine wp_aload_n dX5_readMargin_81 rfl rfl ?_
        refine wp_getI_n (n := ca) dX5_readMargin_82 fl_X5_32 (by decide) rfl rfl (rfl) ?_
        refine wp_aload_n dX5_readMargin_85 rfl rfl ?_
        refine wp_getI_n (n := cb) dX5_readMargin_86 fl_X5_35 (by decide) rfl rfl (rfl) ?_
        refine wp_iload_n dX5_readMargin_89 rfl rfl ?_
        refine wp_iload_n dX5_readMargin_90 rfl rfl ?_
        refine wp_callV (M2 := M_X3_append) (n := 4) (As := [.int (nI ca), .int (nI cb), .int t.2.2.1, .int ((-1))]) (st := []) dX5_readMargin_91 (c_X3_append9 g (sr_Q D (tkn (D.1 8) L (tkn (D.1 8) L t.2.2.1 t.2.2.2).2.2.1 (tkn (D.1 8) L t.2.2.1 t.2.2.2).2.2.2) st fl ca cb dr) r hr9 (by omega) (nI ca) (nI cb) t.2.2.1 ((-1))) ca_X5_99 ⟨nm_X3_append, by decide, by decide⟩ rfl (by decide) rfl rfl rfl (Nat.le_of_ble_eq_true rfl) (fun r1134 E1135 q1136 => ?_)
        rw [if_neg (show ¬ r = 12 by omega), sr_Q_app] at q1136
        obtain ⟨rfl, rfl⟩ := q1136
        show WP g _ _ _ _ _ _
        refine wp_iconst (v := nI 1) dX5_readMargin_94 rfl ?_
        have hX : (ts_mar (D.1 8) L t fl dr r ca cb) = _ := if_pos h1
        have hs : ts_sm (tkn (D.1 8) L t.2.2.1 t.2.2.2).1 = (-1) := (if_neg h8).trans (if_pos h9)
        have hm : ts_mt (D.1 8) L t = _ := if_pos (Or.inr h9)
        refine wp_zret dX5_readMargin_95 rfl (Or.inr rfl) ?_
        rw [hX, hs, hm]
        exact ⟨rfl, rfl⟩
    · have h8 := c1123
      refine wp_iconst (v := nI 1) dX5_readMargin_44 rfl ?_
      refine wp_goto (tgt := 65) dX5_readMargin_45 (by decide) ?_
      refine wp_istore_n (lv' := [(0, .ref 6), (1, .int t.2.2.1), (2, .int (nI 1))]) dX5_readMargin_65 rfl (by decide) rfl ?_
      refine wp_iload_n dX5_readMargin_66 rfl rfl ?_
      refine wp_if_eq (tgt := 77) dX5_readMargin_67 (by decide) (fun c1137 => absurd c1137 (by decide)) (fun _ => ?_)
      refine wp_aload_n dX5_readMargin_70 rfl rfl ?_
      refine wp_getR (r := 7) dX5_readMargin_71 fl_X5_21 (by decide) rfl rfl rfl ?_
      refine wp_callV (M2 := M_X4_step) (n := 0) (As := []) (st := []) dX5_readMargin_74 (c_X4_step g hRW (sr_Z D st fl ca cb dr) L (tkn (D.1 8) L t.2.2.1 t.2.2.2).1 (tkn (D.1 8) L t.2.2.1 t.2.2.2).2.1 (tkn (D.1 8) L t.2.2.1 t.2.2.2).2.2.1 (tkn (D.1 8) L t.2.2.1 t.2.2.2).2.2.2 hL h300 tok1122.2.2 tok1122.1 (by have := tok1122.2.1; omega)) ca_X5_41 ⟨nm_X4_step, by decide, by decide⟩ rfl (by decide) rfl rfl rfl (Nat.le_of_ble_eq_true rfl) (fun r1138 E1139 q1140 => ?_)
      rw [sr_Q_tk] at q1140
      obtain ⟨rfl, rfl⟩ := q1140
      show WP g _ _ _ _ _ _
      have tok1141 : tk_ok L (tkn (D.1 8) L (tkn (D.1 8) L t.2.2.1 t.2.2.2).2.2.1 (tkn (D.1 8) L t.2.2.1 t.2.2.2).2.2.2) := tkn_ok tok1122.2.2
      refine wp_aload_n dX5_readMargin_77 rfl rfl ?_
      refine wp_getR (r := 9) dX5_readMargin_78 fl_X5_28 (by decide) rfl rfl rfl ?_
      refine wp_aload_n dX5_readMargin_81 rfl rfl ?_
      refine wp_getI_n (n := ca) dX5_readMargin_82 fl_X5_32 (by decide) rfl rfl (rfl) ?_
      refine wp_aload_n dX5_readMargin_85 rfl rfl ?_
      refine wp_getI_n (n := cb) dX5_readMargin_86 fl_X5_35 (by decide) rfl rfl (rfl) ?_
      refine wp_iload_n dX5_readMargin_89 rfl rfl ?_
      refine wp_iload_n dX5_readMargin_90 rfl rfl ?_
      refine wp_callV (M2 := M_X3_append) (n := 4) (As := [.int (nI ca), .int (nI cb), .int t.2.2.1, .int (nI 1)]) (st := []) dX5_readMargin_91 (c_X3_append9 g (sr_Q D (tkn (D.1 8) L (tkn (D.1 8) L t.2.2.1 t.2.2.2).2.2.1 (tkn (D.1 8) L t.2.2.1 t.2.2.2).2.2.2) st fl ca cb dr) r hr9 (by omega) (nI ca) (nI cb) t.2.2.1 (nI 1)) ca_X5_99 ⟨nm_X3_append, by decide, by decide⟩ rfl (by decide) rfl rfl rfl (Nat.le_of_ble_eq_true rfl) (fun r1142 E1143 q1144 => ?_)
      rw [if_neg (show ¬ r = 12 by omega), sr_Q_app] at q1144
      obtain ⟨rfl, rfl⟩ := q1144
      show WP g _ _ _ _ _ _
      refine wp_iconst (v := nI 1) dX5_readMargin_94 rfl ?_
      have hX : (ts_mar (D.1 8) L t fl dr r ca cb) = _ := if_pos h1
      have hs : ts_sm (tkn (D.1 8) L t.2.2.1 t.2.2.2).1 = nI 1 := if_pos h8
      have hm : ts_mt (D.1 8) L t = _ := if_pos (Or.inl h8)
      refine wp_zret dX5_readMargin_95 rfl (Or.inr rfl) ?_
      rw [hX, hs, hm]
      exact ⟨rfl, rfl⟩
  · have h1 := c1118
    refine wp_aload_n dX5_readMargin_11 rfl rfl ?_
    refine wp_iconst (v := nI 1) dX5_readMargin_12 rfl ?_
    refine wp_callV (M2 := M_X5_refuse) (n := 1) (As := [.int (nI 1)]) (st := []) dX5_readMargin_13 (c_X5_refuse g D L t st fl ca cb dr hL 1 tok h300) ca_X5_57 ⟨nm_X5_refuse, by decide, by decide⟩ rfl (by decide) rfl rfl rfl (Nat.le_of_ble_eq_true rfl) (fun r1145 E1146 q1147 => ?_)
    obtain ⟨rfl, rfl⟩ := q1147
    show WP g _ _ _ (.int (nI 0) :: _) _ _
    have hX : (ts_mar (D.1 8) L t fl dr r ca cb) = _ := if_neg h1
    refine wp_zret dX5_readMargin_16 rfl (Or.inl rfl) ?_
    rw [hX]
    exact ⟨rfl, rfl⟩
set_option maxHeartbeats 400000 in
set_option maxRecDepth 100000 in
theorem c_X5_readCrew (g : sr_G) (hRW : cl_RW g) (D : sr_St) (L : Nat) (t : tk_T) (st fl ca cb : Nat) (dr : Nat → Nat → Int32) (hL : D.1 7 0 = nI L) (h300 : L ≤ 300) (tok : tk_ok L t) (n : Nat) (hn9 : dr 9 0 = nI n) (hn6 : n ≤ 6) (isA : Nat) (hA : isA ≤ 1) (hca : ca < 64) (hcb : cb < 64) : Con g M_X5_readCrew [.ref 6, .int (nI isA)] (sr_Q D t st fl ca cb dr) (fun qa D' => qa = some (.int (sr_b (ts_cr (D.1 8) L n isA t fl ca cb).1)) ∧ D' = sr_Q D (ts_cr (D.1 8) L n isA t fl ca cb).2.1 st (ts_cr (D.1 8) L n isA t fl ca cb).2.2.1 (ts_cr (D.1 8) L n isA t fl ca cb).2.2.2.1 (ts_cr (D.1 8) L n isA t fl ca cb).2.2.2.2 dr) := by
  refine Con.of pn_X5_readCrew (Nat.le_of_ble_eq_true rfl) ?_
  show WP g M_X5_readCrew 0 [(0, .ref 6), (1, .int (nI isA))] [] (sr_Q D t st fl ca cb dr) _
  have hL2 : ∀ m, m ≤ 6 → ∀ d (t : tk_T) (fl ca cb j : Nat), tk_ok L t → ca < 64 → cb < 64 → j + d = 1 + m → WP g M_X5_readCrew 35 [(0, .ref 6), (1, .int (nI isA)), (2, .int (nI m)), (3, .int (nI j))] [] (sr_Q D t st fl ca cb dr) (fun qa D' => qa = some (.int (sr_b (ts_cl (D.1 8) L n isA d t fl ca cb).1)) ∧ D' = sr_Q D (ts_cl (D.1 8) L n isA d t fl ca cb).2.1 st (ts_cl (D.1 8) L n isA d t fl ca cb).2.2.1 (ts_cl (D.1 8) L n isA d t fl ca cb).2.2.2.1 (ts_cl (D.1 8) L n isA d t fl ca cb).2.2.2.2 dr) := by
    intro m hm d
    induction d with
    | zero =>
      intro t fl ca cb j tok hca hcb hj
      have ht10 := tok.1
      refine wp_iload_n dX5_readCrew_35 rfl rfl ?_
      refine wp_iload_n dX5_readCrew_36 rfl rfl ?_
      refine wp_icmp_gt_n (tgt := 159) dX5_readCrew_37 (by decide) (by first | omega | (split <;> omega)) (by first | omega | (split <;> omega)) (fun c1148 => ?_) (fun c1148 => ?_)
      · refine wp_iconst (v := nI 1) dX5_readCrew_159 rfl ?_
        exact wp_zret dX5_readCrew_160 rfl (Or.inr rfl) ⟨rfl, rfl⟩
      · exact absurd c1148 (by omega)
    | succ d ih =>
      intro t fl ca cb j tok hca hcb hj
      have ht10 := tok.1
      refine wp_iload_n dX5_readCrew_35 rfl rfl ?_
      refine wp_iload_n dX5_readCrew_36 rfl rfl ?_
      refine wp_icmp_gt_n (tgt := 159) dX5_readCrew_37 (by decide) (by first | omega | (split <;> omega)) (by first | omega | (split <;> omega)) (fun c1149 => ?_) (fun c1149 => ?_)
      · exact absurd c1149 (by omega)
      · refine wp_aload_n dX5_readCrew_40 rfl rfl ?_
        refine wp_getR (r := 7) dX5_readCrew_41 fl_X5_21 (by decide) rfl rfl rfl ?_
        refine wp_getI_n (n := t.1) dX5_readCrew_44 fl_X5_44 (by decide) rfl rfl (rfl) ?_
        refine wp_iconst (v := nI 1) dX5_readCrew_47 rfl ?_
        refine wp_icmp_ne_n (tgt := 159) dX5_readCrew_48 (by decide) (by first | omega | (split <;> omega)) (by first | omega | (split <;> omega)) (fun c1150 => ?_) (fun c1150 => ?_)
        · have h1 := c1150
          refine wp_iconst (v := nI 1) dX5_readCrew_159 rfl ?_
          have hX : (ts_cl (D.1 8) L n isA (d + 1) t fl ca cb) = _ := if_neg h1
          refine wp_zret dX5_readCrew_160 rfl (Or.inr rfl) ?_
          rw [hX]
          exact ⟨rfl, rfl⟩
        · have h1 := c1150
          refine wp_aload_n dX5_readCrew_51 rfl rfl ?_
          refine wp_getR (r := 9) dX5_readCrew_52 fl_X5_28 (by decide) rfl rfl rfl ?_
          refine wp_aload_n dX5_readCrew_55 rfl rfl ?_
          refine wp_getR (r := 7) dX5_readCrew_56 fl_X5_21 (by decide) rfl rfl rfl ?_
          refine wp_getI dX5_readCrew_59 fl_X5_64 (by decide) rfl rfl ?_
          show WP g _ _ _ (.int t.2.2.1 :: _) _ _
          refine wp_callV (M2 := M_X3_hasRower) (n := 1) (As := [.int t.2.2.1]) (st := []) dX5_readCrew_62 (c_X3_hasRower9 g (sr_Q D t st fl ca cb dr) n hn9 (by omega) t.2.2.1) ca_X5_96 ⟨nm_X3_hasRower, by decide, by decide⟩ rfl (by decide) rfl rfl rfl (Nat.le_of_ble_eq_true rfl) (fun r1151 E1152 q1153 => ?_)
          obtain ⟨rfl, rfl⟩ := q1153
          show WP g _ _ _ (.int (sr_b (sr_row n t.2.2.1)) :: _) _ _
          refine wp_if_ne_b (tgt := 74) dX5_readCrew_65 (by decide) (fun c1154 => ?_) (fun c1154 => ?_)
          · have h2 := c1154
            obtain ⟨x0, hx0, hxe⟩ := (sr_row_n hn6).mp h2
            have hx : t.2.2.1 = nI t.2.2.1.toNatClampNeg := by rw [hxe, nI_clamp (by omega)]
            have hxl : t.2.2.1.toNatClampNeg < 6 := by rw [hxe, nI_clamp (by omega)]; omega
            have hpx : 2 ^ t.2.2.1.toNatClampNeg ≤ 32 := Nat.le_trans (Nat.pow_le_pow_right (by decide) (show t.2.2.1.toNatClampNeg ≤ 5 by omega)) (by decide)
            refine wp_iconst (v := nI 1) dX5_readCrew_74 rfl ?_
            refine wp_aload_n dX5_readCrew_75 rfl rfl ?_
            refine wp_getR (r := 7) dX5_readCrew_76 fl_X5_21 (by decide) rfl rfl rfl ?_
            refine wp_getI dX5_readCrew_79 fl_X5_64 (by decide) rfl rfl ?_
            show WP g _ _ _ (.int t.2.2.1 :: _) _ _
            refine wp_topeq hx ?_
            refine wp_ishl_n dX5_readCrew_82 (by omega) (sr_pw1 (by omega)) ?_
            refine wp_istore (lv' := [(0, .ref 6), (1, .int (nI isA)), (2, .int (nI m)), (3, .int (nI j)), (4, .int (nI (1 * 2 ^ t.2.2.1.toNatClampNeg)))]) dX5_readCrew_83 (by decide) rfl ?_
            refine wp_aload_n dX5_readCrew_85 rfl rfl ?_
            refine wp_getI_n (n := ca) dX5_readCrew_86 fl_X5_32 (by decide) rfl rfl (rfl) ?_
            refine wp_aload_n dX5_readCrew_89 rfl rfl ?_
            refine wp_getI_n (n := cb) dX5_readCrew_90 fl_X5_35 (by decide) rfl rfl (rfl) ?_
            refine wp_ior_n dX5_readCrew_93 ?_
            refine wp_iload dX5_readCrew_94 rfl ?_
            refine wp_iand_n dX5_readCrew_96 ?_
            refine wp_if_eq_n (tgt := 106) dX5_readCrew_97 (by decide) (Nat.lt_of_le_of_lt Nat.and_le_right (by omega)) (fun c1155 => ?_) (fun c1155 => ?_)
            · have h3 := c1155
              refine wp_iload_n dX5_readCrew_106 rfl rfl ?_
              refine wp_iload_n dX5_readCrew_107 rfl rfl ?_
              refine wp_icmp_ne_n (tgt := 117) dX5_readCrew_108 (by decide) (by first | omega | (split <;> omega)) (by first | omega | (split <;> omega)) (fun c1156 => ?_) (fun c1156 => ?_)
              · have h4 := c1156
                refine wp_iload_n dX5_readCrew_117 rfl rfl ?_
                refine wp_if_eq_n (tgt := 135) dX5_readCrew_118 (by decide) (by first | omega | (split <;> omega)) (fun c1157 => ?_) (fun c1157 => ?_)
                · have h5 := c1157
                  refine wp_aload_n dX5_readCrew_135 rfl rfl ?_
                  refine wp_dup dX5_readCrew_136 rfl ?_
                  refine wp_getI_n (n := cb) dX5_readCrew_137 fl_X5_35 (by decide) rfl rfl (rfl) ?_
                  refine wp_iload dX5_readCrew_140 rfl ?_
                  refine wp_ior_n dX5_readCrew_142 ?_
                  refine wp_putI dX5_readCrew_143 fl_X5_35 (by decide) rfl rfl ?_
                  rw [sr_Q_s5]
                  refine wp_aload_n dX5_readCrew_146 rfl rfl ?_
                  refine wp_getR (r := 7) dX5_readCrew_147 fl_X5_21 (by decide) rfl rfl rfl ?_
                  refine wp_callV (M2 := M_X4_step) (n := 0) (As := []) (st := []) dX5_readCrew_150 (c_X4_step g hRW (sr_Z D st fl ca (cb ||| (1 * 2 ^ t.2.2.1.toNatClampNeg)) dr) L t.1 t.2.1 t.2.2.1 t.2.2.2 hL h300 tok.2.2 tok.1 (by have := tok.2.1; omega)) ca_X5_41 ⟨nm_X4_step, by decide, by decide⟩ rfl (by decide) rfl rfl rfl (Nat.le_of_ble_eq_true rfl) (fun r1158 E1159 q1160 => ?_)
                  rw [sr_Q_tk] at q1160
                  obtain ⟨rfl, rfl⟩ := q1160
                  show WP g _ _ _ _ _ _
                  have tok1161 : tk_ok L (tkn (D.1 8) L t.2.2.1 t.2.2.2) := tkn_ok tok.2.2
                  refine wp_iinc_n (b := 1) (lv' := [(0, .ref 6), (1, .int (nI isA)), (2, .int (nI m)), (3, .int (nI (j + 1))), (4, .int (nI (1 * 2 ^ t.2.2.1.toNatClampNeg)))]) dX5_readCrew_153 rfl rfl (by decide) rfl ?_
                  refine wp_goto (tgt := 35) dX5_readCrew_156 (by decide) ?_
                  have hI0 : ¬ isA = 1 := by omega
                  have hX : (ts_cl (D.1 8) L n isA (d + 1) t fl ca cb) = _ := (if_pos h1).trans ((if_pos h2).trans ((if_pos h3).trans (if_neg (show ¬ d = 0 by omega))))
                  rw [if_neg hI0, if_neg hI0] at hX
                  rw [hX]
                  exact wp_pick [0, 1, 2, 3] rfl (ih (tkn (D.1 8) L t.2.2.1 t.2.2.2) fl ca (cb ||| (1 * 2 ^ t.2.2.1.toNatClampNeg)) (j + 1) tok1161 hca (Nat.or_lt_two_pow (n := 6) hcb (by omega)) (by omega))
                · have h5 := c1157
                  refine wp_aload_n dX5_readCrew_121 rfl rfl ?_
                  refine wp_dup dX5_readCrew_122 rfl ?_
                  refine wp_getI_n (n := ca) dX5_readCrew_123 fl_X5_32 (by decide) rfl rfl (rfl) ?_
                  refine wp_iload dX5_readCrew_126 rfl ?_
                  refine wp_ior_n dX5_readCrew_128 ?_
                  refine wp_putI dX5_readCrew_129 fl_X5_32 (by decide) rfl rfl ?_
                  rw [sr_Q_s4]
                  refine wp_goto (tgt := 146) dX5_readCrew_132 (by decide) ?_
                  refine wp_aload_n dX5_readCrew_146 rfl rfl ?_
                  refine wp_getR (r := 7) dX5_readCrew_147 fl_X5_21 (by decide) rfl rfl rfl ?_
                  refine wp_callV (M2 := M_X4_step) (n := 0) (As := []) (st := []) dX5_readCrew_150 (c_X4_step g hRW (sr_Z D st fl (ca ||| (1 * 2 ^ t.2.2.1.toNatClampNeg)) cb dr) L t.1 t.2.1 t.2.2.1 t.2.2.2 hL h300 tok.2.2 tok.1 (by have := tok.2.1; omega)) ca_X5_41 ⟨nm_X4_step, by decide, by decide⟩ rfl (by decide) rfl rfl rfl (Nat.le_of_ble_eq_true rfl) (fun r1162 E1163 q1164 => ?_)
                  rw [sr_Q_tk] at q1164
                  obtain ⟨rfl, rfl⟩ := q1164
                  show WP g _ _ _ _ _ _
                  have tok1165 : tk_ok L (tkn (D.1 8) L t.2.2.1 t.2.2.2) := tkn_ok tok.2.2
                  refine wp_iinc_n (b := 1) (lv' := [(0, .ref 6), (1, .int (nI isA)), (2, .int (nI m)), (3, .int (nI (j + 1))), (4, .int (nI (1 * 2 ^ t.2.2.1.toNatClampNeg)))]) dX5_readCrew_153 rfl rfl (by decide) rfl ?_
                  refine wp_goto (tgt := 35) dX5_readCrew_156 (by decide) ?_
                  have hI1 : isA = 1 := by omega
                  have hX : (ts_cl (D.1 8) L n isA (d + 1) t fl ca cb) = _ := (if_pos h1).trans ((if_pos h2).trans ((if_pos h3).trans (if_neg (show ¬ d = 0 by omega))))
                  rw [if_pos hI1, if_pos hI1] at hX
                  rw [hX]
                  exact wp_pick [0, 1, 2, 3] rfl (ih (tkn (D.1 8) L t.2.2.1 t.2.2.2) fl (ca ||| (1 * 2 ^ t.2.2.1.toNatClampNeg)) cb (j + 1) tok1165 (Nat.or_lt_two_pow (n := 6) hca (by omega)) hcb (by omega))
              · have h4 := c1156
                refine wp_aload_n dX5_readCrew_111 rfl rfl ?_
                refine wp_iconst (v := nI 4) dX5_readCrew_112 rfl ?_
                refine wp_callV (M2 := M_X5_refuse) (n := 1) (As := [.int (nI 4)]) (st := []) dX5_readCrew_113 (c_X5_refuse g D L t st fl ca cb dr hL 4 tok h300) ca_X5_57 ⟨nm_X5_refuse, by decide, by decide⟩ rfl (by decide) rfl rfl rfl (Nat.le_of_ble_eq_true rfl) (fun r1166 E1167 q1168 => ?_)
                obtain ⟨rfl, rfl⟩ := q1168
                show WP g _ _ _ (.int (nI 0) :: _) _ _
                have hX : (ts_cl (D.1 8) L n isA (d + 1) t fl ca cb) = _ := (if_pos h1).trans ((if_pos h2).trans ((if_pos h3).trans (if_pos (show d = 0 by omega))))
                refine wp_zret dX5_readCrew_116 rfl (Or.inl rfl) ?_
                rw [hX]
                exact ⟨rfl, rfl⟩
            · have h3 := c1155
              refine wp_aload_n dX5_readCrew_100 rfl rfl ?_
              refine wp_iconst (v := nI 3) dX5_readCrew_101 rfl ?_
              refine wp_callV (M2 := M_X5_refuse) (n := 1) (As := [.int (nI 3)]) (st := []) dX5_readCrew_102 (c_X5_refuse g D L t st fl ca cb dr hL 3 tok h300) ca_X5_57 ⟨nm_X5_refuse, by decide, by decide⟩ rfl (by decide) rfl rfl rfl (Nat.le_of_ble_eq_true rfl) (fun r1169 E1170 q1171 => ?_)
              obtain ⟨rfl, rfl⟩ := q1171
              show WP g _ _ _ (.int (nI 0) :: _) _ _
              have hX : (ts_cl (D.1 8) L n isA (d + 1) t fl ca cb) = _ := (if_pos h1).trans ((if_pos h2).trans (if_neg h3))
              refine wp_zret dX5_readCrew_105 rfl (Or.inl rfl) ?_
              rw [hX]
              exact ⟨rfl, rfl⟩
          · have h2 := c1154
            refine wp_aload_n dX5_readCrew_68 rfl rfl ?_
            refine wp_iconst (v := nI 2) dX5_readCrew_69 rfl ?_
            refine wp_callV (M2 := M_X5_refuse) (n := 1) (As := [.int (nI 2)]) (st := []) dX5_readCrew_70 (c_X5_refuse g D L t st fl ca cb dr hL 2 tok h300) ca_X5_57 ⟨nm_X5_refuse, by decide, by decide⟩ rfl (by decide) rfl rfl rfl (Nat.le_of_ble_eq_true rfl) (fun r1172 E1173 q1174 => ?_)
            obtain ⟨rfl, rfl⟩ := q1174
            show WP g _ _ _ (.int (nI 0) :: _) _ _
            have hX : (ts_cl (D.1 8) L n isA (d + 1) t fl ca cb) = _ := (if_pos h1).trans (if_neg (by rw [h2]; decide))
            refine wp_zret dX5_readCrew_73 rfl (Or.inl rfl) ?_
            rw [hX]
            exact ⟨rfl, rfl⟩
  refine wp_aload_n dX5_readCrew_0 rfl rfl ?_
  refine wp_getR (r := 7) dX5_readCrew_1 fl_X5_21 (by decide) rfl rfl rfl ?_
  refine wp_getI_n (n := t.1) dX5_readCrew_4 fl_X5_44 (by decide) rfl rfl (rfl) ?_
  refine wp_iconst (v := nI 1) dX5_readCrew_7 rfl ?_
  refine wp_icmp_eq_n (tgt := 17) dX5_readCrew_8 (by decide) (by have := tok.1; omega) (by first | omega | (split <;> omega)) (fun c1175 => ?_) (fun c1175 => ?_)
  · have h1 := c1175
    refine wp_iload_n dX5_readCrew_17 rfl rfl ?_
    refine wp_if_eq_n (tgt := 25) dX5_readCrew_18 (by decide) (by first | omega | (split <;> omega)) (fun c1176 => ?_) (fun c1176 => ?_)
    · have h5 := c1176
      refine wp_aload_n dX5_readCrew_25 rfl rfl ?_
      refine wp_getI_n (n := ca) dX5_readCrew_26 fl_X5_32 (by decide) rfl rfl (rfl) ?_
      refine wp_callS (M2 := M_J6_bitCount_0f7a4) (n := 1) (As := [.int (nI ca)]) (st := []) dX5_readCrew_29 (c_J6_bitCount_0f7a4 g ((sr_Q D t st fl ca cb dr)) (nI ca)) ca_X5_87 ⟨nm_J6_bitCount_0f7a4, by decide, by decide⟩ rfl rfl (Nat.le_of_ble_eq_true rfl) (fun r1177 E1178 q1179 => ?_)
      obtain ⟨rfl, rfl⟩ := q1179
      show WP g _ _ _ (.int (sr_bc (nI ca)) :: _) _ _
      rw [sr_bc_n ca hca]
      refine wp_istore_n (lv' := [(0, .ref 6), (1, .int (nI isA)), (2, .int (nI (sr_bits ca)))]) dX5_readCrew_32 rfl (by decide) rfl ?_
      refine wp_iconst (v := nI 0) dX5_readCrew_33 rfl ?_
      refine wp_istore_n (lv' := [(0, .ref 6), (1, .int (nI isA)), (2, .int (nI (sr_bits ca))), (3, .int (nI 0))]) dX5_readCrew_34 rfl (by decide) rfl ?_
      have hI0 : ¬ isA = 1 := by omega
      have hX : (ts_cr (D.1 8) L n isA t fl ca cb) = _ := if_pos h1
      rw [if_neg hI0] at hX
      rw [hX]
      exact hL2 (sr_bits ca) (sr_bits_b ca hca).1 (1 + sr_bits ca) t fl ca cb 0 tok hca hcb (by omega)
    · have h5 := c1176
      refine wp_iconst (v := nI 3) dX5_readCrew_21 rfl ?_
      refine wp_goto (tgt := 32) dX5_readCrew_22 (by decide) ?_
      refine wp_istore_n (lv' := [(0, .ref 6), (1, .int (nI isA)), (2, .int (nI 3))]) dX5_readCrew_32 rfl (by decide) rfl ?_
      refine wp_iconst (v := nI 0) dX5_readCrew_33 rfl ?_
      refine wp_istore_n (lv' := [(0, .ref 6), (1, .int (nI isA)), (2, .int (nI 3)), (3, .int (nI 0))]) dX5_readCrew_34 rfl (by decide) rfl ?_
      have hI1 : isA = 1 := by omega
      have hX : (ts_cr (D.1 8) L n isA t fl ca cb) = _ := if_pos h1
      rw [if_pos hI1] at hX
      rw [hX]
      exact hL2 3 (by decide) (1 + 3) t fl ca cb 0 tok hca hcb (by omega)
  · have h1 := c1175
    refine wp_aload_n dX5_readCrew_11 rfl rfl ?_
    refine wp_iconst (v := nI 1) dX5_readCrew_12 rfl ?_
    refine wp_callV (M2 := M_X5_refuse) (n := 1) (As := [.int (nI 1)]) (st := []) dX5_readCrew_13 (c_X5_refuse g D L t st fl ca cb dr hL 1 tok h300) ca_X5_57 ⟨nm_X5_refuse, by decide, by decide⟩ rfl (by decide) rfl rfl rfl (Nat.le_of_ble_eq_true rfl) (fun r1180 E1181 q1182 => ?_)
    obtain ⟨rfl, rfl⟩ := q1182
    show WP g _ _ _ (.int (nI 0) :: _) _ _
    have hX : (ts_cr (D.1 8) L n isA t fl ca cb) = _ := if_neg h1
    refine wp_zret dX5_readCrew_16 rfl (Or.inl rfl) ?_
    rw [hX]
    exact ⟨rfl, rfl⟩
