/-! ===== the teller ===== -/
abbrev tk_T : Type := Nat × Nat × Int32 × Nat
def sr_Z (D : sr_St) (st fl ca cb : Nat) (dr : Nat → Nat → Int32) : sr_St := (fun o => if o = 6 then (fun j => if j = 0 then nI st else if j = 1 then nI fl else if j = 4 then nI ca else if j = 5 then nI cb else D.1 6 j) else if 9 ≤ o ∧ o ≤ 13 then dr o else D.1 o, D.2)
def sr_Q (D : sr_St) (t : tk_T) (st fl ca cb : Nat) (dr : Nat → Nat → Int32) : sr_St := sr_R (sr_Z D st fl ca cb dr) t.1 t.2.1 t.2.2.1 t.2.2.2
def sr_u2 (dr : Nat → Nat → Int32) (o j : Nat) (x : Int32) : Nat → Nat → Int32 := fun p q => if p = o ∧ q = j then x else dr p q
/-- the next token behind e -/
def tkn (b : Nat → Int32) (L : Nat) (v : Int32) (e : Nat) : tk_T := (tk_k b L (sr_skip b L e), sr_skip b L e, tk_v b L (sr_skip b L e) v, tk_e b L (sr_skip b L e))
section QQ
variable {D : sr_St} {t : tk_T} {st fl ca cb x : Nat} {dr : Nat → Nat → Int32}
theorem sr_Q_tk {L : Nat} {v : Int32} {e : Nat} : sr_tk (sr_Z D st fl ca cb dr) L v e = sr_Q D (tkn (D.1 8) L v e) st fl ca cb dr := rfl
theorem sr_Q_s0 : sr_sI (sr_Q D t st fl ca cb dr) 6 0 (nI x) = sr_Q D t x fl ca cb dr := by
  refine sr_ext (fun o j => ?_) rfl
  rw [sr_sI_1]; unfold sr_Q sr_R sr_Z; by_cases e1 : o = 6 <;> by_cases e2 : j = 0 <;> simp [e1, e2]
theorem sr_Q_s1 : sr_sI (sr_Q D t st fl ca cb dr) 6 1 (nI x) = sr_Q D t st x ca cb dr := by
  refine sr_ext (fun o j => ?_) rfl
  rw [sr_sI_1]; unfold sr_Q sr_R sr_Z; by_cases e1 : o = 6 <;> by_cases e2 : j = 1 <;> simp [e1, e2]
theorem sr_Q_s4 : sr_sI (sr_Q D t st fl ca cb dr) 6 4 (nI x) = sr_Q D t st fl x cb dr := by
  refine sr_ext (fun o j => ?_) rfl
  rw [sr_sI_1]; unfold sr_Q sr_R sr_Z; by_cases e1 : o = 6 <;> by_cases e2 : j = 4 <;> simp [e1, e2]
theorem sr_Q_s5 : sr_sI (sr_Q D t st fl ca cb dr) 6 5 (nI x) = sr_Q D t st fl ca x dr := by
  refine sr_ext (fun o j => ?_) rfl
  rw [sr_sI_1]; unfold sr_Q sr_R sr_Z; by_cases e1 : o = 6 <;> by_cases e2 : j = 5 <;> simp [e1, e2]
theorem sr_Q_d {o j : Nat} {y : Int32} (h : 9 ≤ o ∧ o ≤ 13) : sr_sI (sr_Q D t st fl ca cb dr) o j y = sr_Q D t st fl ca cb (sr_u2 dr o j y) := by
  refine sr_ext (fun p q => ?_) rfl
  rw [sr_sI_1]; unfold sr_Q sr_R sr_Z sr_u2
  by_cases e1 : p = o
  · subst e1
    by_cases e2 : q = j
    · subst e2; simp [show ¬ p = 7 by omega, show ¬ p = 6 by omega, h]
    · simp [e2, show ¬ p = 7 by omega, show ¬ p = 6 by omega, h]
  · by_cases e3 : p = 7
    · simp [e1, e3]; intro h1; omega
    · by_cases e4 : p = 6
      · simp [e1, e3, e4]; intro h1; omega
      · by_cases e5 : 9 ≤ p ∧ p ≤ 13
        · simp [e1, e3, e4, e5]
        · simp [e1, e3, e4, e5]
end QQ
/-- the token is in its bounds -/
def tk_ok (L : Nat) (t : tk_T) : Prop := t.1 ≤ 10 ∧ t.2.1 ≤ L + 1 ∧ t.2.2.2 ≤ L + 1
theorem tkn_ok {b : Nat → Int32} {L : Nat} {v : Int32} {e : Nat} (he : e ≤ L + 1) : tk_ok L (tkn b L v e) := ⟨tk_k_le, (tk_e_le he).1, (tk_e_le he).2.1⟩
/-- what a part of the telling leaves: is it good, the token, the flaw, the crews, the draft -/
abbrev ts_X : Type := Bool × tk_T × Nat × (Nat → Nat → Int32)
def ts_beg (dr : Nat → Nat → Int32) (v : Int32) : Nat → Nat → Int32 := sr_u2 (sr_u2 dr 9 0 v) 9 2 (nI 0)
section TS
variable (b : Nat → Int32) (L : Nat)
def ts_rows (t : tk_T) (fl : Nat) (dr : Nat → Nat → Int32) : ts_X :=
  if (tkn b L t.2.2.1 t.2.2.2).1 = 1 then (if sr_isIn (tkn b L t.2.2.1 t.2.2.2).2.2.1 (nI 0) (nI 6) = true then (true, tkn b L (tkn b L t.2.2.1 t.2.2.2).2.2.1 (tkn b L t.2.2.1 t.2.2.2).2.2.2, fl, ts_beg dr (tkn b L t.2.2.1 t.2.2.2).2.2.1) else (false, tkn b L t.2.2.1 t.2.2.2, 2 + 8 * (tkn b L t.2.2.1 t.2.2.2).2.1, dr)) else (false, tkn b L t.2.2.1 t.2.2.2, 1 + 8 * (tkn b L t.2.2.1 t.2.2.2).2.1, dr)
def ts_bnd (t : tk_T) (fl : Nat) (dr : Nat → Nat → Int32) : ts_X :=
  if (tkn b L t.2.2.1 t.2.2.2).1 = 1 then (if sr_isIn (tkn b L t.2.2.1 t.2.2.2).2.2.1 (nI 1) (nI 99) = true then (true, tkn b L (tkn b L t.2.2.1 t.2.2.2).2.2.1 (tkn b L t.2.2.1 t.2.2.2).2.2.2, fl, sr_u2 dr 9 1 (tkn b L t.2.2.1 t.2.2.2).2.2.1) else (false, tkn b L t.2.2.1 t.2.2.2, 2 + 8 * (tkn b L t.2.2.1 t.2.2.2).2.1, dr)) else (false, tkn b L t.2.2.1 t.2.2.2, 1 + 8 * (tkn b L t.2.2.1 t.2.2.2).2.1, dr)
end TS
set_option maxHeartbeats 400000 in
set_option maxRecDepth 100000 in
theorem c_X5_refuse (g : sr_G) (D : sr_St) (L : Nat) (t : tk_T) (st fl ca cb : Nat) (dr : Nat → Nat → Int32) (hL : D.1 7 0 = nI L) (kd : Nat) (tok : tk_ok L t) (h300 : L ≤ 300) : Con g M_X5_refuse [.ref 6, .int (nI kd)] (sr_Q D t st fl ca cb dr) (sr_ret (some (.int (nI 0))) (sr_Q D t st (kd + 8 * t.2.1) ca cb dr)) := by
  refine Con.of pn_X5_refuse (Nat.le_of_ble_eq_true rfl) ?_
  show WP g M_X5_refuse 0 [(0, .ref 6), (1, .int (nI kd))] [] (sr_Q D t st fl ca cb dr) _
  refine wp_aload_n dX5_refuse_0 rfl rfl ?_
  refine wp_iload_n dX5_refuse_1 rfl rfl ?_
  refine wp_bipush (v := nI 8) dX5_refuse_2 rfl ?_
  refine wp_aload_n dX5_refuse_4 rfl rfl ?_
  refine wp_getR (r := 7) dX5_refuse_5 fl_X5_21 (by decide) rfl rfl rfl ?_
  refine wp_getI_n (n := t.2.1) dX5_refuse_8 fl_X5_61 (by decide) rfl rfl (rfl) ?_
  refine wp_imul_n dX5_refuse_11 ?_
  refine wp_iadd_n dX5_refuse_12 ?_
  refine wp_putI dX5_refuse_13 fl_X5_15 (by decide) rfl rfl ?_
  rw [sr_Q_s1]
  refine wp_iconst (v := nI 0) dX5_refuse_16 rfl ?_
  exact wp_zret dX5_refuse_17 rfl (Or.inl rfl) ⟨rfl, rfl⟩
set_option maxHeartbeats 400000 in
set_option maxRecDepth 100000 in
theorem c_X5_readRowers (g : sr_G) (hRW : cl_RW g) (D : sr_St) (L : Nat) (t : tk_T) (st fl ca cb : Nat) (dr : Nat → Nat → Int32) (hL : D.1 7 0 = nI L) (h300 : L ≤ 300) (tok : tk_ok L t)  : Con g M_X5_readRowers [.ref 6] (sr_Q D t st fl ca cb dr) (fun qa D' => qa = some (.int (sr_b (ts_rows (D.1 8) L t fl dr).1)) ∧ D' = sr_Q D (ts_rows (D.1 8) L t fl dr).2.1 st (ts_rows (D.1 8) L t fl dr).2.2.1 ca cb (ts_rows (D.1 8) L t fl dr).2.2.2) := by
  refine Con.of pn_X5_readRowers (Nat.le_of_ble_eq_true rfl) ?_
  show WP g M_X5_readRowers 0 [(0, .ref 6)] [] (sr_Q D t st fl ca cb dr) _
  refine wp_aload_n dX5_readRowers_0 rfl rfl ?_
  refine wp_getR (r := 7) dX5_readRowers_1 fl_X5_21 (by decide) rfl rfl rfl ?_
  refine wp_callV (M2 := M_X4_step) (n := 0) (As := []) (st := []) dX5_readRowers_4 (c_X4_step g hRW (sr_Z D st fl ca cb dr) L t.1 t.2.1 t.2.2.1 t.2.2.2 hL h300 tok.2.2 tok.1 (by have := tok.2.1; omega)) ca_X5_41 ⟨nm_X4_step, by decide, by decide⟩ rfl (by decide) rfl rfl rfl (Nat.le_of_ble_eq_true rfl) (fun r1077 E1078 q1079 => ?_)
  rw [sr_Q_tk] at q1079
  obtain ⟨rfl, rfl⟩ := q1079
  show WP g _ _ _ _ _ _
  have tok1080 : tk_ok L (tkn (D.1 8) L t.2.2.1 t.2.2.2) := tkn_ok tok.2.2
  refine wp_aload_n dX5_readRowers_7 rfl rfl ?_
  refine wp_getR (r := 7) dX5_readRowers_8 fl_X5_21 (by decide) rfl rfl rfl ?_
  refine wp_getI_n (n := (tkn (D.1 8) L t.2.2.1 t.2.2.2).1) dX5_readRowers_11 fl_X5_44 (by decide) rfl rfl (rfl) ?_
  refine wp_iconst (v := nI 1) dX5_readRowers_14 rfl ?_
  refine wp_icmp_eq_n (tgt := 24) dX5_readRowers_15 (by decide) (by have := tok; have := tkn_ok (b := D.1 8) (v := t.2.2.1) tok.2.2; have := this.1; omega) (by first | omega | (split <;> omega)) (fun c1081 => ?_) (fun c1081 => ?_)
  · have h1 := c1081
    refine wp_aload_n dX5_readRowers_24 rfl rfl ?_
    refine wp_getR (r := 7) dX5_readRowers_25 fl_X5_21 (by decide) rfl rfl rfl ?_
    refine wp_getI dX5_readRowers_28 fl_X5_64 (by decide) rfl rfl ?_
    show WP g _ _ _ (.int ((tkn (D.1 8) L t.2.2.1 t.2.2.2).2.2.1) :: _) _ _
    refine wp_callS (M2 := M_X3_isRowerCount) (n := 1) (As := [.int ((tkn (D.1 8) L t.2.2.1 t.2.2.2).2.2.1)]) (st := []) dX5_readRowers_31 (c_X3_isRowerCount g ((sr_Q D (tkn (D.1 8) L t.2.2.1 t.2.2.2) st fl ca cb dr)) ((tkn (D.1 8) L t.2.2.1 t.2.2.2).2.2.1)) ca_X5_67 ⟨nm_X3_isRowerCount, by decide, by decide⟩ rfl rfl (Nat.le_of_ble_eq_true rfl) (fun r1082 E1083 q1084 => ?_)
    obtain ⟨rfl, rfl⟩ := q1084
    show WP g _ _ _ (.int (sr_b (sr_isIn ((tkn (D.1 8) L t.2.2.1 t.2.2.2).2.2.1) (nI 0) (nI 6))) :: _) _ _
    refine wp_if_ne_b (tgt := 43) dX5_readRowers_34 (by decide) (fun c1085 => ?_) (fun c1085 => ?_)
    · have h2 := c1085
      refine wp_aload_n dX5_readRowers_43 rfl rfl ?_
      refine wp_getR (r := 9) dX5_readRowers_44 fl_X5_28 (by decide) rfl rfl rfl ?_
      refine wp_aload_n dX5_readRowers_47 rfl rfl ?_
      refine wp_getR (r := 7) dX5_readRowers_48 fl_X5_21 (by decide) rfl rfl rfl ?_
      refine wp_getI dX5_readRowers_51 fl_X5_64 (by decide) rfl rfl ?_
      show WP g _ _ _ (.int ((tkn (D.1 8) L t.2.2.1 t.2.2.2).2.2.1) :: _) _ _
      refine wp_callV (M2 := M_X3_begin) (n := 1) (As := [.int ((tkn (D.1 8) L t.2.2.1 t.2.2.2).2.2.1)]) (st := []) dX5_readRowers_54 (c_X3_begin9 g (sr_Q D (tkn (D.1 8) L t.2.2.1 t.2.2.2) st fl ca cb dr) ((tkn (D.1 8) L t.2.2.1 t.2.2.2).2.2.1)) ca_X5_70 ⟨nm_X3_begin, by decide, by decide⟩ rfl (by decide) rfl rfl rfl (Nat.le_of_ble_eq_true rfl) (fun r1086 E1087 q1088 => ?_)
      rw [sr_Q_d (by decide), sr_Q_d (by decide)] at q1088
      obtain ⟨rfl, rfl⟩ := q1088
      show WP g _ _ _ _ _ _
      show WP g _ _ _ _ (sr_Q D (tkn (D.1 8) L t.2.2.1 t.2.2.2) st fl ca cb (ts_beg dr ((tkn (D.1 8) L t.2.2.1 t.2.2.2).2.2.1))) _
      refine wp_aload_n dX5_readRowers_57 rfl rfl ?_
      refine wp_getR (r := 7) dX5_readRowers_58 fl_X5_21 (by decide) rfl rfl rfl ?_
      refine wp_callV (M2 := M_X4_step) (n := 0) (As := []) (st := []) dX5_readRowers_61 (c_X4_step g hRW (sr_Z D st fl ca cb (ts_beg dr ((tkn (D.1 8) L t.2.2.1 t.2.2.2).2.2.1))) L (tkn (D.1 8) L t.2.2.1 t.2.2.2).1 (tkn (D.1 8) L t.2.2.1 t.2.2.2).2.1 (tkn (D.1 8) L t.2.2.1 t.2.2.2).2.2.1 (tkn (D.1 8) L t.2.2.1 t.2.2.2).2.2.2 hL h300 tok1080.2.2 tok1080.1 (by have := tok1080.2.1; omega)) ca_X5_41 ⟨nm_X4_step, by decide, by decide⟩ rfl (by decide) rfl rfl rfl (Nat.le_of_ble_eq_true rfl) (fun r1089 E1090 q1091 => ?_)
      rw [sr_Q_tk] at q1091
      obtain ⟨rfl, rfl⟩ := q1091
      show WP g _ _ _ _ _ _
      have tok1092 : tk_ok L (tkn (D.1 8) L (tkn (D.1 8) L t.2.2.1 t.2.2.2).2.2.1 (tkn (D.1 8) L t.2.2.1 t.2.2.2).2.2.2) := tkn_ok tok1080.2.2
      refine wp_iconst (v := nI 1) dX5_readRowers_64 rfl ?_
      have hX : (ts_rows (D.1 8) L t fl dr) = _ := (if_pos h1).trans (if_pos h2)
      refine wp_zret dX5_readRowers_65 rfl (Or.inr rfl) ?_
      rw [hX]
      exact ⟨rfl, rfl⟩
    · have h2 := c1085
      refine wp_aload_n dX5_readRowers_37 rfl rfl ?_
      refine wp_iconst (v := nI 2) dX5_readRowers_38 rfl ?_
      refine wp_callV (M2 := M_X5_refuse) (n := 1) (As := [.int (nI 2)]) (st := []) dX5_readRowers_39 (c_X5_refuse g D L (tkn (D.1 8) L t.2.2.1 t.2.2.2) st fl ca cb dr hL 2 tok1080 h300) ca_X5_57 ⟨nm_X5_refuse, by decide, by decide⟩ rfl (by decide) rfl rfl rfl (Nat.le_of_ble_eq_true rfl) (fun r1093 E1094 q1095 => ?_)
      obtain ⟨rfl, rfl⟩ := q1095
      show WP g _ _ _ (.int (nI 0) :: _) _ _
      have hX : (ts_rows (D.1 8) L t fl dr) = _ := (if_pos h1).trans (if_neg (by rw [h2]; decide))
      refine wp_zret dX5_readRowers_42 rfl (Or.inl rfl) ?_
      rw [hX]
      exact ⟨rfl, rfl⟩
  · have h1 := c1081
    refine wp_aload_n dX5_readRowers_18 rfl rfl ?_
    refine wp_iconst (v := nI 1) dX5_readRowers_19 rfl ?_
    refine wp_callV (M2 := M_X5_refuse) (n := 1) (As := [.int (nI 1)]) (st := []) dX5_readRowers_20 (c_X5_refuse g D L (tkn (D.1 8) L t.2.2.1 t.2.2.2) st fl ca cb dr hL 1 tok1080 h300) ca_X5_57 ⟨nm_X5_refuse, by decide, by decide⟩ rfl (by decide) rfl rfl rfl (Nat.le_of_ble_eq_true rfl) (fun r1096 E1097 q1098 => ?_)
    obtain ⟨rfl, rfl⟩ := q1098
    show WP g _ _ _ (.int (nI 0) :: _) _ _
    have hX : (ts_rows (D.1 8) L t fl dr) = _ := if_neg h1
    refine wp_zret dX5_readRowers_23 rfl (Or.inl rfl) ?_
    rw [hX]
    exact ⟨rfl, rfl⟩
set_option maxHeartbeats 400000 in
set_option maxRecDepth 100000 in
theorem c_X5_readBound (g : sr_G) (hRW : cl_RW g) (D : sr_St) (L : Nat) (t : tk_T) (st fl ca cb : Nat) (dr : Nat → Nat → Int32) (hL : D.1 7 0 = nI L) (h300 : L ≤ 300) (tok : tk_ok L t)  : Con g M_X5_readBound [.ref 6] (sr_Q D t st fl ca cb dr) (fun qa D' => qa = some (.int (sr_b (ts_bnd (D.1 8) L t fl dr).1)) ∧ D' = sr_Q D (ts_bnd (D.1 8) L t fl dr).2.1 st (ts_bnd (D.1 8) L t fl dr).2.2.1 ca cb (ts_bnd (D.1 8) L t fl dr).2.2.2) := by
  refine Con.of pn_X5_readBound (Nat.le_of_ble_eq_true rfl) ?_
  show WP g M_X5_readBound 0 [(0, .ref 6)] [] (sr_Q D t st fl ca cb dr) _
  refine wp_aload_n dX5_readBound_0 rfl rfl ?_
  refine wp_getR (r := 7) dX5_readBound_1 fl_X5_21 (by decide) rfl rfl rfl ?_
  refine wp_callV (M2 := M_X4_step) (n := 0) (As := []) (st := []) dX5_readBound_4 (c_X4_step g hRW (sr_Z D st fl ca cb dr) L t.1 t.2.1 t.2.2.1 t.2.2.2 hL h300 tok.2.2 tok.1 (by have := tok.2.1; omega)) ca_X5_41 ⟨nm_X4_step, by decide, by decide⟩ rfl (by decide) rfl rfl rfl (Nat.le_of_ble_eq_true rfl) (fun r1099 E1100 q1101 => ?_)
  rw [sr_Q_tk] at q1101
  obtain ⟨rfl, rfl⟩ := q1101
  show WP g _ _ _ _ _ _
  have tok1102 : tk_ok L (tkn (D.1 8) L t.2.2.1 t.2.2.2) := tkn_ok tok.2.2
  refine wp_aload_n dX5_readBound_7 rfl rfl ?_
  refine wp_getR (r := 7) dX5_readBound_8 fl_X5_21 (by decide) rfl rfl rfl ?_
  refine wp_getI_n (n := (tkn (D.1 8) L t.2.2.1 t.2.2.2).1) dX5_readBound_11 fl_X5_44 (by decide) rfl rfl (rfl) ?_
  refine wp_iconst (v := nI 1) dX5_readBound_14 rfl ?_
  refine wp_icmp_eq_n (tgt := 24) dX5_readBound_15 (by decide) (by have := tok; have := tkn_ok (b := D.1 8) (v := t.2.2.1) tok.2.2; have := this.1; omega) (by first | omega | (split <;> omega)) (fun c1103 => ?_) (fun c1103 => ?_)
  · have h1 := c1103
    refine wp_aload_n dX5_readBound_24 rfl rfl ?_
    refine wp_getR (r := 7) dX5_readBound_25 fl_X5_21 (by decide) rfl rfl rfl ?_
    refine wp_getI dX5_readBound_28 fl_X5_64 (by decide) rfl rfl ?_
    show WP g _ _ _ (.int ((tkn (D.1 8) L t.2.2.1 t.2.2.2).2.2.1) :: _) _ _
    refine wp_callS (M2 := M_X3_isBound) (n := 1) (As := [.int ((tkn (D.1 8) L t.2.2.1 t.2.2.2).2.2.1)]) (st := []) dX5_readBound_31 (c_X3_isBound g ((sr_Q D (tkn (D.1 8) L t.2.2.1 t.2.2.2) st fl ca cb dr)) ((tkn (D.1 8) L t.2.2.1 t.2.2.2).2.2.1)) ca_X5_74 ⟨nm_X3_isBound, by decide, by decide⟩ rfl rfl (Nat.le_of_ble_eq_true rfl) (fun r1104 E1105 q1106 => ?_)
    obtain ⟨rfl, rfl⟩ := q1106
    show WP g _ _ _ (.int (sr_b (sr_isIn ((tkn (D.1 8) L t.2.2.1 t.2.2.2).2.2.1) (nI 1) (nI 99))) :: _) _ _
    refine wp_if_ne_b (tgt := 43) dX5_readBound_34 (by decide) (fun c1107 => ?_) (fun c1107 => ?_)
    · have h2 := c1107
      refine wp_aload_n dX5_readBound_43 rfl rfl ?_
      refine wp_getR (r := 9) dX5_readBound_44 fl_X5_28 (by decide) rfl rfl rfl ?_
      refine wp_aload_n dX5_readBound_47 rfl rfl ?_
      refine wp_getR (r := 7) dX5_readBound_48 fl_X5_21 (by decide) rfl rfl rfl ?_
      refine wp_getI dX5_readBound_51 fl_X5_64 (by decide) rfl rfl ?_
      show WP g _ _ _ (.int ((tkn (D.1 8) L t.2.2.1 t.2.2.2).2.2.1) :: _) _ _
      refine wp_putI dX5_readBound_54 fl_X5_77 (by decide) rfl rfl ?_
      rw [sr_Q_d (by decide)]
      refine wp_aload_n dX5_readBound_57 rfl rfl ?_
      refine wp_getR (r := 7) dX5_readBound_58 fl_X5_21 (by decide) rfl rfl rfl ?_
      refine wp_callV (M2 := M_X4_step) (n := 0) (As := []) (st := []) dX5_readBound_61 (c_X4_step g hRW (sr_Z D st fl ca cb (sr_u2 dr 9 1 ((tkn (D.1 8) L t.2.2.1 t.2.2.2).2.2.1))) L (tkn (D.1 8) L t.2.2.1 t.2.2.2).1 (tkn (D.1 8) L t.2.2.1 t.2.2.2).2.1 (tkn (D.1 8) L t.2.2.1 t.2.2.2).2.2.1 (tkn (D.1 8) L t.2.2.1 t.2.2.2).2.2.2 hL h300 tok1102.2.2 tok1102.1 (by have := tok1102.2.1; omega)) ca_X5_41 ⟨nm_X4_step, by decide, by decide⟩ rfl (by decide) rfl rfl rfl (Nat.le_of_ble_eq_true rfl) (fun r1108 E1109 q1110 => ?_)
      rw [sr_Q_tk] at q1110
      obtain ⟨rfl, rfl⟩ := q1110
      show WP g _ _ _ _ _ _
      have tok1111 : tk_ok L (tkn (D.1 8) L (tkn (D.1 8) L t.2.2.1 t.2.2.2).2.2.1 (tkn (D.1 8) L t.2.2.1 t.2.2.2).2.2.2) := tkn_ok tok1102.2.2
      refine wp_iconst (v := nI 1) dX5_readBound_64 rfl ?_
      have hX : (ts_bnd (D.1 8) L t fl dr) = _ := (if_pos h1).trans (if_pos h2)
      refine wp_zret dX5_readBound_65 rfl (Or.inr rfl) ?_
      rw [hX]
      exact ⟨rfl, rfl⟩
    · have h2 := c1107
      refine wp_aload_n dX5_readBound_37 rfl rfl ?_
      refine wp_iconst (v := nI 2) dX5_readBound_38 rfl ?_
      refine wp_callV (M2 := M_X5_refuse) (n := 1) (As := [.int (nI 2)]) (st := []) dX5_readBound_39 (c_X5_refuse g D L (tkn (D.1 8) L t.2.2.1 t.2.2.2) st fl ca cb dr hL 2 tok1102 h300) ca_X5_57 ⟨nm_X5_refuse, by decide, by decide⟩ rfl (by decide) rfl rfl rfl (Nat.le_of_ble_eq_true rfl) (fun r1112 E1113 q1114 => ?_)
      obtain ⟨rfl, rfl⟩ := q1114
      show WP g _ _ _ (.int (nI 0) :: _) _ _
      have hX : (ts_bnd (D.1 8) L t fl dr) = _ := (if_pos h1).trans (if_neg (by rw [h2]; decide))
      refine wp_zret dX5_readBound_42 rfl (Or.inl rfl) ?_
      rw [hX]
      exact ⟨rfl, rfl⟩
  · have h1 := c1103
    refine wp_aload_n dX5_readBound_18 rfl rfl ?_
    refine wp_iconst (v := nI 1) dX5_readBound_19 rfl ?_
    refine wp_callV (M2 := M_X5_refuse) (n := 1) (As := [.int (nI 1)]) (st := []) dX5_readBound_20 (c_X5_refuse g D L (tkn (D.1 8) L t.2.2.1 t.2.2.2) st fl ca cb dr hL 1 tok1102 h300) ca_X5_57 ⟨nm_X5_refuse, by decide, by decide⟩ rfl (by decide) rfl rfl rfl (Nat.le_of_ble_eq_true rfl) (fun r1115 E1116 q1117 => ?_)
    obtain ⟨rfl, rfl⟩ := q1117
    show WP g _ _ _ (.int (nI 0) :: _) _ _
    have hX : (ts_bnd (D.1 8) L t fl dr) = _ := if_neg h1
    refine wp_zret dX5_readBound_23 rfl (Or.inl rfl) ?_
    rw [hX]
    exact ⟨rfl, rfl⟩
