/-- the words: 4 crew, 5 limit, 6 race, 7 by, 8 up, 9 down, 10 any other -/
def tk_is (b : Nat → Int32) (p e : Nat) (w : List Nat) : Bool := decide (e - p = w.length) && (List.range w.length).all (fun i => decide (b (p + i) = nI (w.getD i 0)))
def tk_wk (b : Nat → Int32) (p e : Nat) : Nat :=
  if tk_is b p e [99, 114, 101, 119] = true then 4 else if tk_is b p e [108, 105, 109, 105, 116] = true then 5 else if tk_is b p e [114, 97, 99, 101] = true then 6
  else if tk_is b p e [98, 121] = true then 7 else if tk_is b p e [117, 112] = true then 8 else if tk_is b p e [100, 111, 119, 110] = true then 9 else 10
/-- what is owed for a word (strings are constants of the machine) -/
def cl_RW (g : sr_G) : Prop := ∀ (D : sr_St) (L k p : Nat) (v : Int32), D.1 7 0 = nI L → L ≤ 300 → p < L → k ≤ 10 → Con g M_X4_readWord [.ref 7] (sr_R D k p v p) (sr_ret none (sr_R D (tk_wk (D.1 8) p (sr_wend (D.1 8) L p)) p v (sr_wend (D.1 8) L p)))
/-- the next token: its place is sr_skip b L e -/
def tk_k (b : Nat → Int32) (L p : Nat) : Nat := if L ≤ p then 0 else if sr_letter (b p) = true then tk_wk b p (sr_wend b L p) else if sr_digit (b p) = true ∨ b p = nI 45 then tk_nk b L p else if b p = nI 59 then 2 else if b p = nI 58 then 3 else 10
def tk_v (b : Nat → Int32) (L p : Nat) (v : Int32) : Int32 := if L ≤ p then v else if sr_letter (b p) = true then v else if sr_digit (b p) = true ∨ b p = nI 45 then tk_nv b L p else v
def tk_e (b : Nat → Int32) (L p : Nat) : Nat := if L ≤ p then p else if sr_letter (b p) = true then sr_wend b L p else if sr_digit (b p) = true ∨ b p = nI 45 then sr_numE b L p else p + 1
def sr_tk (D : sr_St) (L : Nat) (v : Int32) (e : Nat) : sr_St := sr_R D (tk_k (D.1 8) L (sr_skip (D.1 8) L e)) (sr_skip (D.1 8) L e) (tk_v (D.1 8) L (sr_skip (D.1 8) L e) v) (tk_e (D.1 8) L (sr_skip (D.1 8) L e))
set_option maxHeartbeats 400000 in
set_option maxRecDepth 100000 in
theorem c_X4_rewind (g : sr_G) (D : sr_St) (L k p : Nat) (v : Int32) (e : Nat) (hL : D.1 7 0 = nI L) : Con g M_X4_rewind [.ref 7] (sr_R D k p v e) (sr_ret none (sr_R D k p v 0)) := by
  refine Con.of pn_X4_rewind (Nat.le_of_ble_eq_true rfl) ?_
  show WP g M_X4_rewind 0 [(0, .ref 7)] [] (sr_R D k p v e) _
  refine wp_aload_n dX4_rewind_0 rfl rfl ?_
  refine wp_iconst (v := nI 0) dX4_rewind_1 rfl ?_
  refine wp_putI dX4_rewind_2 fl_X4_24 (by decide) rfl rfl ?_
  rw [sr_R_s4]
  exact wp_vret dX4_rewind_5 rfl ⟨rfl, rfl⟩
set_option maxHeartbeats 400000 in
set_option maxRecDepth 100000 in
theorem c_X4_step (g : sr_G) (hRW : cl_RW g) (D : sr_St) (L k p : Nat) (v : Int32) (e : Nat) (hL : D.1 7 0 = nI L) (h300 : L ≤ 300) (he : e ≤ L + 1) (hk : k ≤ 10) (hp : p ≤ 400) : Con g M_X4_step [.ref 7] (sr_R D k p v e) (sr_ret none (sr_tk D L v e)) := by
  refine Con.of pn_X4_step (Nat.le_of_ble_eq_true rfl) ?_
  show WP g M_X4_step 0 [(0, .ref 7)] [] (sr_R D k p v e) _
  have h60 : ∀ i, i = (sr_skip (D.1 8) L e) → i ≤ L + 1 → WP g M_X4_step 60 [(0, .ref 7)] [] (sr_R D k i v e) (sr_ret none (sr_tk D L v e)) := by
    intro i hi hiL
    unfold sr_tk
    rw [← hi]
    refine wp_aload_n dX4_step_60 rfl rfl ?_
    refine wp_aload_n dX4_step_61 rfl rfl ?_
    refine wp_getI_n (n := i) dX4_step_62 fl_X4_18 (by decide) rfl rfl (sr_R_2) ?_
    refine wp_putI dX4_step_65 fl_X4_24 (by decide) rfl rfl ?_
    rw [sr_R_s4]
    refine wp_aload_n dX4_step_68 rfl rfl ?_
    refine wp_getI_n (n := i) dX4_step_69 fl_X4_18 (by decide) rfl rfl (sr_R_2) ?_
    refine wp_aload_n dX4_step_72 rfl rfl ?_
    refine wp_getI_n (n := L) dX4_step_73 fl_X4_9 (by decide) rfl rfl (sr_R_0 hL) ?_
    refine wp_icmp_lt_n (tgt := 87) dX4_step_76 (by decide) (by first | omega | (split <;> omega)) (by first | omega | (split <;> omega)) (fun c1053 => ?_) (fun c1053 => ?_)
    · have hil := c1053
      refine wp_aload_n dX4_step_87 rfl rfl ?_
      refine wp_getR (r := 8) dX4_step_88 fl_X4_27 (by decide) rfl rfl rfl ?_
      refine wp_aload_n dX4_step_91 rfl rfl ?_
      refine wp_getI_n (n := i) dX4_step_92 fl_X4_18 (by decide) rfl rfl (sr_R_2) ?_
      refine wp_bald dX4_step_95 (by decide) rfl (show _ < 300 by omega) (by first | omega | (split <;> omega)) ?_
      rw [sr_R_8]
      refine wp_callS (M2 := M_X4_isLetter) (n := 1) (As := [.int (D.1 8 i)]) (st := []) dX4_step_96 (c_X4_isLetter g ((sr_R D k i v i)) (D.1 8 i)) ca_X4_31 ⟨nm_X4_isLetter, by decide, by decide⟩ rfl rfl (Nat.le_of_ble_eq_true rfl) (fun r1054 E1055 q1056 => ?_)
      obtain ⟨rfl, rfl⟩ := q1056
      show WP g _ _ _ (.int (sr_b (sr_letter (D.1 8 i))) :: _) _ _
      refine wp_if_eq_b (tgt := 109) dX4_step_99 (by decide) (fun c1057 => ?_) (fun c1057 => ?_)
      · have hlet := c1057
        refine wp_aload_n dX4_step_109 rfl rfl ?_
        refine wp_getR (r := 8) dX4_step_110 fl_X4_27 (by decide) rfl rfl rfl ?_
        refine wp_aload_n dX4_step_113 rfl rfl ?_
        refine wp_getI_n (n := i) dX4_step_114 fl_X4_18 (by decide) rfl rfl (sr_R_2) ?_
        refine wp_bald dX4_step_117 (by decide) rfl (show _ < 300 by omega) (by first | omega | (split <;> omega)) ?_
        rw [sr_R_8]
        refine wp_callS (M2 := M_X4_isDigit) (n := 1) (As := [.int (D.1 8 i)]) (st := []) dX4_step_118 (c_X4_isDigit g ((sr_R D k i v i)) (D.1 8 i)) ca_X4_38 ⟨nm_X4_isDigit, by decide, by decide⟩ rfl rfl (Nat.le_of_ble_eq_true rfl) (fun r1058 E1059 q1060 => ?_)
        obtain ⟨rfl, rfl⟩ := q1060
        show WP g _ _ _ (.int (sr_b (sr_digit (D.1 8 i))) :: _) _ _
        refine wp_if_ne_b (tgt := 138) dX4_step_121 (by decide) (fun c1061 => ?_) (fun c1061 => ?_)
        · have hdg := c1061
          refine wp_aload_n dX4_step_138 rfl rfl ?_
          refine wp_callV (M2 := M_X4_readNumber) (n := 0) (As := []) (st := []) dX4_step_139 (c_X4_readNumber g D L k i v i hL h300 (by omega) (by omega)) ca_X4_41 ⟨nm_X4_readNumber, by decide, by decide⟩ rfl (by decide) rfl rfl rfl (Nat.le_of_ble_eq_true rfl) (fun r1062 E1063 q1064 => ?_)
          obtain ⟨rfl, rfl⟩ := q1064
          show WP g _ _ _ _ _ _
          refine wp_goto (tgt := 197) dX4_step_142 (by decide) ?_
          refine wp_vret dX4_step_197 rfl ⟨rfl, ?_⟩
          rw [show tk_k (D.1 8) L i = _ from (if_neg (show ¬ L ≤ i by omega)).trans ((if_neg (by rw [hlet]; decide)).trans ((if_pos (Or.inl hdg)))), show tk_v (D.1 8) L i v = _ from (if_neg (show ¬ L ≤ i by omega)).trans ((if_neg (by rw [hlet]; decide)).trans ((if_pos (Or.inl hdg)))), show tk_e (D.1 8) L i = _ from (if_neg (show ¬ L ≤ i by omega)).trans ((if_neg (by rw [hlet]; decide)).trans ((if_pos (Or.inl hdg))))]
        · have hdg := c1061
          refine wp_aload_n dX4_step_124 rfl rfl ?_
          refine wp_getR (r := 8) dX4_step_125 fl_X4_27 (by decide) rfl rfl rfl ?_
          refine wp_aload_n dX4_step_128 rfl rfl ?_
          refine wp_getI_n (n := i) dX4_step_129 fl_X4_18 (by decide) rfl rfl (sr_R_2) ?_
          refine wp_bald dX4_step_132 (by decide) rfl (show _ < 300 by omega) (by first | omega | (split <;> omega)) ?_
          rw [sr_R_8]
          refine wp_bipush (v := nI 45) dX4_step_133 rfl ?_
          refine wp_icmp_ne (tgt := 145) dX4_step_135 (by decide) (fun c1065 => ?_) (fun c1065 => ?_)
          · have hmi := c1065
            refine wp_aload_n dX4_step_145 rfl rfl ?_
            refine wp_aload_n dX4_step_146 rfl rfl ?_
            refine wp_getI_n (n := i) dX4_step_147 fl_X4_18 (by decide) rfl rfl (sr_R_2) ?_
            refine wp_iconst (v := nI 1) dX4_step_150 rfl ?_
            refine wp_iadd_n dX4_step_151 ?_
            refine wp_putI dX4_step_152 fl_X4_24 (by decide) rfl rfl ?_
            rw [sr_R_s4]
            refine wp_aload_n dX4_step_155 rfl rfl ?_
            refine wp_aload_n dX4_step_156 rfl rfl ?_
            refine wp_getR (r := 8) dX4_step_157 fl_X4_27 (by decide) rfl rfl rfl ?_
            refine wp_aload_n dX4_step_160 rfl rfl ?_
            refine wp_getI_n (n := i) dX4_step_161 fl_X4_18 (by decide) rfl rfl (sr_R_2) ?_
            refine wp_bald dX4_step_164 (by decide) rfl (show _ < 300 by omega) (by first | omega | (split <;> omega)) ?_
            rw [sr_R_8]
            refine wp_bipush (v := nI 59) dX4_step_165 rfl ?_
            refine wp_icmp_ne (tgt := 174) dX4_step_167 (by decide) (fun c1066 => ?_) (fun c1066 => ?_)
            · have hsc := c1066
              refine wp_aload_n dX4_step_174 rfl rfl ?_
              refine wp_getR (r := 8) dX4_step_175 fl_X4_27 (by decide) rfl rfl rfl ?_
              refine wp_aload_n dX4_step_178 rfl rfl ?_
              refine wp_getI_n (n := i) dX4_step_179 fl_X4_18 (by decide) rfl rfl (sr_R_2) ?_
              refine wp_bald dX4_step_182 (by decide) rfl (show _ < 300 by omega) (by first | omega | (split <;> omega)) ?_
              rw [sr_R_8]
              refine wp_bipush (v := nI 58) dX4_step_183 rfl ?_
              refine wp_icmp_ne (tgt := 192) dX4_step_185 (by decide) (fun c1067 => ?_) (fun c1067 => ?_)
              · have hco := c1067
                refine wp_bipush (v := nI 10) dX4_step_192 rfl ?_
                refine wp_putI dX4_step_194 fl_X4_15 (by decide) rfl rfl ?_
                rw [sr_R_s1]
                refine wp_vret dX4_step_197 rfl ⟨rfl, ?_⟩
                rw [show tk_k (D.1 8) L i = _ from (if_neg (show ¬ L ≤ i by omega)).trans ((if_neg (by rw [hlet]; decide)).trans ((if_neg (fun y => y.elim (fun y => by rw [hdg] at y; exact absurd y (by decide)) hmi)).trans ((if_neg hsc).trans ((if_neg hco))))), show tk_v (D.1 8) L i v = _ from (if_neg (show ¬ L ≤ i by omega)).trans ((if_neg (by rw [hlet]; decide)).trans ((if_neg (fun y => y.elim (fun y => by rw [hdg] at y; exact absurd y (by decide)) hmi)))), show tk_e (D.1 8) L i = _ from (if_neg (show ¬ L ≤ i by omega)).trans ((if_neg (by rw [hlet]; decide)).trans ((if_neg (fun y => y.elim (fun y => by rw [hdg] at y; exact absurd y (by decide)) hmi))))]
              · have hco := c1067
                refine wp_iconst (v := nI 3) dX4_step_188 rfl ?_
                refine wp_goto (tgt := 194) dX4_step_189 (by decide) ?_
                refine wp_putI dX4_step_194 fl_X4_15 (by decide) rfl rfl ?_
                rw [sr_R_s1]
                refine wp_vret dX4_step_197 rfl ⟨rfl, ?_⟩
                rw [show tk_k (D.1 8) L i = _ from (if_neg (show ¬ L ≤ i by omega)).trans ((if_neg (by rw [hlet]; decide)).trans ((if_neg (fun y => y.elim (fun y => by rw [hdg] at y; exact absurd y (by decide)) hmi)).trans ((if_neg hsc).trans ((if_pos hco))))), show tk_v (D.1 8) L i v = _ from (if_neg (show ¬ L ≤ i by omega)).trans ((if_neg (by rw [hlet]; decide)).trans ((if_neg (fun y => y.elim (fun y => by rw [hdg] at y; exact absurd y (by decide)) hmi)))), show tk_e (D.1 8) L i = _ from (if_neg (show ¬ L ≤ i by omega)).trans ((if_neg (by rw [hlet]; decide)).trans ((if_neg (fun y => y.elim (fun y => by rw [hdg] at y; exact absurd y (by decide)) hmi))))]
            · have hsc := c1066
              refine wp_iconst (v := nI 2) dX4_step_170 rfl ?_
              refine wp_goto (tgt := 194) dX4_step_171 (by decide) ?_
              refine wp_putI dX4_step_194 fl_X4_15 (by decide) rfl rfl ?_
              rw [sr_R_s1]
              refine wp_vret dX4_step_197 rfl ⟨rfl, ?_⟩
              rw [show tk_k (D.1 8) L i = _ from (if_neg (show ¬ L ≤ i by omega)).trans ((if_neg (by rw [hlet]; decide)).trans ((if_neg (fun y => y.elim (fun y => by rw [hdg] at y; exact absurd y (by decide)) hmi)).trans ((if_pos hsc)))), show tk_v (D.1 8) L i v = _ from (if_neg (show ¬ L ≤ i by omega)).trans ((if_neg (by rw [hlet]; decide)).trans ((if_neg (fun y => y.elim (fun y => by rw [hdg] at y; exact absurd y (by decide)) hmi)))), show tk_e (D.1 8) L i = _ from (if_neg (show ¬ L ≤ i by omega)).trans ((if_neg (by rw [hlet]; decide)).trans ((if_neg (fun y => y.elim (fun y => by rw [hdg] at y; exact absurd y (by decide)) hmi))))]
          · have hmi := c1065
            refine wp_aload_n dX4_step_138 rfl rfl ?_
            refine wp_callV (M2 := M_X4_readNumber) (n := 0) (As := []) (st := []) dX4_step_139 (c_X4_readNumber g D L k i v i hL h300 (by omega) (by omega)) ca_X4_41 ⟨nm_X4_readNumber, by decide, by decide⟩ rfl (by decide) rfl rfl rfl (Nat.le_of_ble_eq_true rfl) (fun r1068 E1069 q1070 => ?_)
            obtain ⟨rfl, rfl⟩ := q1070
            show WP g _ _ _ _ _ _
            refine wp_goto (tgt := 197) dX4_step_142 (by decide) ?_
            refine wp_vret dX4_step_197 rfl ⟨rfl, ?_⟩
            rw [show tk_k (D.1 8) L i = _ from (if_neg (show ¬ L ≤ i by omega)).trans ((if_neg (by rw [hlet]; decide)).trans ((if_pos (Or.inr hmi)))), show tk_v (D.1 8) L i v = _ from (if_neg (show ¬ L ≤ i by omega)).trans ((if_neg (by rw [hlet]; decide)).trans ((if_pos (Or.inr hmi)))), show tk_e (D.1 8) L i = _ from (if_neg (show ¬ L ≤ i by omega)).trans ((if_neg (by rw [hlet]; decide)).trans ((if_pos (Or.inr hmi))))]
      · have hlet := c1057
        refine wp_aload_n dX4_step_102 rfl rfl ?_
        refine wp_callV (M2 := M_X4_readWord) (n := 0) (As := []) (st := []) dX4_step_103 (hRW D L k i v hL h300 (by omega) (by omega)) ca_X4_35 ⟨nm_X4_readWord, by decide, by decide⟩ rfl (by decide) rfl rfl rfl (Nat.le_of_ble_eq_true rfl) (fun r1071 E1072 q1073 => ?_)
        obtain ⟨rfl, rfl⟩ := q1073
        show WP g _ _ _ _ _ _
        refine wp_goto (tgt := 197) dX4_step_106 (by decide) ?_
        refine wp_vret dX4_step_197 rfl ⟨rfl, ?_⟩
        rw [show tk_k (D.1 8) L i = _ from (if_neg (show ¬ L ≤ i by omega)).trans ((if_pos hlet)), show tk_v (D.1 8) L i v = _ from (if_neg (show ¬ L ≤ i by omega)).trans ((if_pos hlet)), show tk_e (D.1 8) L i = _ from (if_neg (show ¬ L ≤ i by omega)).trans ((if_pos hlet))]
    · have hil := c1053
      refine wp_aload_n dX4_step_79 rfl rfl ?_
      refine wp_iconst (v := nI 0) dX4_step_80 rfl ?_
      refine wp_putI dX4_step_81 fl_X4_15 (by decide) rfl rfl ?_
      rw [sr_R_s1]
      refine wp_goto (tgt := 197) dX4_step_84 (by decide) ?_
      refine wp_vret dX4_step_197 rfl ⟨rfl, ?_⟩
      rw [show tk_k (D.1 8) L i = _ from (if_pos (show L ≤ i by omega)), show tk_v (D.1 8) L i v = _ from (if_pos (show L ≤ i by omega)), show tk_e (D.1 8) L i = _ from (if_pos (show L ≤ i by omega))]
  have h8 : ∀ d i, i + d = L + 2 → e ≤ i → sr_skip (D.1 8) L i = (sr_skip (D.1 8) L e) → WP g M_X4_step 8 [(0, .ref 7)] [] (sr_R D k i v e) (sr_ret none (sr_tk D L v e)) := by
    intro d
    induction d with
    | zero => intro i h1 h2 h3; exact absurd h3 (by rw [show sr_skip (D.1 8) L i = i from sr_scan_f (by omega)]; have hq : (sr_skip (D.1 8) L e) ≤ L + 1 := (by by_cases hel : e ≤ L; exact Nat.le_trans (sr_scan_le _ _ hel) (by omega); rw [show (sr_skip (D.1 8) L e) = e from sr_scan_f (by omega)]; exact he); omega)
    | succ d ih =>
      intro i h1 h2 h3
      refine wp_aload_n dX4_step_8 rfl rfl ?_
      refine wp_getI_n (n := i) dX4_step_9 fl_X4_18 (by decide) rfl rfl (sr_R_2) ?_
      refine wp_aload_n dX4_step_12 rfl rfl ?_
      refine wp_getI_n (n := L) dX4_step_13 fl_X4_9 (by decide) rfl rfl (sr_R_0 hL) ?_
      refine wp_icmp_ge_n (tgt := 60) dX4_step_16 (by decide) (by first | omega | (split <;> omega)) (by first | omega | (split <;> omega)) (fun c1074 => ?_) (fun c1074 => ?_)
      · have hnl := c1074
        have hs : sr_skip (D.1 8) L i = i := sr_scan_f (fun y => by omega)
        exact h60 i (by rw [← h3, hs]) (by omega)
      · have hnl := c1074
        refine wp_aload_n dX4_step_19 rfl rfl ?_
        refine wp_getR (r := 8) dX4_step_20 fl_X4_27 (by decide) rfl rfl rfl ?_
        refine wp_aload_n dX4_step_23 rfl rfl ?_
        refine wp_getI_n (n := i) dX4_step_24 fl_X4_18 (by decide) rfl rfl (sr_R_2) ?_
        refine wp_bald dX4_step_27 (by decide) rfl (show _ < 300 by omega) (by first | omega | (split <;> omega)) ?_
        rw [sr_R_8]
        refine wp_bipush (v := nI 32) dX4_step_28 rfl ?_
        refine wp_icmp_eq (tgt := 47) dX4_step_30 (by decide) (fun c1075 => ?_) (fun c1075 => ?_)
        · have hb1 := c1075
          refine wp_aload_n dX4_step_47 rfl rfl ?_
          refine wp_dup dX4_step_48 rfl ?_
          refine wp_getI_n (n := i) dX4_step_49 fl_X4_18 (by decide) rfl rfl (sr_R_2) ?_
          refine wp_iconst (v := nI 1) dX4_step_52 rfl ?_
          refine wp_iadd_n dX4_step_53 ?_
          refine wp_putI dX4_step_54 fl_X4_18 (by decide) rfl rfl ?_
          rw [sr_R_s2]
          refine wp_goto (tgt := 8) dX4_step_57 (by decide) ?_
          have hbl : sr_blank ((D.1 8) i) = true := by unfold sr_blank; rw [decide_eq_true hb1]; rfl
          exact ih (i + 1) (by omega) (by omega) (by rw [← h3]; exact (sr_scan_t (by omega) hbl).symm)
        · have hb1 := c1075
          refine wp_aload_n dX4_step_33 rfl rfl ?_
          refine wp_getR (r := 8) dX4_step_34 fl_X4_27 (by decide) rfl rfl rfl ?_
          refine wp_aload_n dX4_step_37 rfl rfl ?_
          refine wp_getI_n (n := i) dX4_step_38 fl_X4_18 (by decide) rfl rfl (sr_R_2) ?_
          refine wp_bald dX4_step_41 (by decide) rfl (show _ < 300 by omega) (by first | omega | (split <;> omega)) ?_
          rw [sr_R_8]
          refine wp_bipush (v := nI 10) dX4_step_42 rfl ?_
          refine wp_icmp_ne (tgt := 60) dX4_step_44 (by decide) (fun c1076 => ?_) (fun c1076 => ?_)
          · have hb2 := c1076
            have hs : sr_skip (D.1 8) L i = i := sr_scan_f (fun y => by have := y.2; unfold sr_blank at this; rw [decide_eq_false hb1, decide_eq_false hb2] at this; exact absurd this (by decide))
            exact h60 i (by rw [← h3, hs]) (by omega)
          · have hb2 := c1076
            refine wp_aload_n dX4_step_47 rfl rfl ?_
            refine wp_dup dX4_step_48 rfl ?_
            refine wp_getI_n (n := i) dX4_step_49 fl_X4_18 (by decide) rfl rfl (sr_R_2) ?_
            refine wp_iconst (v := nI 1) dX4_step_52 rfl ?_
            refine wp_iadd_n dX4_step_53 ?_
            refine wp_putI dX4_step_54 fl_X4_18 (by decide) rfl rfl ?_
            rw [sr_R_s2]
            refine wp_goto (tgt := 8) dX4_step_57 (by decide) ?_
            have hbl : sr_blank ((D.1 8) i) = true := by unfold sr_blank; rw [decide_eq_true hb2, Bool.or_true]
            exact ih (i + 1) (by omega) (by omega) (by rw [← h3]; exact (sr_scan_t (by omega) hbl).symm)
  refine wp_aload_n dX4_step_0 rfl rfl ?_
  refine wp_aload_n dX4_step_1 rfl rfl ?_
  refine wp_getI_n (n := e) dX4_step_2 fl_X4_24 (by decide) rfl rfl (sr_R_4) ?_
  refine wp_putI dX4_step_5 fl_X4_18 (by decide) rfl rfl ?_
  rw [sr_R_s2]
  exact h8 (L + 2 - e) e (by omega) (Nat.le_refl _) rfl
theorem tk_e_le {b : Nat → Int32} {L e : Nat} (he : e ≤ L + 1) : sr_skip b L e ≤ L + 1 ∧ tk_e b L (sr_skip b L e) ≤ L + 1 ∧ e ≤ tk_e b L (sr_skip b L e) := by
  have h1 : e ≤ sr_skip b L e := sr_scan_ge sr_blank b L e
  have hq : sr_skip b L e ≤ L + 1 := by
    by_cases hel : e ≤ L
    · exact Nat.le_trans (sr_scan_le _ _ hel) (by omega)
    · rw [show sr_skip b L e = e from sr_scan_f (by omega)]; exact he
  generalize hs : sr_skip b L e = s at *
  unfold tk_e
  split
  · exact ⟨hq, hq, h1⟩
  · split
    · have h2 := sr_scan_ge sr_letter b L s
      have h3 := sr_scan_le sr_letter b (show s ≤ L by omega)
      unfold sr_wend
      exact ⟨hq, by omega, by omega⟩
    · split
      · have hd : sr_dfst b L s ≤ L ∧ s ≤ sr_dfst b L s := by unfold sr_dfst; split <;> omega
        have h2 := sr_scan_ge sr_digit b L (sr_dfst b L s)
        have h3 := sr_scan_le sr_digit b hd.1
        unfold sr_numE
        exact ⟨hq, by omega, by omega⟩
      · exact ⟨hq, by omega, by omega⟩
theorem tk_k_le {b : Nat → Int32} {L p : Nat} : tk_k b L p ≤ 10 := by
  unfold tk_k tk_wk tk_nk
  (repeat' split) <;> omega
