/-! ===== what a fit tells ===== -/
/-- the swept part of a form, times a column -/
def cl_st (S : Nat → Bool) (F : Nat → Int32) (T : cl_T) (c : Nat) : Nat → Int64
  | 0 => 0
  | i + 1 => if S i = true then cl_st S F T c i + (F i).toInt64 * T i c else cl_st S F T c i
def cl_kb (S : Nat → Bool) (F : Nat → Int32) (T : cl_T) (s : Int64) : Nat → Bool
  | 0 => true
  | c + 1 => cl_kb S F T s c && (S c || decide (cl_st S F T c 7 = s * (F c).toInt64))
theorem cl_kb_f {S : Nat → Bool} {F : Nat → Int32} {T : cl_T} {s : Int64} {c : Nat} (h : cl_kb S F T s (c + 1) = false) : ∀ d, c + 1 ≤ d → cl_kb S F T s d = false := by
  intro d
  induction d with
  | zero => intro h1; exact absurd h1 (by omega)
  | succ d ih =>
    intro h1
    by_cases e : c = d
    · subst e; exact h
    · show (cl_kb S F T s d && _) = false
      rw [ih (by omega)]; rfl
def cl_db (S : Nat → Bool) (F : Nat → Int32) (T : cl_T) : Nat → Int64
  | 0 => 0
  | c + 1 => if S c = true ∧ ¬ F c = 0 then cl_db S F T c - (F c).toInt64 * cl_st S F T c 7 else cl_db S F T c
/-- known, value, doubt of a form by a solved fit -/
def cl_kn (Y : cl_T) (F : Nat → Int32) : Bool := cl_kb (cl_s Y) F (cl_go Y 7).1 (cl_go Y 7).2.1 7
def cl_val (Y : cl_T) (F : Nat → Int32) : Int64 := cl_st (cl_s Y) F (cl_go Y 7).1 7 7
def cl_dou (Y : cl_T) (F : Nat → Int32) : Int64 := cl_db (cl_s Y) F (cl_go Y 7).1 7
def cl_sum (Y : cl_T) : Int64 := (cl_go Y 7).1 7 7
def cl_by (Y : cl_T) : Int64 := (cl_go Y 7).2.1
theorem cl_ok_fa {o t w fm : Nat} {Y : cl_T} {D E : sr_St} (h : cl_ok o t w Y D) (k : cl_fa fm D E) (h1 : ¬ o = fm) (h2 : ¬ w = fm) : cl_ok o t w Y E := by
  refine ⟨fun i j hi hj => by rw [k.1]; exact h.1 i j hi hj, by rw [k.1]; exact h.2.1, by rw [k.2 o h1]; exact h.2.2.1, fun z hz => by rw [k.2 w h2]; exact h.2.2.2 z hz⟩
theorem cl_fa.rf {fm : Nat} {D : sr_St} : cl_fa fm D D := ⟨rfl, fun _ _ => rfl⟩
theorem cl_fa.tr {fm : Nat} {D E F : sr_St} (h : cl_fa fm D E) (k : cl_fa fm E F) : cl_fa fm D F := ⟨k.1.trans h.1, fun o ho => (k.2 o ho).trans (h.2 o ho)⟩
set_option maxHeartbeats 4000000 in
set_option maxRecDepth 100000 in
theorem c_X1_sweptTimes14 (g : sr_G) (D : sr_St) (Y : cl_T) (hok : cl_ok 14 24 33 Y D) (F : Nat → Int32) (hf : ∀ k, k < 8 → D.1 34 k = F k) (c : Nat) (hc : c < 8) : Con g M_X1_sweptTimes [.ref 14, .int (nI c)] D (sr_ret (some (.long (cl_st (cl_s Y) F (cl_go Y 7).1 c 7))) D) := by
  refine Con.of pn_X1_sweptTimes (Nat.le_of_ble_eq_true rfl) ?_
  show WP g M_X1_sweptTimes 0 [(0, .ref 14), (1, .int (nI c))] [] D _
  have hL : ∀ i, i ≤ 7 → WP g M_X1_sweptTimes 5 [(0, .ref 14), (1, .int (nI c)), (2, .long (cl_st (cl_s Y) F (cl_go Y 7).1 c i)), (4, .int (nI i))] [] D (sr_ret (some (.long (cl_st (cl_s Y) F (cl_go Y 7).1 c 7))) D) := by
    refine sr_up (fun i hi ih => ?_)
    refine wp_iload dX1_sweptTimes_5 rfl ?_
    refine wp_bipush (v := nI 7) dX1_sweptTimes_7 rfl ?_
    refine wp_icmp_ge_n (tgt := 49) dX1_sweptTimes_9 (by decide) (by first | omega | (split <;> omega)) (by first | omega | (split <;> omega)) (fun c232 => ?_) (fun c232 => ?_)
    · refine wp_lload_n dX1_sweptTimes_49 rfl rfl ?_
      have hi7 : i = 7 := by omega
      subst hi7
      exact wp_lret dX1_sweptTimes_50 rfl ⟨rfl, rfl⟩
    · refine wp_aload_n dX1_sweptTimes_12 rfl rfl ?_
      refine wp_getR (r := 33) dX1_sweptTimes_13 fl_X1_27 (by decide) rfl rfl rfl ?_
      refine wp_iload dX1_sweptTimes_16 rfl ?_
      refine wp_zald dX1_sweptTimes_18 (by decide) rfl (show _ < 7 by omega) (by first | omega | (split <;> omega)) ?_
      rw [hok.2.2.2 i (by omega)]
      refine wp_if_eq_b (tgt := 43) dX1_sweptTimes_19 (by decide) (fun c233 => ?_) (fun c233 => ?_)
      · have hsi := c233
        refine wp_iinc_n (b := 1) (lv' := [(0, .ref 14), (1, .int (nI c)), (2, .long (cl_st (cl_s Y) F (cl_go Y 7).1 c i)), (4, .int (nI (i + 1)))]) dX1_sweptTimes_43 rfl rfl (by decide) rfl ?_
        refine wp_goto (tgt := 5) dX1_sweptTimes_46 (by decide) ?_
        have h := ih (by omega)
        rw [show cl_st (cl_s Y) F (cl_go Y 7).1 c (i + 1) = _ from if_neg (by rw [hsi]; decide)] at h
        exact h
      · have hsi := c233
        refine wp_lload_n dX1_sweptTimes_22 rfl rfl ?_
        refine wp_aload_n dX1_sweptTimes_23 rfl rfl ?_
        refine wp_getR (r := 34) dX1_sweptTimes_24 fl_X1_31 (by decide) rfl rfl rfl ?_
        refine wp_iload dX1_sweptTimes_27 rfl ?_
        refine wp_iald dX1_sweptTimes_29 (by decide) rfl (show _ < 8 by omega) (by first | omega | (split <;> omega)) ?_
        rw [hf i (by omega)]
        refine wp_i2l dX1_sweptTimes_30 ?_
        refine wp_aload_n dX1_sweptTimes_31 rfl rfl ?_
        refine wp_getR (r := 24) dX1_sweptTimes_32 fl_X1_24 (by decide) rfl rfl rfl ?_
        refine wp_iload dX1_sweptTimes_35 rfl ?_
        refine wp_aald dX1_sweptTimes_37 (by decide) rfl (show _ < 8 by omega) (by first | omega | (split <;> omega)) ?_
        refine wp_iload_n dX1_sweptTimes_38 rfl rfl ?_
        refine wp_lald dX1_sweptTimes_39 (by omega) (sr_kr (b := 24) (by decide) (by omega)).1 (by rw [(sr_kr (b := 24) (by decide) (by omega)).2]; omega) (by first | omega | (split <;> omega)) ?_
        rw [hok.1 i c (by omega) hc]
        refine wp_lmul dX1_sweptTimes_40 ?_
        refine wp_ladd dX1_sweptTimes_41 ?_
        refine wp_lstore_n (lv' := [(0, .ref 14), (1, .int (nI c)), (2, .long ((cl_st (cl_s Y) F (cl_go Y 7).1 c i) + (((F i).toInt64) * ((cl_go Y 7).1 i c)))), (4, .int (nI i))]) dX1_sweptTimes_42 rfl (by decide) rfl ?_
        refine wp_iinc_n (b := 1) (lv' := [(0, .ref 14), (1, .int (nI c)), (2, .long ((cl_st (cl_s Y) F (cl_go Y 7).1 c i) + (((F i).toInt64) * ((cl_go Y 7).1 i c)))), (4, .int (nI (i + 1)))]) dX1_sweptTimes_43 rfl rfl (by decide) rfl ?_
        refine wp_goto (tgt := 5) dX1_sweptTimes_46 (by decide) ?_
        have h := ih (by omega)
        rw [show cl_st (cl_s Y) F (cl_go Y 7).1 c (i + 1) = _ from if_pos hsi] at h
        exact h
  refine wp_lconst (v := 0) dX1_sweptTimes_0 rfl ?_
  refine wp_lstore_n (lv' := [(0, .ref 14), (1, .int (nI c)), (2, .long 0)]) dX1_sweptTimes_1 rfl (by decide) rfl ?_
  refine wp_iconst (v := nI 0) dX1_sweptTimes_2 rfl ?_
  refine wp_istore (lv' := [(0, .ref 14), (1, .int (nI c)), (2, .long 0), (4, .int (nI 0))]) dX1_sweptTimes_3 (by decide) rfl ?_
  exact hL 0 (by omega)
set_option maxHeartbeats 4000000 in
set_option maxRecDepth 100000 in
theorem c_X1_isKnown14 (g : sr_G) (D : sr_St) (Y : cl_T) (hok : cl_ok 14 24 33 Y D) (F : Nat → Int32) (hf : ∀ k, k < 8 → D.1 34 k = F k) : Con g M_X1_isKnown [.ref 14] D (sr_ret (some (.int (sr_b (cl_kn Y F)))) D) := by
  refine Con.of pn_X1_isKnown (Nat.le_of_ble_eq_true rfl) ?_
  show WP g M_X1_isKnown 0 [(0, .ref 14)] [] D _
  have hL : ∀ i, i ≤ 7 → cl_kb (cl_s Y) F (cl_go Y 7).1 (cl_go Y 7).2.1 i = true → WP g M_X1_isKnown 2 [(0, .ref 14), (1, .int (nI i))] [] D (sr_ret (some (.int (sr_b (cl_kn Y F)))) D) := by
    refine sr_up (fun i hi ih hk => ?_)
    refine wp_iload_n dX1_isKnown_2 rfl rfl ?_
    refine wp_bipush (v := nI 7) dX1_isKnown_3 rfl ?_
    refine wp_icmp_ge_n (tgt := 46) dX1_isKnown_5 (by decide) (by first | omega | (split <;> omega)) (by first | omega | (split <;> omega)) (fun c234 => ?_) (fun c234 => ?_)
    · refine wp_iconst (v := nI 1) dX1_isKnown_46 rfl ?_
      have hi7 : i = 7 := by omega
      subst hi7
      exact wp_zret dX1_isKnown_47 rfl (Or.inr rfl) ⟨sr_bt hk, rfl⟩
    · refine wp_aload_n dX1_isKnown_8 rfl rfl ?_
      refine wp_getR (r := 33) dX1_isKnown_9 fl_X1_27 (by decide) rfl rfl rfl ?_
      refine wp_iload_n dX1_isKnown_12 rfl rfl ?_
      refine wp_zald dX1_isKnown_13 (by decide) rfl (show _ < 7 by omega) (by first | omega | (split <;> omega)) ?_
      rw [hok.2.2.2 i (by omega)]
      refine wp_if_ne_b (tgt := 40) dX1_isKnown_14 (by decide) (fun c235 => ?_) (fun c235 => ?_)
      · have hsi := c235
        refine wp_iinc_n (b := 1) (lv' := [(0, .ref 14), (1, .int (nI (i + 1)))]) dX1_isKnown_40 rfl rfl (by decide) rfl ?_
        refine wp_goto (tgt := 2) dX1_isKnown_43 (by decide) ?_
        refine ih (by omega) ?_
        show (cl_kb (cl_s Y) F (cl_go Y 7).1 (cl_go Y 7).2.1 i && (cl_s Y i || decide _)) = true
        rw [hk, hsi]
        rfl
      · have hsi := c235
        refine wp_aload_n dX1_isKnown_17 rfl rfl ?_
        refine wp_iload_n dX1_isKnown_18 rfl rfl ?_
        refine wp_callV (M2 := M_X1_sweptTimes) (n := 1) (As := [.int (nI i)]) (st := []) dX1_isKnown_19 (c_X1_sweptTimes14 g D Y hok F hf i (by omega)) ca_X1_42 ⟨nm_X1_sweptTimes, by decide, by decide⟩ rfl (by decide) rfl rfl rfl (Nat.le_of_ble_eq_true rfl) (fun r236 E237 q238 => ?_)
        obtain ⟨rfl, rfl⟩ := q238
        show WP g _ _ _ (.long (cl_st (cl_s Y) F (cl_go Y 7).1 i 7) :: _) _ _
        refine wp_aload_n dX1_isKnown_22 rfl rfl ?_
        refine wp_getJ dX1_isKnown_23 fl_X1_11 (by decide) rfl rfl ?_
        rw [hok.2.1]
        refine wp_aload_n dX1_isKnown_26 rfl rfl ?_
        refine wp_getR (r := 34) dX1_isKnown_27 fl_X1_31 (by decide) rfl rfl rfl ?_
        refine wp_iload_n dX1_isKnown_30 rfl rfl ?_
        refine wp_iald dX1_isKnown_31 (by decide) rfl (show _ < 8 by omega) (by first | omega | (split <;> omega)) ?_
        rw [hf i (by omega)]
        refine wp_i2l dX1_isKnown_32 ?_
        refine wp_lmul dX1_isKnown_33 ?_
        refine wp_lcmp_eq (tgt := 40) dX1_isKnown_34 dX1_isKnown_35 (by decide) (fun c239 => ?_) (fun c239 => ?_)
        · have hee := c239
          refine wp_iinc_n (b := 1) (lv' := [(0, .ref 14), (1, .int (nI (i + 1)))]) dX1_isKnown_40 rfl rfl (by decide) rfl ?_
          refine wp_goto (tgt := 2) dX1_isKnown_43 (by decide) ?_
          refine ih (by omega) ?_
          show (cl_kb (cl_s Y) F (cl_go Y 7).1 (cl_go Y 7).2.1 i && (cl_s Y i || decide _)) = true
          rw [hk, decide_eq_true hee, Bool.or_true]
          rfl
        · have hee := c239
          refine wp_iconst (v := nI 0) dX1_isKnown_38 rfl ?_
          refine wp_zret dX1_isKnown_39 rfl (Or.inl rfl) ⟨sr_bf ?_, rfl⟩
          refine cl_kb_f (c := i) ?_ 7 (by omega)
          show (cl_kb (cl_s Y) F (cl_go Y 7).1 (cl_go Y 7).2.1 i && (cl_s Y i || decide _)) = false
          rw [hk, hsi, decide_eq_false hee]; rfl
  refine wp_iconst (v := nI 0) dX1_isKnown_0 rfl ?_
  refine wp_istore_n (lv' := [(0, .ref 14), (1, .int (nI 0))]) dX1_isKnown_1 rfl (by decide) rfl ?_
  exact hL 0 (by omega) rfl
set_option maxHeartbeats 4000000 in
set_option maxRecDepth 100000 in
theorem c_X1_scaledValue14 (g : sr_G) (D : sr_St) (Y : cl_T) (hok : cl_ok 14 24 33 Y D) (F : Nat → Int32) (hf : ∀ k, k < 8 → D.1 34 k = F k) : Con g M_X1_scaledValue [.ref 14] D (sr_ret (some (.long (cl_val Y F))) D) := by
  refine Con.of pn_X1_scaledValue (Nat.le_of_ble_eq_true rfl) ?_
  show WP g M_X1_scaledValue 0 [(0, .ref 14)] [] D _
  refine wp_aload_n dX1_scaledValue_0 rfl rfl ?_
  refine wp_bipush (v := nI 7) dX1_scaledValue_1 rfl ?_
  refine wp_callV (M2 := M_X1_sweptTimes) (n := 1) (As := [.int (nI 7)]) (st := []) dX1_scaledValue_3 (c_X1_sweptTimes14 g D Y hok F hf 7 (by omega)) ca_X1_42 ⟨nm_X1_sweptTimes, by decide, by decide⟩ rfl (by decide) rfl rfl rfl (Nat.le_of_ble_eq_true rfl) (fun r240 E241 q242 => ?_)
  obtain ⟨rfl, rfl⟩ := q242
  show WP g _ _ _ (.long (cl_st (cl_s Y) F (cl_go Y 7).1 7 7) :: _) _ _
  exact wp_lret dX1_scaledValue_6 rfl ⟨rfl, rfl⟩
set_option maxHeartbeats 4000000 in
set_option maxRecDepth 100000 in
theorem c_X1_scaledSum14 (g : sr_G) (D : sr_St) (Y : cl_T) (hok : cl_ok 14 24 33 Y D) : Con g M_X1_scaledSum [.ref 14] D (sr_ret (some (.long (cl_sum Y))) D) := by
  refine Con.of pn_X1_scaledSum (Nat.le_of_ble_eq_true rfl) ?_
  show WP g M_X1_scaledSum 0 [(0, .ref 14)] [] D _
  refine wp_aload_n dX1_scaledSum_0 rfl rfl ?_
  refine wp_getR (r := 24) dX1_scaledSum_1 fl_X1_24 (by decide) rfl rfl rfl ?_
  refine wp_bipush (v := nI 7) dX1_scaledSum_4 rfl ?_
  refine wp_aald dX1_scaledSum_6 (by decide) rfl (by decide) (by first | omega | (split <;> omega)) ?_
  refine wp_bipush (v := nI 7) dX1_scaledSum_7 rfl ?_
  refine wp_lald dX1_scaledSum_9 (by omega) (sr_kr (b := 24) (by decide) (by omega)).1 (by rw [(sr_kr (b := 24) (by decide) (by omega)).2]; omega) (by first | omega | (split <;> omega)) ?_
  rw [hok.1 7 7 (by omega) (by omega)]
  exact wp_lret dX1_scaledSum_10 rfl ⟨rfl, rfl⟩
set_option maxHeartbeats 4000000 in
set_option maxRecDepth 100000 in
theorem c_X1_scaledDoubt14 (g : sr_G) (D : sr_St) (Y : cl_T) (hok : cl_ok 14 24 33 Y D) (F : Nat → Int32) (hf : ∀ k, k < 8 → D.1 34 k = F k) : Con g M_X1_scaledDoubt [.ref 14] D (sr_ret (some (.long (cl_dou Y F))) D) := by
  refine Con.of pn_X1_scaledDoubt (Nat.le_of_ble_eq_true rfl) ?_
  show WP g M_X1_scaledDoubt 0 [(0, .ref 14)] [] D _
  have hL : ∀ i, i ≤ 7 → WP g M_X1_scaledDoubt 4 [(0, .ref 14), (1, .long (cl_db (cl_s Y) F (cl_go Y 7).1 i)), (3, .int (nI i))] [] D (sr_ret (some (.long (cl_dou Y F))) D) := by
    refine sr_up (fun i hi ih => ?_)
    refine wp_iload_n dX1_scaledDoubt_4 rfl rfl ?_
    refine wp_bipush (v := nI 7) dX1_scaledDoubt_5 rfl ?_
    refine wp_icmp_ge_n (tgt := 50) dX1_scaledDoubt_7 (by decide) (by first | omega | (split <;> omega)) (by first | omega | (split <;> omega)) (fun c243 => ?_) (fun c243 => ?_)
    · refine wp_lload_n dX1_scaledDoubt_50 rfl rfl ?_
      have hi7 : i = 7 := by omega
      subst hi7
      exact wp_lret dX1_scaledDoubt_51 rfl ⟨rfl, rfl⟩
    · refine wp_aload_n dX1_scaledDoubt_10 rfl rfl ?_
      refine wp_getR (r := 33) dX1_scaledDoubt_11 fl_X1_27 (by decide) rfl rfl rfl ?_
      refine wp_iload_n dX1_scaledDoubt_14 rfl rfl ?_
      refine wp_zald dX1_scaledDoubt_15 (by decide) rfl (show _ < 7 by omega) (by first | omega | (split <;> omega)) ?_
      rw [hok.2.2.2 i (by omega)]
      refine wp_if_eq_b (tgt := 44) dX1_scaledDoubt_16 (by decide) (fun c244 => ?_) (fun c244 => ?_)
      · have hsi := c244
        refine wp_iinc_n (b := 1) (lv' := [(0, .ref 14), (1, .long (cl_db (cl_s Y) F (cl_go Y 7).1 i)), (3, .int (nI (i + 1)))]) dX1_scaledDoubt_44 rfl rfl (by decide) rfl ?_
        refine wp_goto (tgt := 4) dX1_scaledDoubt_47 (by decide) ?_
        have h := ih (by omega)
        rw [show cl_db (cl_s Y) F (cl_go Y 7).1 (i + 1) = _ from if_neg (fun z => by rw [hsi] at z; exact absurd z.1 (by decide))] at h
        exact h
      · have hsi := c244
        refine wp_aload_n dX1_scaledDoubt_19 rfl rfl ?_
        refine wp_getR (r := 34) dX1_scaledDoubt_20 fl_X1_31 (by decide) rfl rfl rfl ?_
        refine wp_iload_n dX1_scaledDoubt_23 rfl rfl ?_
        refine wp_iald dX1_scaledDoubt_24 (by decide) rfl (show _ < 8 by omega) (by first | omega | (split <;> omega)) ?_
        rw [hf i (by omega)]
        refine wp_if_eq (tgt := 44) dX1_scaledDoubt_25 (by decide) (fun c245 => ?_) (fun c245 => ?_)
        · have hee := c245
          refine wp_iinc_n (b := 1) (lv' := [(0, .ref 14), (1, .long (cl_db (cl_s Y) F (cl_go Y 7).1 i)), (3, .int (nI (i + 1)))]) dX1_scaledDoubt_44 rfl rfl (by decide) rfl ?_
          refine wp_goto (tgt := 4) dX1_scaledDoubt_47 (by decide) ?_
          have h := ih (by omega)
          rw [show cl_db (cl_s Y) F (cl_go Y 7).1 (i + 1) = _ from if_neg (fun z => z.2 hee)] at h
          exact h
        · have hee := c245
          refine wp_lload_n dX1_scaledDoubt_28 rfl rfl ?_
          refine wp_aload_n dX1_scaledDoubt_29 rfl rfl ?_
          refine wp_getR (r := 34) dX1_scaledDoubt_30 fl_X1_31 (by decide) rfl rfl rfl ?_
          refine wp_iload_n dX1_scaledDoubt_33 rfl rfl ?_
          refine wp_iald dX1_scaledDoubt_34 (by decide) rfl (show _ < 8 by omega) (by first | omega | (split <;> omega)) ?_
          rw [hf i (by omega)]
          refine wp_i2l dX1_scaledDoubt_35 ?_
          refine wp_aload_n dX1_scaledDoubt_36 rfl rfl ?_
          refine wp_iload_n dX1_scaledDoubt_37 rfl rfl ?_
          refine wp_callV (M2 := M_X1_sweptTimes) (n := 1) (As := [.int (nI i)]) (st := [.long ((F i).toInt64), .long (cl_db (cl_s Y) F (cl_go Y 7).1 i)]) dX1_scaledDoubt_38 (c_X1_sweptTimes14 g D Y hok F hf i (by omega)) ca_X1_42 ⟨nm_X1_sweptTimes, by decide, by decide⟩ rfl (by decide) rfl rfl rfl (Nat.le_of_ble_eq_true rfl) (fun r246 E247 q248 => ?_)
          obtain ⟨rfl, rfl⟩ := q248
          show WP g _ _ _ (.long (cl_st (cl_s Y) F (cl_go Y 7).1 i 7) :: _) _ _
          refine wp_lmul dX1_scaledDoubt_41 ?_
          refine wp_lsub dX1_scaledDoubt_42 ?_
          refine wp_lstore_n (lv' := [(0, .ref 14), (1, .long ((cl_db (cl_s Y) F (cl_go Y 7).1 i) - (((F i).toInt64) * (cl_st (cl_s Y) F (cl_go Y 7).1 i 7)))), (3, .int (nI i))]) dX1_scaledDoubt_43 rfl (by decide) rfl ?_
          refine wp_iinc_n (b := 1) (lv' := [(0, .ref 14), (1, .long ((cl_db (cl_s Y) F (cl_go Y 7).1 i) - (((F i).toInt64) * (cl_st (cl_s Y) F (cl_go Y 7).1 i 7)))), (3, .int (nI (i + 1)))]) dX1_scaledDoubt_44 rfl rfl (by decide) rfl ?_
          refine wp_goto (tgt := 4) dX1_scaledDoubt_47 (by decide) ?_
          have h := ih (by omega)
          rw [show cl_db (cl_s Y) F (cl_go Y 7).1 (i + 1) = _ from if_pos ⟨hsi, hee⟩] at h
          exact h
  refine wp_lconst (v := 0) dX1_scaledDoubt_0 rfl ?_
  refine wp_lstore_n (lv' := [(0, .ref 14), (1, .long 0)]) dX1_scaledDoubt_1 rfl (by decide) rfl ?_
  refine wp_iconst (v := nI 0) dX1_scaledDoubt_2 rfl ?_
  refine wp_istore_n (lv' := [(0, .ref 14), (1, .long 0), (3, .int (nI 0))]) dX1_scaledDoubt_3 rfl (by decide) rfl ?_
  exact hL 0 (by omega)
def cl_cf (i j : Nat) : Nat → Int32 := cl_form (1 * 2 ^ i) (1 * 2 ^ j) (nI 0) (nI 0)
def cl_cp (Y : cl_T) (i : Nat) : Nat → Nat × Int64 → Nat × Int64
  | 0, a => a
  | k + 1, a => if cl_kn Y (cl_cf i (i + 1 + k)) = true then ((cl_cp Y i k a).1 + 1, (cl_cp Y i k a).2 + cl_dou Y (cl_cf i (i + 1 + k))) else cl_cp Y i k a
def cl_cs (Y : cl_T) (n : Nat) : Nat → Nat × Int64
  | 0 => (0, 0)
  | i + 1 => cl_cp Y i (n - (i + 1)) (cl_cs Y n i)
theorem cl_cp_le {Y : cl_T} {i : Nat} {a : Nat × Int64} : ∀ k, (cl_cp Y i k a).1 ≤ a.1 + k
  | 0 => Nat.le_refl _
  | k + 1 => by
    have := cl_cp_le (Y := Y) (i := i) (a := a) k
    unfold cl_cp
    split
    · show _ + 1 ≤ _; omega
    · omega
theorem cl_cs_le {Y : cl_T} {n : Nat} : ∀ i, (cl_cs Y n i).1 ≤ i * n
  | 0 => Nat.zero_le _
  | i + 1 => by
    have h1 := cl_cs_le (Y := Y) (n := n) i
    have h2 := cl_cp_le (Y := Y) (i := i) (a := cl_cs Y n i) (n - (i + 1))
    show (cl_cp Y i (n - (i + 1)) (cl_cs Y n i)).1 ≤ _
    rw [Nat.add_mul, Nat.one_mul]; omega
set_option maxHeartbeats 4000000 in
set_option maxRecDepth 100000 in
theorem c_X1_couplesKnown14 (g : sr_G) (D : sr_St) (Y : cl_T) (hok : cl_ok 14 24 33 Y D) (n : Nat) (hn6 : n ≤ 6) : Con g M_X1_couplesKnown [.ref 14, .int (nI n)] D (fun q D' => q = some (.int (nI (cl_cs Y n n).1)) ∧ cl_fa 34 D D') := by
  refine Con.of pn_X1_couplesKnown (Nat.le_of_ble_eq_true rfl) ?_
  show WP g M_X1_couplesKnown 0 [(0, .ref 14), (1, .int (nI n))] [] D _
  have hL : ∀ i, i ≤ n → ∀ E : sr_St, cl_fa 34 D E → WP g M_X1_couplesKnown 4 [(0, .ref 14), (1, .int (nI n)), (2, .int (nI ((cl_cs Y n i).1))), (3, .int (nI i))] [] E (fun q D' => q = some (.int (nI (cl_cs Y n n).1)) ∧ cl_fa 34 D D') := by
    refine sr_up (fun i hi ih E hF => ?_)
    have hI : i < n → ∀ j, j ≤ n - (i + 1) → ∀ E : sr_St, cl_fa 34 D E → WP g M_X1_couplesKnown 14 [(0, .ref 14), (1, .int (nI n)), (2, .int (nI ((cl_cp Y i j (cl_cs Y n i)).1))), (3, .int (nI i)), (4, .int (nI (i + 1 + j)))] [] E (fun q D' => q = some (.int (nI (cl_cs Y n n).1)) ∧ cl_fa 34 D D') := by
      intro hin
      refine sr_up (fun j hj ihj E hF => ?_)
      have hok1 := cl_ok_fa hok hF (by decide) (by decide)
      have hp1 := sr_pw1 (i := i) (by omega)
      have hp2 := sr_pw (show i ≤ 6 by omega)
      have hp3 : i + 1 + j < n → 2 ^ (i + 1 + j) ≤ 32 := fun h => Nat.le_trans (Nat.pow_le_pow_right (by decide) (show i + 1 + j ≤ 5 by omega)) (by decide)
      have hp4 : 2 ^ i ≤ 32 := Nat.le_trans (Nat.pow_le_pow_right (by decide) (show i ≤ 5 by omega)) (by decide)
      have hcl := cl_cp_le (Y := Y) (i := i) (a := cl_cs Y n i) j
      have hcl2 := cl_cs_le (Y := Y) (n := n) i
      refine wp_iload dX1_couplesKnown_14 rfl ?_
      refine wp_iload_n dX1_couplesKnown_16 rfl rfl ?_
      refine wp_icmp_ge_n (tgt := 49) dX1_couplesKnown_17 (by decide) (by first | omega | (split <;> omega)) (by first | omega | (split <;> omega)) (fun c249 => ?_) (fun c249 => ?_)
      · refine wp_iinc_n (b := 1) (lv' := [(0, .ref 14), (1, .int (nI n)), (2, .int (nI ((cl_cp Y i j (cl_cs Y n i)).1))), (3, .int (nI (i + 1))), (4, .int (nI (i + 1 + j)))]) dX1_couplesKnown_49 rfl rfl (by decide) rfl ?_
        refine wp_goto (tgt := 4) dX1_couplesKnown_52 (by decide) ?_
        have hje : j = n - (i + 1) := by omega
        subst hje
        exact wp_pick [0, 1, 2, 3] rfl (ih (by omega) E hF)
      · have hp5 := hp3 (by omega)
        refine wp_aload_n dX1_couplesKnown_20 rfl rfl ?_
        refine wp_iconst (v := nI 1) dX1_couplesKnown_21 rfl ?_
        refine wp_iload_n dX1_couplesKnown_22 rfl rfl ?_
        refine wp_ishl_n dX1_couplesKnown_23 (by omega) (by omega) ?_
        refine wp_iconst (v := nI 1) dX1_couplesKnown_24 rfl ?_
        refine wp_iload dX1_couplesKnown_25 rfl ?_
        refine wp_ishl_n dX1_couplesKnown_27 (by omega) (by omega) ?_
        refine wp_iconst (v := nI 0) dX1_couplesKnown_28 rfl ?_
        refine wp_iconst (v := nI 0) dX1_couplesKnown_29 rfl ?_
        refine wp_callV (M2 := M_X1_load) (n := 4) (As := [.int (nI (1 * 2 ^ i)), .int (nI (1 * 2 ^ (i + 1 + j))), .int (nI 0), .int (nI 0)]) (st := []) dX1_couplesKnown_30 (c_X1_load14 g E (1 * 2 ^ i) (1 * 2 ^ (i + 1 + j)) (by omega) (by omega) (nI 0) (nI 0)) ca_X1_46 ⟨nm_X1_load, by decide, by decide⟩ rfl (by decide) rfl rfl rfl (Nat.le_of_ble_eq_true rfl) (fun r250 E251 q252 => ?_)
        obtain ⟨rfl, hf, hfa⟩ := q252
        show WP g _ _ _ _ _ _
        have hok2 := cl_ok_fa hok1 hfa (by decide) (by decide)
        have hfr := hF.tr hfa
        refine wp_aload_n dX1_couplesKnown_33 rfl rfl ?_
        refine wp_callV (M2 := M_X1_isKnown) (n := 0) (As := []) (st := []) dX1_couplesKnown_34 (c_X1_isKnown14 g E251 Y hok2 (cl_cf i (i + 1 + j)) hf) ca_X1_50 ⟨nm_X1_isKnown, by decide, by decide⟩ rfl (by decide) rfl rfl rfl (Nat.le_of_ble_eq_true rfl) (fun r253 E254 q255 => ?_)
        obtain ⟨rfl, rfl⟩ := q255
        show WP g _ _ _ (.int (sr_b (cl_kn Y (cl_cf i (i + 1 + j)))) :: _) _ _
        refine wp_if_eq_b (tgt := 43) dX1_couplesKnown_37 (by decide) (fun c256 => ?_) (fun c256 => ?_)
        · have hkn := c256
          refine wp_iinc_n (b := 1) (lv' := [(0, .ref 14), (1, .int (nI n)), (2, .int (nI ((cl_cp Y i j (cl_cs Y n i)).1))), (3, .int (nI i)), (4, .int (nI (i + 1 + (j + 1))))]) dX1_couplesKnown_43 rfl rfl (by decide) rfl ?_
          refine wp_goto (tgt := 14) dX1_couplesKnown_46 (by decide) ?_
          have h := ihj (by omega) E251 hfr
          rw [show cl_cp Y i (j + 1) (cl_cs Y n i) = _ from if_neg (by rw [hkn]; decide)] at h
          exact h
        · have hkn := c256
          refine wp_iinc_n (b := 1) (lv' := [(0, .ref 14), (1, .int (nI n)), (2, .int (nI ((cl_cp Y i j (cl_cs Y n i)).1 + 1))), (3, .int (nI i)), (4, .int (nI (i + 1 + j)))]) dX1_couplesKnown_40 rfl rfl (by decide) rfl ?_
          refine wp_iinc_n (b := 1) (lv' := [(0, .ref 14), (1, .int (nI n)), (2, .int (nI ((cl_cp Y i j (cl_cs Y n i)).1 + 1))), (3, .int (nI i)), (4, .int (nI (i + 1 + (j + 1))))]) dX1_couplesKnown_43 rfl rfl (by decide) rfl ?_
          refine wp_goto (tgt := 14) dX1_couplesKnown_46 (by decide) ?_
          have h := ihj (by omega) E251 hfr
          rw [show cl_cp Y i (j + 1) (cl_cs Y n i) = _ from if_pos hkn] at h
          exact h
    refine wp_iload_n dX1_couplesKnown_4 rfl rfl ?_
    refine wp_iload_n dX1_couplesKnown_5 rfl rfl ?_
    refine wp_icmp_ge_n (tgt := 55) dX1_couplesKnown_6 (by decide) (by first | omega | (split <;> omega)) (by first | omega | (split <;> omega)) (fun c257 => ?_) (fun c257 => ?_)
    · refine wp_iload_n dX1_couplesKnown_55 rfl rfl ?_
      have hie : i = n := by omega
      subst hie
      exact wp_iret dX1_couplesKnown_56 rfl ⟨rfl, hF⟩
    · refine wp_iload_n dX1_couplesKnown_9 rfl rfl ?_
      refine wp_iconst (v := nI 1) dX1_couplesKnown_10 rfl ?_
      refine wp_iadd_n dX1_couplesKnown_11 ?_
      refine wp_istore (lv' := [(0, .ref 14), (1, .int (nI n)), (2, .int (nI ((cl_cs Y n i).1))), (3, .int (nI i)), (4, .int (nI (i + 1)))]) dX1_couplesKnown_12 (by decide) rfl ?_
      exact hI (by omega) 0 (by omega) E hF
  refine wp_iconst (v := nI 0) dX1_couplesKnown_0 rfl ?_
  refine wp_istore_n (lv' := [(0, .ref 14), (1, .int (nI n)), (2, .int (nI 0))]) dX1_couplesKnown_1 rfl (by decide) rfl ?_
  refine wp_iconst (v := nI 0) dX1_couplesKnown_2 rfl ?_
  refine wp_istore_n (lv' := [(0, .ref 14), (1, .int (nI n)), (2, .int (nI 0)), (3, .int (nI 0))]) dX1_couplesKnown_3 rfl (by decide) rfl ?_
  exact hL 0 (by omega) D cl_fa.rf
set_option maxHeartbeats 4000000 in
set_option maxRecDepth 100000 in
theorem c_X1_scaledDoubts14 (g : sr_G) (D : sr_St) (Y : cl_T) (hok : cl_ok 14 24 33 Y D) (n : Nat) (hn6 : n ≤ 6) : Con g M_X1_scaledDoubts [.ref 14, .int (nI n)] D (fun q D' => q = some (.long (cl_cs Y n n).2) ∧ cl_fa 34 D D') := by
  refine Con.of pn_X1_scaledDoubts (Nat.le_of_ble_eq_true rfl) ?_
  show WP g M_X1_scaledDoubts 0 [(0, .ref 14), (1, .int (nI n))] [] D _
  have hL : ∀ i, i ≤ n → ∀ E : sr_St, cl_fa 34 D E → WP g M_X1_scaledDoubts 5 [(0, .ref 14), (1, .int (nI n)), (2, .long ((cl_cs Y n i).2)), (4, .int (nI i))] [] E (fun q D' => q = some (.long (cl_cs Y n n).2) ∧ cl_fa 34 D D') := by
    refine sr_up (fun i hi ih E hF => ?_)
    have hI : i < n → ∀ j, j ≤ n - (i + 1) → ∀ E : sr_St, cl_fa 34 D E → WP g M_X1_scaledDoubts 17 [(0, .ref 14), (1, .int (nI n)), (2, .long ((cl_cp Y i j (cl_cs Y n i)).2)), (4, .int (nI i)), (5, .int (nI (i + 1 + j)))] [] E (fun q D' => q = some (.long (cl_cs Y n n).2) ∧ cl_fa 34 D D') := by
      intro hin
      refine sr_up (fun j hj ihj E hF => ?_)
      have hok1 := cl_ok_fa hok hF (by decide) (by decide)
      have hp1 := sr_pw1 (i := i) (by omega)
      have hp2 := sr_pw (show i ≤ 6 by omega)
      have hp3 : i + 1 + j < n → 2 ^ (i + 1 + j) ≤ 32 := fun h => Nat.le_trans (Nat.pow_le_pow_right (by decide) (show i + 1 + j ≤ 5 by omega)) (by decide)
      have hp4 : 2 ^ i ≤ 32 := Nat.le_trans (Nat.pow_le_pow_right (by decide) (show i ≤ 5 by omega)) (by decide)
      have hcl := cl_cp_le (Y := Y) (i := i) (a := cl_cs Y n i) j
      have hcl2 := cl_cs_le (Y := Y) (n := n) i
      refine wp_iload dX1_scaledDoubts_17 rfl ?_
      refine wp_iload_n dX1_scaledDoubts_19 rfl rfl ?_
      refine wp_icmp_ge_n (tgt := 57) dX1_scaledDoubts_20 (by decide) (by first | omega | (split <;> omega)) (by first | omega | (split <;> omega)) (fun c258 => ?_) (fun c258 => ?_)
      · refine wp_iinc_n (b := 1) (lv' := [(0, .ref 14), (1, .int (nI n)), (2, .long ((cl_cp Y i j (cl_cs Y n i)).2)), (4, .int (nI (i + 1))), (5, .int (nI (i + 1 + j)))]) dX1_scaledDoubts_57 rfl rfl (by decide) rfl ?_
        refine wp_goto (tgt := 5) dX1_scaledDoubts_60 (by decide) ?_
        have hje : j = n - (i + 1) := by omega
        subst hje
        exact wp_pick [0, 1, 2, 3] rfl (ih (by omega) E hF)
      · have hp5 := hp3 (by omega)
        refine wp_aload_n dX1_scaledDoubts_23 rfl rfl ?_
        refine wp_iconst (v := nI 1) dX1_scaledDoubts_24 rfl ?_
        refine wp_iload dX1_scaledDoubts_25 rfl ?_
        refine wp_ishl_n dX1_scaledDoubts_27 (by omega) (by omega) ?_
        refine wp_iconst (v := nI 1) dX1_scaledDoubts_28 rfl ?_
        refine wp_iload dX1_scaledDoubts_29 rfl ?_
        refine wp_ishl_n dX1_scaledDoubts_31 (by omega) (by omega) ?_
        refine wp_iconst (v := nI 0) dX1_scaledDoubts_32 rfl ?_
        refine wp_iconst (v := nI 0) dX1_scaledDoubts_33 rfl ?_
        refine wp_callV (M2 := M_X1_load) (n := 4) (As := [.int (nI (1 * 2 ^ i)), .int (nI (1 * 2 ^ (i + 1 + j))), .int (nI 0), .int (nI 0)]) (st := []) dX1_scaledDoubts_34 (c_X1_load14 g E (1 * 2 ^ i) (1 * 2 ^ (i + 1 + j)) (by omega) (by omega) (nI 0) (nI 0)) ca_X1_46 ⟨nm_X1_load, by decide, by decide⟩ rfl (by decide) rfl rfl rfl (Nat.le_of_ble_eq_true rfl) (fun r259 E260 q261 => ?_)
        obtain ⟨rfl, hf, hfa⟩ := q261
        show WP g _ _ _ _ _ _
        have hok2 := cl_ok_fa hok1 hfa (by decide) (by decide)
        have hfr := hF.tr hfa
        refine wp_aload_n dX1_scaledDoubts_37 rfl rfl ?_
        refine wp_callV (M2 := M_X1_isKnown) (n := 0) (As := []) (st := []) dX1_scaledDoubts_38 (c_X1_isKnown14 g E260 Y hok2 (cl_cf i (i + 1 + j)) hf) ca_X1_50 ⟨nm_X1_isKnown, by decide, by decide⟩ rfl (by decide) rfl rfl rfl (Nat.le_of_ble_eq_true rfl) (fun r262 E263 q264 => ?_)
        obtain ⟨rfl, rfl⟩ := q264
        show WP g _ _ _ (.int (sr_b (cl_kn Y (cl_cf i (i + 1 + j)))) :: _) _ _
        refine wp_if_eq_b (tgt := 51) dX1_scaledDoubts_41 (by decide) (fun c265 => ?_) (fun c265 => ?_)
        · have hkn := c265
          refine wp_iinc_n (b := 1) (lv' := [(0, .ref 14), (1, .int (nI n)), (2, .long ((cl_cp Y i j (cl_cs Y n i)).2)), (4, .int (nI i)), (5, .int (nI (i + 1 + (j + 1))))]) dX1_scaledDoubts_51 rfl rfl (by decide) rfl ?_
          refine wp_goto (tgt := 17) dX1_scaledDoubts_54 (by decide) ?_
          have h := ihj (by omega) E260 hfr
          rw [show cl_cp Y i (j + 1) (cl_cs Y n i) = _ from if_neg (by rw [hkn]; decide)] at h
          exact h
        · have hkn := c265
          refine wp_lload_n dX1_scaledDoubts_44 rfl rfl ?_
          refine wp_aload_n dX1_scaledDoubts_45 rfl rfl ?_
          refine wp_callV (M2 := M_X1_scaledDoubt) (n := 0) (As := []) (st := [.long ((cl_cp Y i j (cl_cs Y n i)).2)]) dX1_scaledDoubts_46 (c_X1_scaledDoubt14 g E260 Y hok2 (cl_cf i (i + 1 + j)) hf) ca_X1_54 ⟨nm_X1_scaledDoubt, by decide, by decide⟩ rfl (by decide) rfl rfl rfl (Nat.le_of_ble_eq_true rfl) (fun r266 E267 q268 => ?_)
          obtain ⟨rfl, rfl⟩ := q268
          show WP g _ _ _ (.long (cl_dou Y (cl_cf i (i + 1 + j))) :: _) _ _
          refine wp_ladd dX1_scaledDoubts_49 ?_
          refine wp_lstore_n (lv' := [(0, .ref 14), (1, .int (nI n)), (2, .long (((cl_cp Y i j (cl_cs Y n i)).2) + (cl_dou Y (cl_cf i (i + 1 + j))))), (4, .int (nI i)), (5, .int (nI (i + 1 + j)))]) dX1_scaledDoubts_50 rfl (by decide) rfl ?_
          refine wp_iinc_n (b := 1) (lv' := [(0, .ref 14), (1, .int (nI n)), (2, .long (((cl_cp Y i j (cl_cs Y n i)).2) + (cl_dou Y (cl_cf i (i + 1 + j))))), (4, .int (nI i)), (5, .int (nI (i + 1 + (j + 1))))]) dX1_scaledDoubts_51 rfl rfl (by decide) rfl ?_
          refine wp_goto (tgt := 17) dX1_scaledDoubts_54 (by decide) ?_
          have h := ihj (by omega) E260 hfr
          rw [show cl_cp Y i (j + 1) (cl_cs Y n i) = _ from if_pos hkn] at h
          exact h
    refine wp_iload dX1_scaledDoubts_5 rfl ?_
    refine wp_iload_n dX1_scaledDoubts_7 rfl rfl ?_
    refine wp_icmp_ge_n (tgt := 63) dX1_scaledDoubts_8 (by decide) (by first | omega | (split <;> omega)) (by first | omega | (split <;> omega)) (fun c269 => ?_) (fun c269 => ?_)
    · refine wp_lload_n dX1_scaledDoubts_63 rfl rfl ?_
      have hie : i = n := by omega
      subst hie
      exact wp_lret dX1_scaledDoubts_64 rfl ⟨rfl, hF⟩
    · refine wp_iload dX1_scaledDoubts_11 rfl ?_
      refine wp_iconst (v := nI 1) dX1_scaledDoubts_13 rfl ?_
      refine wp_iadd_n dX1_scaledDoubts_14 ?_
      refine wp_istore (lv' := [(0, .ref 14), (1, .int (nI n)), (2, .long ((cl_cs Y n i).2)), (4, .int (nI i)), (5, .int (nI (i + 1)))]) dX1_scaledDoubts_15 (by decide) rfl ?_
      exact hI (by omega) 0 (by omega) E hF
  refine wp_lconst (v := 0) dX1_scaledDoubts_0 rfl ?_
  refine wp_lstore_n (lv' := [(0, .ref 14), (1, .int (nI n)), (2, .long 0)]) dX1_scaledDoubts_1 rfl (by decide) rfl ?_
  refine wp_iconst (v := nI 0) dX1_scaledDoubts_2 rfl ?_
  refine wp_istore (lv' := [(0, .ref 14), (1, .int (nI n)), (2, .long 0), (4, .int (nI 0))]) dX1_scaledDoubts_3 (by decide) rfl ?_
  exact hL 0 (by omega) D cl_fa.rf
set_option maxHeartbeats 4000000 in
set_option maxRecDepth 100000 in
theorem c_X1_sweptTimes35 (g : sr_G) (D : sr_St) (Y : cl_T) (hok : cl_ok 35 45 54 Y D) (F : Nat → Int32) (hf : ∀ k, k < 8 → D.1 55 k = F k) (c : Nat) (hc : c < 8) : Con g M_X1_sweptTimes [.ref 35, .int (nI c)] D (sr_ret (some (.long (cl_st (cl_s Y) F (cl_go Y 7).1 c 7))) D) := by
  refine Con.of pn_X1_sweptTimes (Nat.le_of_ble_eq_true rfl) ?_
  show WP g M_X1_sweptTimes 0 [(0, .ref 35), (1, .int (nI c))] [] D _
  have hL : ∀ i, i ≤ 7 → WP g M_X1_sweptTimes 5 [(0, .ref 35), (1, .int (nI c)), (2, .long (cl_st (cl_s Y) F (cl_go Y 7).1 c i)), (4, .int (nI i))] [] D (sr_ret (some (.long (cl_st (cl_s Y) F (cl_go Y 7).1 c 7))) D) := by
    refine sr_up (fun i hi ih => ?_)
    refine wp_iload dX1_sweptTimes_5 rfl ?_
    refine wp_bipush (v := nI 7) dX1_sweptTimes_7 rfl ?_
    refine wp_icmp_ge_n (tgt := 49) dX1_sweptTimes_9 (by decide) (by first | omega | (split <;> omega)) (by first | omega | (split <;> omega)) (fun c270 => ?_) (fun c270 => ?_)
    · refine wp_lload_n dX1_sweptTimes_49 rfl rfl ?_
      have hi7 : i = 7 := by omega
      subst hi7
      exact wp_lret dX1_sweptTimes_50 rfl ⟨rfl, rfl⟩
    · refine wp_aload_n dX1_sweptTimes_12 rfl rfl ?_
      refine wp_getR (r := 54) dX1_sweptTimes_13 fl_X1_27 (by decide) rfl rfl rfl ?_
      refine wp_iload dX1_sweptTimes_16 rfl ?_
      refine wp_zald dX1_sweptTimes_18 (by decide) rfl (show _ < 7 by omega) (by first | omega | (split <;> omega)) ?_
      rw [hok.2.2.2 i (by omega)]
      refine wp_if_eq_b (tgt := 43) dX1_sweptTimes_19 (by decide) (fun c271 => ?_) (fun c271 => ?_)
      · have hsi := c271
        refine wp_iinc_n (b := 1) (lv' := [(0, .ref 35), (1, .int (nI c)), (2, .long (cl_st (cl_s Y) F (cl_go Y 7).1 c i)), (4, .int (nI (i + 1)))]) dX1_sweptTimes_43 rfl rfl (by decide) rfl ?_
        refine wp_goto (tgt := 5) dX1_sweptTimes_46 (by decide) ?_
        have h := ih (by omega)
        rw [show cl_st (cl_s Y) F (cl_go Y 7).1 c (i + 1) = _ from if_neg (by rw [hsi]; decide)] at h
        exact h
      · have hsi := c271
        refine wp_lload_n dX1_sweptTimes_22 rfl rfl ?_
        refine wp_aload_n dX1_sweptTimes_23 rfl rfl ?_
        refine wp_getR (r := 55) dX1_sweptTimes_24 fl_X1_31 (by decide) rfl rfl rfl ?_
        refine wp_iload dX1_sweptTimes_27 rfl ?_
        refine wp_iald dX1_sweptTimes_29 (by decide) rfl (show _ < 8 by omega) (by first | omega | (split <;> omega)) ?_
        rw [hf i (by omega)]
        refine wp_i2l dX1_sweptTimes_30 ?_
        refine wp_aload_n dX1_sweptTimes_31 rfl rfl ?_
        refine wp_getR (r := 45) dX1_sweptTimes_32 fl_X1_24 (by decide) rfl rfl rfl ?_
        refine wp_iload dX1_sweptTimes_35 rfl ?_
        refine wp_aald dX1_sweptTimes_37 (by decide) rfl (show _ < 8 by omega) (by first | omega | (split <;> omega)) ?_
        refine wp_iload_n dX1_sweptTimes_38 rfl rfl ?_
        refine wp_lald dX1_sweptTimes_39 (by omega) (sr_kr (b := 45) (by decide) (by omega)).1 (by rw [(sr_kr (b := 45) (by decide) (by omega)).2]; omega) (by first | omega | (split <;> omega)) ?_
        rw [hok.1 i c (by omega) hc]
        refine wp_lmul dX1_sweptTimes_40 ?_
        refine wp_ladd dX1_sweptTimes_41 ?_
        refine wp_lstore_n (lv' := [(0, .ref 35), (1, .int (nI c)), (2, .long ((cl_st (cl_s Y) F (cl_go Y 7).1 c i) + (((F i).toInt64) * ((cl_go Y 7).1 i c)))), (4, .int (nI i))]) dX1_sweptTimes_42 rfl (by decide) rfl ?_
        refine wp_iinc_n (b := 1) (lv' := [(0, .ref 35), (1, .int (nI c)), (2, .long ((cl_st (cl_s Y) F (cl_go Y 7).1 c i) + (((F i).toInt64) * ((cl_go Y 7).1 i c)))), (4, .int (nI (i + 1)))]) dX1_sweptTimes_43 rfl rfl (by decide) rfl ?_
        refine wp_goto (tgt := 5) dX1_sweptTimes_46 (by decide) ?_
        have h := ih (by omega)
        rw [show cl_st (cl_s Y) F (cl_go Y 7).1 c (i + 1) = _ from if_pos hsi] at h
        exact h
  refine wp_lconst (v := 0) dX1_sweptTimes_0 rfl ?_
  refine wp_lstore_n (lv' := [(0, .ref 35), (1, .int (nI c)), (2, .long 0)]) dX1_sweptTimes_1 rfl (by decide) rfl ?_
  refine wp_iconst (v := nI 0) dX1_sweptTimes_2 rfl ?_
  refine wp_istore (lv' := [(0, .ref 35), (1, .int (nI c)), (2, .long 0), (4, .int (nI 0))]) dX1_sweptTimes_3 (by decide) rfl ?_
  exact hL 0 (by omega)
set_option maxHeartbeats 4000000 in
set_option maxRecDepth 100000 in
theorem c_X1_isKnown35 (g : sr_G) (D : sr_St) (Y : cl_T) (hok : cl_ok 35 45 54 Y D) (F : Nat → Int32) (hf : ∀ k, k < 8 → D.1 55 k = F k) : Con g M_X1_isKnown [.ref 35] D (sr_ret (some (.int (sr_b (cl_kn Y F)))) D) := by
  refine Con.of pn_X1_isKnown (Nat.le_of_ble_eq_true rfl) ?_
  show WP g M_X1_isKnown 0 [(0, .ref 35)] [] D _
  have hL : ∀ i, i ≤ 7 → cl_kb (cl_s Y) F (cl_go Y 7).1 (cl_go Y 7).2.1 i = true → WP g M_X1_isKnown 2 [(0, .ref 35), (1, .int (nI i))] [] D (sr_ret (some (.int (sr_b (cl_kn Y F)))) D) := by
    refine sr_up (fun i hi ih hk => ?_)
    refine wp_iload_n dX1_isKnown_2 rfl rfl ?_
    refine wp_bipush (v := nI 7) dX1_isKnown_3 rfl ?_
    refine wp_icmp_ge_n (tgt := 46) dX1_isKnown_5 (by decide) (by first | omega | (split <;> omega)) (by first | omega | (split <;> omega)) (fun c272 => ?_) (fun c272 => ?_)
    · refine wp_iconst (v := nI 1) dX1_isKnown_46 rfl ?_
      have hi7 : i = 7 := by omega
      subst hi7
      exact wp_zret dX1_isKnown_47 rfl (Or.inr rfl) ⟨sr_bt hk, rfl⟩
    · refine wp_aload_n dX1_isKnown_8 rfl rfl ?_
      refine wp_getR (r := 54) dX1_isKnown_9 fl_X1_27 (by decide) rfl rfl rfl ?_
      refine wp_iload_n dX1_isKnown_12 rfl rfl ?_
      refine wp_zald dX1_isKnown_13 (by decide) rfl (show _ < 7 by omega) (by first | omega | (split <;> omega)) ?_
      rw [hok.2.2.2 i (by omega)]
      refine wp_if_ne_b (tgt := 40) dX1_isKnown_14 (by decide) (fun c273 => ?_) (fun c273 => ?_)
      · have hsi := c273
        refine wp_iinc_n (b := 1) (lv' := [(0, .ref 35), (1, .int (nI (i + 1)))]) dX1_isKnown_40 rfl rfl (by decide) rfl ?_
        refine wp_goto (tgt := 2) dX1_isKnown_43 (by decide) ?_
        refine ih (by omega) ?_
        show (cl_kb (cl_s Y) F (cl_go Y 7).1 (cl_go Y 7).2.1 i && (cl_s Y i || decide _)) = true
        rw [hk, hsi]
        rfl
      · have hsi := c273
        refine wp_aload_n dX1_isKnown_17 rfl rfl ?_
        refine wp_iload_n dX1_isKnown_18 rfl rfl ?_
        refine wp_callV (M2 := M_X1_sweptTimes) (n := 1) (As := [.int (nI i)]) (st := []) dX1_isKnown_19 (c_X1_sweptTimes35 g D Y hok F hf i (by omega)) ca_X1_42 ⟨nm_X1_sweptTimes, by decide, by decide⟩ rfl (by decide) rfl rfl rfl (Nat.le_of_ble_eq_true rfl) (fun r274 E275 q276 => ?_)
        obtain ⟨rfl, rfl⟩ := q276
        show WP g _ _ _ (.long (cl_st (cl_s Y) F (cl_go Y 7).1 i 7) :: _) _ _
        refine wp_aload_n dX1_isKnown_22 rfl rfl ?_
        refine wp_getJ dX1_isKnown_23 fl_X1_11 (by decide) rfl rfl ?_
        rw [hok.2.1]
        refine wp_aload_n dX1_isKnown_26 rfl rfl ?_
        refine wp_getR (r := 55) dX1_isKnown_27 fl_X1_31 (by decide) rfl rfl rfl ?_
        refine wp_iload_n dX1_isKnown_30 rfl rfl ?_
        refine wp_iald dX1_isKnown_31 (by decide) rfl (show _ < 8 by omega) (by first | omega | (split <;> omega)) ?_
        rw [hf i (by omega)]
        refine wp_i2l dX1_isKnown_32 ?_
        refine wp_lmul dX1_isKnown_33 ?_
        refine wp_lcmp_eq (tgt := 40) dX1_isKnown_34 dX1_isKnown_35 (by decide) (fun c277 => ?_) (fun c277 => ?_)
        · have hee := c277
          refine wp_iinc_n (b := 1) (lv' := [(0, .ref 35), (1, .int (nI (i + 1)))]) dX1_isKnown_40 rfl rfl (by decide) rfl ?_
          refine wp_goto (tgt := 2) dX1_isKnown_43 (by decide) ?_
          refine ih (by omega) ?_
          show (cl_kb (cl_s Y) F (cl_go Y 7).1 (cl_go Y 7).2.1 i && (cl_s Y i || decide _)) = true
          rw [hk, decide_eq_true hee, Bool.or_true]
          rfl
        · have hee := c277
          refine wp_iconst (v := nI 0) dX1_isKnown_38 rfl ?_
          refine wp_zret dX1_isKnown_39 rfl (Or.inl rfl) ⟨sr_bf ?_, rfl⟩
          refine cl_kb_f (c := i) ?_ 7 (by omega)
          show (cl_kb (cl_s Y) F (cl_go Y 7).1 (cl_go Y 7).2.1 i && (cl_s Y i || decide _)) = false
          rw [hk, hsi, decide_eq_false hee]; rfl
  refine wp_iconst (v := nI 0) dX1_isKnown_0 rfl ?_
  refine wp_istore_n (lv' := [(0, .ref 35), (1, .int (nI 0))]) dX1_isKnown_1 rfl (by decide) rfl ?_
  exact hL 0 (by omega) rfl
set_option maxHeartbeats 4000000 in
set_option maxRecDepth 100000 in
theorem c_X1_scaledValue35 (g : sr_G) (D : sr_St) (Y : cl_T) (hok : cl_ok 35 45 54 Y D) (F : Nat → Int32) (hf : ∀ k, k < 8 → D.1 55 k = F k) : Con g M_X1_scaledValue [.ref 35] D (sr_ret (some (.long (cl_val Y F))) D) := by
  refine Con.of pn_X1_scaledValue (Nat.le_of_ble_eq_true rfl) ?_
  show WP g M_X1_scaledValue 0 [(0, .ref 35)] [] D _
  refine wp_aload_n dX1_scaledValue_0 rfl rfl ?_
  refine wp_bipush (v := nI 7) dX1_scaledValue_1 rfl ?_
  refine wp_callV (M2 := M_X1_sweptTimes) (n := 1) (As := [.int (nI 7)]) (st := []) dX1_scaledValue_3 (c_X1_sweptTimes35 g D Y hok F hf 7 (by omega)) ca_X1_42 ⟨nm_X1_sweptTimes, by decide, by decide⟩ rfl (by decide) rfl rfl rfl (Nat.le_of_ble_eq_true rfl) (fun r278 E279 q280 => ?_)
  obtain ⟨rfl, rfl⟩ := q280
  show WP g _ _ _ (.long (cl_st (cl_s Y) F (cl_go Y 7).1 7 7) :: _) _ _
  exact wp_lret dX1_scaledValue_6 rfl ⟨rfl, rfl⟩
set_option maxHeartbeats 4000000 in
set_option maxRecDepth 100000 in
theorem c_X1_scaledSum35 (g : sr_G) (D : sr_St) (Y : cl_T) (hok : cl_ok 35 45 54 Y D) : Con g M_X1_scaledSum [.ref 35] D (sr_ret (some (.long (cl_sum Y))) D) := by
  refine Con.of pn_X1_scaledSum (Nat.le_of_ble_eq_true rfl) ?_
  show WP g M_X1_scaledSum 0 [(0, .ref 35)] [] D _
  refine wp_aload_n dX1_scaledSum_0 rfl rfl ?_
  refine wp_getR (r := 45) dX1_scaledSum_1 fl_X1_24 (by decide) rfl rfl rfl ?_
  refine wp_bipush (v := nI 7) dX1_scaledSum_4 rfl ?_
  refine wp_aald dX1_scaledSum_6 (by decide) rfl (by decide) (by first | omega | (split <;> omega)) ?_
  refine wp_bipush (v := nI 7) dX1_scaledSum_7 rfl ?_
  refine wp_lald dX1_scaledSum_9 (by omega) (sr_kr (b := 45) (by decide) (by omega)).1 (by rw [(sr_kr (b := 45) (by decide) (by omega)).2]; omega) (by first | omega | (split <;> omega)) ?_
  rw [hok.1 7 7 (by omega) (by omega)]
  exact wp_lret dX1_scaledSum_10 rfl ⟨rfl, rfl⟩
set_option maxHeartbeats 4000000 in
set_option maxRecDepth 100000 in
theorem c_X1_scaledDoubt35 (g : sr_G) (D : sr_St) (Y : cl_T) (hok : cl_ok 35 45 54 Y D) (F : Nat → Int32) (hf : ∀ k, k < 8 → D.1 55 k = F k) : Con g M_X1_scaledDoubt [.ref 35] D (sr_ret (some (.long (cl_dou Y F))) D) := by
  refine Con.of pn_X1_scaledDoubt (Nat.le_of_ble_eq_true rfl) ?_
  show WP g M_X1_scaledDoubt 0 [(0, .ref 35)] [] D _
  have hL : ∀ i, i ≤ 7 → WP g M_X1_scaledDoubt 4 [(0, .ref 35), (1, .long (cl_db (cl_s Y) F (cl_go Y 7).1 i)), (3, .int (nI i))] [] D (sr_ret (some (.long (cl_dou Y F))) D) := by
    refine sr_up (fun i hi ih => ?_)
    refine wp_iload_n dX1_scaledDoubt_4 rfl rfl ?_
    refine wp_bipush (v := nI 7) dX1_scaledDoubt_5 rfl ?_
    refine wp_icmp_ge_n (tgt := 50) dX1_scaledDoubt_7 (by decide) (by first | omega | (split <;> omega)) (by first | omega | (split <;> omega)) (fun c281 => ?_) (fun c281 => ?_)
    · refine wp_lload_n dX1_scaledDoubt_50 rfl rfl ?_
      have hi7 : i = 7 := by omega
      subst hi7
      exact wp_lret dX1_scaledDoubt_51 rfl ⟨rfl, rfl⟩
    · refine wp_aload_n dX1_scaledDoubt_10 rfl rfl ?_
      refine wp_getR (r := 54) dX1_scaledDoubt_11 fl_X1_27 (by decide) rfl rfl rfl ?_
      refine wp_iload_n dX1_scaledDoubt_14 rfl rfl ?_
      refine wp_zald dX1_scaledDoubt_15 (by decide) rfl (show _ < 7 by omega) (by first | omega | (split <;> omega)) ?_
      rw [hok.2.2.2 i (by omega)]
      refine wp_if_eq_b (tgt := 44) dX1_scaledDoubt_16 (by decide) (fun c282 => ?_) (fun c282 => ?_)
      · have hsi := c282
        refine wp_iinc_n (b := 1) (lv' := [(0, .ref 35), (1, .long (cl_db (cl_s Y) F (cl_go Y 7).1 i)), (3, .int (nI (i + 1)))]) dX1_scaledDoubt_44 rfl rfl (by decide) rfl ?_
        refine wp_goto (tgt := 4) dX1_scaledDoubt_47 (by decide) ?_
        have h := ih (by omega)
        rw [show cl_db (cl_s Y) F (cl_go Y 7).1 (i + 1) = _ from if_neg (fun z => by rw [hsi] at z; exact absurd z.1 (by decide))] at h
        exact h
      · have hsi := c282
        refine wp_aload_n dX1_scaledDoubt_19 rfl rfl ?_
        refine wp_getR (r := 55) dX1_scaledDoubt_20 fl_X1_31 (by decide) rfl rfl rfl ?_
        refine wp_iload_n dX1_scaledDoubt_23 rfl rfl ?_
        refine wp_iald dX1_scaledDoubt_24 (by decide) rfl (show _ < 8 by omega) (by first | omega | (split <;> omega)) ?_
        rw [hf i (by omega)]
        refine wp_if_eq (tgt := 44) dX1_scaledDoubt_25 (by decide) (fun c283 => ?_) (fun c283 => ?_)
        · have hee := c283
          refine wp_iinc_n (b := 1) (lv' := [(0, .ref 35), (1, .long (cl_db (cl_s Y) F (cl_go Y 7).1 i)), (3, .int (nI (i + 1)))]) dX1_scaledDoubt_44 rfl rfl (by decide) rfl ?_
          refine wp_goto (tgt := 4) dX1_scaledDoubt_47 (by decide) ?_
          have h := ih (by omega)
          rw [show cl_db (cl_s Y) F (cl_go Y 7).1 (i + 1) = _ from if_neg (fun z => z.2 hee)] at h
          exact h
        · have hee := c283
          refine wp_lload_n dX1_scaledDoubt_28 rfl rfl ?_
          refine wp_aload_n dX1_scaledDoubt_29 rfl rfl ?_
          refine wp_getR (r := 55) dX1_scaledDoubt_30 fl_X1_31 (by decide) rfl rfl rfl ?_
          refine wp_iload_n dX1_scaledDoubt_33 rfl rfl ?_
          refine wp_iald dX1_scaledDoubt_34 (by decide) rfl (show _ < 8 by omega) (by first | omega | (split <;> omega)) ?_
          rw [hf i (by omega)]
          refine wp_i2l dX1_scaledDoubt_35 ?_
          refine wp_aload_n dX1_scaledDoubt_36 rfl rfl ?_
          refine wp_iload_n dX1_scaledDoubt_37 rfl rfl ?_
          refine wp_callV (M2 := M_X1_sweptTimes) (n := 1) (As := [.int (nI i)]) (st := [.long ((F i).toInt64), .long (cl_db (cl_s Y) F (cl_go Y 7).1 i)]) dX1_scaledDoubt_38 (c_X1_sweptTimes35 g D Y hok F hf i (by omega)) ca_X1_42 ⟨nm_X1_sweptTimes, by decide, by decide⟩ rfl (by decide) rfl rfl rfl (Nat.le_of_ble_eq_true rfl) (fun r284 E285 q286 => ?_)
          obtain ⟨rfl, rfl⟩ := q286
          show WP g _ _ _ (.long (cl_st (cl_s Y) F (cl_go Y 7).1 i 7) :: _) _ _
          refine wp_lmul dX1_scaledDoubt_41 ?_
          refine wp_lsub dX1_scaledDoubt_42 ?_
          refine wp_lstore_n (lv' := [(0, .ref 35), (1, .long ((cl_db (cl_s Y) F (cl_go Y 7).1 i) - (((F i).toInt64) * (cl_st (cl_s Y) F (cl_go Y 7).1 i 7)))), (3, .int (nI i))]) dX1_scaledDoubt_43 rfl (by decide) rfl ?_
          refine wp_iinc_n (b := 1) (lv' := [(0, .ref 35), (1, .long ((cl_db (cl_s Y) F (cl_go Y 7).1 i) - (((F i).toInt64) * (cl_st (cl_s Y) F (cl_go Y 7).1 i 7)))), (3, .int (nI (i + 1)))]) dX1_scaledDoubt_44 rfl rfl (by decide) rfl ?_
          refine wp_goto (tgt := 4) dX1_scaledDoubt_47 (by decide) ?_
          have h := ih (by omega)
          rw [show cl_db (cl_s Y) F (cl_go Y 7).1 (i + 1) = _ from if_pos ⟨hsi, hee⟩] at h
          exact h
  refine wp_lconst (v := 0) dX1_scaledDoubt_0 rfl ?_
  refine wp_lstore_n (lv' := [(0, .ref 35), (1, .long 0)]) dX1_scaledDoubt_1 rfl (by decide) rfl ?_
  refine wp_iconst (v := nI 0) dX1_scaledDoubt_2 rfl ?_
  refine wp_istore_n (lv' := [(0, .ref 35), (1, .long 0), (3, .int (nI 0))]) dX1_scaledDoubt_3 rfl (by decide) rfl ?_
  exact hL 0 (by omega)
set_option maxHeartbeats 4000000 in
set_option maxRecDepth 100000 in
theorem c_X1_couplesKnown35 (g : sr_G) (D : sr_St) (Y : cl_T) (hok : cl_ok 35 45 54 Y D) (n : Nat) (hn6 : n ≤ 6) : Con g M_X1_couplesKnown [.ref 35, .int (nI n)] D (fun q D' => q = some (.int (nI (cl_cs Y n n).1)) ∧ cl_fa 55 D D') := by
  refine Con.of pn_X1_couplesKnown (Nat.le_of_ble_eq_true rfl) ?_
  show WP g M_X1_couplesKnown 0 [(0, .ref 35), (1, .int (nI n))] [] D _
  have hL : ∀ i, i ≤ n → ∀ E : sr_St, cl_fa 55 D E → WP g M_X1_couplesKnown 4 [(0, .ref 35), (1, .int (nI n)), (2, .int (nI ((cl_cs Y n i).1))), (3, .int (nI i))] [] E (fun q D' => q = some (.int (nI (cl_cs Y n n).1)) ∧ cl_fa 55 D D') := by
    refine sr_up (fun i hi ih E hF => ?_)
    have hI : i < n → ∀ j, j ≤ n - (i + 1) → ∀ E : sr_St, cl_fa 55 D E → WP g M_X1_couplesKnown 14 [(0, .ref 35), (1, .int (nI n)), (2, .int (nI ((cl_cp Y i j (cl_cs Y n i)).1))), (3, .int (nI i)), (4, .int (nI (i + 1 + j)))] [] E (fun q D' => q = some (.int (nI (cl_cs Y n n).1)) ∧ cl_fa 55 D D') := by
      intro hin
      refine sr_up (fun j hj ihj E hF => ?_)
      have hok1 := cl_ok_fa hok hF (by decide) (by decide)
      have hp1 := sr_pw1 (i := i) (by omega)
      have hp2 := sr_pw (show i ≤ 6 by omega)
      have hp3 : i + 1 + j < n → 2 ^ (i + 1 + j) ≤ 32 := fun h => Nat.le_trans (Nat.pow_le_pow_right (by decide) (show i + 1 + j ≤ 5 by omega)) (by decide)
      have hp4 : 2 ^ i ≤ 32 := Nat.le_trans (Nat.pow_le_pow_right (by decide) (show i ≤ 5 by omega)) (by decide)
      have hcl := cl_cp_le (Y := Y) (i := i) (a := cl_cs Y n i) j
      have hcl2 := cl_cs_le (Y := Y) (n := n) i
      refine wp_iload dX1_couplesKnown_14 rfl ?_
      refine wp_iload_n dX1_couplesKnown_16 rfl rfl ?_
      refine wp_icmp_ge_n (tgt := 49) dX1_couplesKnown_17 (by decide) (by first | omega | (split <;> omega)) (by first | omega | (split <;> omega)) (fun c287 => ?_) (fun c287 => ?_)
      · refine wp_iinc_n (b := 1) (lv' := [(0, .ref 35), (1, .int (nI n)), (2, .int (nI ((cl_cp Y i j (cl_cs Y n i)).1))), (3, .int (nI (i + 1))), (4, .int (nI (i + 1 + j)))]) dX1_couplesKnown_49 rfl rfl (by decide) rfl ?_
        refine wp_goto (tgt := 4) dX1_couplesKnown_52 (by decide) ?_
        have hje : j = n - (i + 1) := by omega
        subst hje
        exact wp_pick [0, 1, 2, 3] rfl (ih (by omega) E hF)
      · have hp5 := hp3 (by omega)
        refine wp_aload_n dX1_couplesKnown_20 rfl rfl ?_
        refine wp_iconst (v := nI 1) dX1_couplesKnown_21 rfl ?_
        refine wp_iload_n dX1_couplesKnown_22 rfl rfl ?_
        refine wp_ishl_n dX1_couplesKnown_23 (by omega) (by omega) ?_
        refine wp_iconst (v := nI 1) dX1_couplesKnown_24 rfl ?_
        refine wp_iload dX1_couplesKnown_25 rfl ?_
        refine wp_ishl_n dX1_couplesKnown_27 (by omega) (by omega) ?_
        refine wp_iconst (v := nI 0) dX1_couplesKnown_28 rfl ?_
        refine wp_iconst (v := nI 0) dX1_couplesKnown_29 rfl ?_
        refine wp_callV (M2 := M_X1_load) (n := 4) (As := [.int (nI (1 * 2 ^ i)), .int (nI (1 * 2 ^ (i + 1 + j))), .int (nI 0), .int (nI 0)]) (st := []) dX1_couplesKnown_30 (c_X1_load35 g E (1 * 2 ^ i) (1 * 2 ^ (i + 1 + j)) (by omega) (by omega) (nI 0) (nI 0)) ca_X1_46 ⟨nm_X1_load, by decide, by decide⟩ rfl (by decide) rfl rfl rfl (Nat.le_of_ble_eq_true rfl) (fun r288 E289 q290 => ?_)
        obtain ⟨rfl, hf, hfa⟩ := q290
        show WP g _ _ _ _ _ _
        have hok2 := cl_ok_fa hok1 hfa (by decide) (by decide)
        have hfr := hF.tr hfa
        refine wp_aload_n dX1_couplesKnown_33 rfl rfl ?_
        refine wp_callV (M2 := M_X1_isKnown) (n := 0) (As := []) (st := []) dX1_couplesKnown_34 (c_X1_isKnown35 g E289 Y hok2 (cl_cf i (i + 1 + j)) hf) ca_X1_50 ⟨nm_X1_isKnown, by decide, by decide⟩ rfl (by decide) rfl rfl rfl (Nat.le_of_ble_eq_true rfl) (fun r291 E292 q293 => ?_)
        obtain ⟨rfl, rfl⟩ := q293
        show WP g _ _ _ (.int (sr_b (cl_kn Y (cl_cf i (i + 1 + j)))) :: _) _ _
        refine wp_if_eq_b (tgt := 43) dX1_couplesKnown_37 (by decide) (fun c294 => ?_) (fun c294 => ?_)
        · have hkn := c294
          refine wp_iinc_n (b := 1) (lv' := [(0, .ref 35), (1, .int (nI n)), (2, .int (nI ((cl_cp Y i j (cl_cs Y n i)).1))), (3, .int (nI i)), (4, .int (nI (i + 1 + (j + 1))))]) dX1_couplesKnown_43 rfl rfl (by decide) rfl ?_
          refine wp_goto (tgt := 14) dX1_couplesKnown_46 (by decide) ?_
          have h := ihj (by omega) E289 hfr
          rw [show cl_cp Y i (j + 1) (cl_cs Y n i) = _ from if_neg (by rw [hkn]; decide)] at h
          exact h
        · have hkn := c294
          refine wp_iinc_n (b := 1) (lv' := [(0, .ref 35), (1, .int (nI n)), (2, .int (nI ((cl_cp Y i j (cl_cs Y n i)).1 + 1))), (3, .int (nI i)), (4, .int (nI (i + 1 + j)))]) dX1_couplesKnown_40 rfl rfl (by decide) rfl ?_
          refine wp_iinc_n (b := 1) (lv' := [(0, .ref 35), (1, .int (nI n)), (2, .int (nI ((cl_cp Y i j (cl_cs Y n i)).1 + 1))), (3, .int (nI i)), (4, .int (nI (i + 1 + (j + 1))))]) dX1_couplesKnown_43 rfl rfl (by decide) rfl ?_
          refine wp_goto (tgt := 14) dX1_couplesKnown_46 (by decide) ?_
          have h := ihj (by omega) E289 hfr
          rw [show cl_cp Y i (j + 1) (cl_cs Y n i) = _ from if_pos hkn] at h
          exact h
    refine wp_iload_n dX1_couplesKnown_4 rfl rfl ?_
    refine wp_iload_n dX1_couplesKnown_5 rfl rfl ?_
    refine wp_icmp_ge_n (tgt := 55) dX1_couplesKnown_6 (by decide) (by first | omega | (split <;> omega)) (by first | omega | (split <;> omega)) (fun c295 => ?_) (fun c295 => ?_)
    · refine wp_iload_n dX1_couplesKnown_55 rfl rfl ?_
      have hie : i = n := by omega
      subst hie
      exact wp_iret dX1_couplesKnown_56 rfl ⟨rfl, hF⟩
    · refine wp_iload_n dX1_couplesKnown_9 rfl rfl ?_
      refine wp_iconst (v := nI 1) dX1_couplesKnown_10 rfl ?_
      refine wp_iadd_n dX1_couplesKnown_11 ?_
      refine wp_istore (lv' := [(0, .ref 35), (1, .int (nI n)), (2, .int (nI ((cl_cs Y n i).1))), (3, .int (nI i)), (4, .int (nI (i + 1)))]) dX1_couplesKnown_12 (by decide) rfl ?_
      exact hI (by omega) 0 (by omega) E hF
  refine wp_iconst (v := nI 0) dX1_couplesKnown_0 rfl ?_
  refine wp_istore_n (lv' := [(0, .ref 35), (1, .int (nI n)), (2, .int (nI 0))]) dX1_couplesKnown_1 rfl (by decide) rfl ?_
  refine wp_iconst (v := nI 0) dX1_couplesKnown_2 rfl ?_
  refine wp_istore_n (lv' := [(0, .ref 35), (1, .int (nI n)), (2, .int (nI 0)), (3, .int (nI 0))]) dX1_couplesKnown_3 rfl (by decide) rfl ?_
  exact hL 0 (by omega) D cl_fa.rf
set_option maxHeartbeats 4000000 in
set_option maxRecDepth 100000 in
theorem c_X1_scaledDoubts35 (g : sr_G) (D : sr_St) (Y : cl_T) (hok : cl_ok 35 45 54 Y D) (n : Nat) (hn6 : n ≤ 6) : Con g M_X1_scaledDoubts [.ref 35, .int (nI n)] D (fun q D' => q = some (.long (cl_cs Y n n).2) ∧ cl_fa 55 D D') := by
  refine Con.of pn_X1_scaledDoubts (Nat.le_of_ble_eq_true rfl) ?_
  show WP g M_X1_scaledDoubts 0 [(0, .ref 35), (1, .int (nI n))] [] D _
  have hL : ∀ i, i ≤ n → ∀ E : sr_St, cl_fa 55 D E → WP g M_X1_scaledDoubts 5 [(0, .ref 35), (1, .int (nI n)), (2, .long ((cl_cs Y n i).2)), (4, .int (nI i))] [] E (fun q D' => q = some (.long (cl_cs Y n n).2) ∧ cl_fa 55 D D') := by
    refine sr_up (fun i hi ih E hF => ?_)
    have hI : i < n → ∀ j, j ≤ n - (i + 1) → ∀ E : sr_St, cl_fa 55 D E → WP g M_X1_scaledDoubts 17 [(0, .ref 35), (1, .int (nI n)), (2, .long ((cl_cp Y i j (cl_cs Y n i)).2)), (4, .int (nI i)), (5, .int (nI (i + 1 + j)))] [] E (fun q D' => q = some (.long (cl_cs Y n n).2) ∧ cl_fa 55 D D') := by
      intro hin
      refine sr_up (fun j hj ihj E hF => ?_)
      have hok1 := cl_ok_fa hok hF (by decide) (by decide)
      have hp1 := sr_pw1 (i := i) (by omega)
      have hp2 := sr_pw (show i ≤ 6 by omega)
      have hp3 : i + 1 + j < n → 2 ^ (i + 1 + j) ≤ 32 := fun h => Nat.le_trans (Nat.pow_le_pow_right (by decide) (show i + 1 + j ≤ 5 by omega)) (by decide)
      have hp4 : 2 ^ i ≤ 32 := Nat.le_trans (Nat.pow_le_pow_right (by decide) (show i ≤ 5 by omega)) (by decide)
      have hcl := cl_cp_le (Y := Y) (i := i) (a := cl_cs Y n i) j
      have hcl2 := cl_cs_le (Y := Y) (n := n) i
      refine wp_iload dX1_scaledDoubts_17 rfl ?_
      refine wp_iload_n dX1_scaledDoubts_19 rfl rfl ?_
      refine wp_icmp_ge_n (tgt := 57) dX1_scaledDoubts_20 (by decide) (by first | omega | (split <;> omega)) (by first | omega | (split <;> omega)) (fun c296 => ?_) (fun c296 => ?_)
      · refine wp_iinc_n (b := 1) (lv' := [(0, .ref 35), (1, .int (nI n)), (2, .long ((cl_cp Y i j (cl_cs Y n i)).2)), (4, .int (nI (i + 1))), (5, .int (nI (i + 1 + j)))]) dX1_scaledDoubts_57 rfl rfl (by decide) rfl ?_
        refine wp_goto (tgt := 5) dX1_scaledDoubts_60 (by decide) ?_
        have hje : j = n - (i + 1) := by omega
        subst hje
        exact wp_pick [0, 1, 2, 3] rfl (ih (by omega) E hF)
      · have hp5 := hp3 (by omega)
        refine wp_aload_n dX1_scaledDoubts_23 rfl rfl ?_
        refine wp_iconst (v := nI 1) dX1_scaledDoubts_24 rfl ?_
        refine wp_iload dX1_scaledDoubts_25 rfl ?_
        refine wp_ishl_n dX1_scaledDoubts_27 (by omega) (by omega) ?_
        refine wp_iconst (v := nI 1) dX1_scaledDoubts_28 rfl ?_
        refine wp_iload dX1_scaledDoubts_29 rfl ?_
        refine wp_ishl_n dX1_scaledDoubts_31 (by omega) (by omega) ?_
        refine wp_iconst (v := nI 0) dX1_scaledDoubts_32 rfl ?_
        refine wp_iconst (v := nI 0) dX1_scaledDoubts_33 rfl ?_
        refine wp_callV (M2 := M_X1_load) (n := 4) (As := [.int (nI (1 * 2 ^ i)), .int (nI (1 * 2 ^ (i + 1 + j))), .int (nI 0), .int (nI 0)]) (st := []) dX1_scaledDoubts_34 (c_X1_load35 g E (1 * 2 ^ i) (1 * 2 ^ (i + 1 + j)) (by omega) (by omega) (nI 0) (nI 0)) ca_X1_46 ⟨nm_X1_load, by decide, by decide⟩ rfl (by decide) rfl rfl rfl (Nat.le_of_ble_eq_true rfl) (fun r297 E298 q299 => ?_)
        obtain ⟨rfl, hf, hfa⟩ := q299
        show WP g _ _ _ _ _ _
        have hok2 := cl_ok_fa hok1 hfa (by decide) (by decide)
        have hfr := hF.tr hfa
        refine wp_aload_n dX1_scaledDoubts_37 rfl rfl ?_
        refine wp_callV (M2 := M_X1_isKnown) (n := 0) (As := []) (st := []) dX1_scaledDoubts_38 (c_X1_isKnown35 g E298 Y hok2 (cl_cf i (i + 1 + j)) hf) ca_X1_50 ⟨nm_X1_isKnown, by decide, by decide⟩ rfl (by decide) rfl rfl rfl (Nat.le_of_ble_eq_true rfl) (fun r300 E301 q302 => ?_)
        obtain ⟨rfl, rfl⟩ := q302
        show WP g _ _ _ (.int (sr_b (cl_kn Y (cl_cf i (i + 1 + j)))) :: _) _ _
        refine wp_if_eq_b (tgt := 51) dX1_scaledDoubts_41 (by decide) (fun c303 => ?_) (fun c303 => ?_)
        · have hkn := c303
          refine wp_iinc_n (b := 1) (lv' := [(0, .ref 35), (1, .int (nI n)), (2, .long ((cl_cp Y i j (cl_cs Y n i)).2)), (4, .int (nI i)), (5, .int (nI (i + 1 + (j + 1))))]) dX1_scaledDoubts_51 rfl rfl (by decide) rfl ?_
          refine wp_goto (tgt := 17) dX1_scaledDoubts_54 (by decide) ?_
          have h := ihj (by omega) E298 hfr
          rw [show cl_cp Y i (j + 1) (cl_cs Y n i) = _ from if_neg (by rw [hkn]; decide)] at h
          exact h
        · have hkn := c303
          refine wp_lload_n dX1_scaledDoubts_44 rfl rfl ?_
          refine wp_aload_n dX1_scaledDoubts_45 rfl rfl ?_
          refine wp_callV (M2 := M_X1_scaledDoubt) (n := 0) (As := []) (st := [.long ((cl_cp Y i j (cl_cs Y n i)).2)]) dX1_scaledDoubts_46 (c_X1_scaledDoubt35 g E298 Y hok2 (cl_cf i (i + 1 + j)) hf) ca_X1_54 ⟨nm_X1_scaledDoubt, by decide, by decide⟩ rfl (by decide) rfl rfl rfl (Nat.le_of_ble_eq_true rfl) (fun r304 E305 q306 => ?_)
          obtain ⟨rfl, rfl⟩ := q306
          show WP g _ _ _ (.long (cl_dou Y (cl_cf i (i + 1 + j))) :: _) _ _
          refine wp_ladd dX1_scaledDoubts_49 ?_
          refine wp_lstore_n (lv' := [(0, .ref 35), (1, .int (nI n)), (2, .long (((cl_cp Y i j (cl_cs Y n i)).2) + (cl_dou Y (cl_cf i (i + 1 + j))))), (4, .int (nI i)), (5, .int (nI (i + 1 + j)))]) dX1_scaledDoubts_50 rfl (by decide) rfl ?_
          refine wp_iinc_n (b := 1) (lv' := [(0, .ref 35), (1, .int (nI n)), (2, .long (((cl_cp Y i j (cl_cs Y n i)).2) + (cl_dou Y (cl_cf i (i + 1 + j))))), (4, .int (nI i)), (5, .int (nI (i + 1 + (j + 1))))]) dX1_scaledDoubts_51 rfl rfl (by decide) rfl ?_
          refine wp_goto (tgt := 17) dX1_scaledDoubts_54 (by decide) ?_
          have h := ihj (by omega) E298 hfr
          rw [show cl_cp Y i (j + 1) (cl_cs Y n i) = _ from if_pos hkn] at h
          exact h
    refine wp_iload dX1_scaledDoubts_5 rfl ?_
    refine wp_iload_n dX1_scaledDoubts_7 rfl rfl ?_
    refine wp_icmp_ge_n (tgt := 63) dX1_scaledDoubts_8 (by decide) (by first | omega | (split <;> omega)) (by first | omega | (split <;> omega)) (fun c307 => ?_) (fun c307 => ?_)
    · refine wp_lload_n dX1_scaledDoubts_63 rfl rfl ?_
      have hie : i = n := by omega
      subst hie
      exact wp_lret dX1_scaledDoubts_64 rfl ⟨rfl, hF⟩
    · refine wp_iload dX1_scaledDoubts_11 rfl ?_
      refine wp_iconst (v := nI 1) dX1_scaledDoubts_13 rfl ?_
      refine wp_iadd_n dX1_scaledDoubts_14 ?_
      refine wp_istore (lv' := [(0, .ref 35), (1, .int (nI n)), (2, .long ((cl_cs Y n i).2)), (4, .int (nI i)), (5, .int (nI (i + 1)))]) dX1_scaledDoubts_15 (by decide) rfl ?_
      exact hI (by omega) 0 (by omega) E hF
  refine wp_lconst (v := 0) dX1_scaledDoubts_0 rfl ?_
  refine wp_lstore_n (lv' := [(0, .ref 35), (1, .int (nI n)), (2, .long 0)]) dX1_scaledDoubts_1 rfl (by decide) rfl ?_
  refine wp_iconst (v := nI 0) dX1_scaledDoubts_2 rfl ?_
  refine wp_istore (lv' := [(0, .ref 35), (1, .int (nI n)), (2, .long 0), (4, .int (nI 0))]) dX1_scaledDoubts_3 (by decide) rfl ?_
  exact hL 0 (by omega) D cl_fa.rf
