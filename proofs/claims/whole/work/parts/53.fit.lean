set_option maxHeartbeats 4000000 in
set_option maxRecDepth 100000 in
theorem c_X1_copyForms (g : sr_G) (D : sr_St) (Y : cl_T) (hY : mx 15 D Y) : Con g M_X1_copyForms [.ref 35, .ref 14] D (fun a D' => a = none ∧ mx 36 D' (fun a c => if a < 7 ∧ c < 7 then Y a c else 0) ∧ fr 36 D D') := by
  refine Con.of pn_X1_copyForms (Nat.le_of_ble_eq_true rfl) ?_
  show WP g M_X1_copyForms 0 [(0, .ref 35), (1, .ref 14)] [] D _
  have hM : ∀ F : sr_St, mx 36 F (fun _ _ => 0) → fr 36 D F → WP g M_X1_copyForms 4 [(0, .ref 35), (1, .ref 14)] [] F (fun a D' => a = none ∧ mx 36 D' (fun a c => if a < 7 ∧ c < 7 then Y a c else 0) ∧ fr 36 D D') := by
    intro F hF1 hF2
    have hL : ∀ i, i ≤ 7 → ∀ E : sr_St, cl_in 36 F (fun a c => if a < 7 ∧ c < 7 then Y a c else 0) (fun _ _ => 0) i 0 E → WP g M_X1_copyForms 6 [(0, .ref 35), (1, .ref 14), (2, .int (nI i))] [] E (fun a D' => a = none ∧ mx 36 D' (fun a c => if a < 7 ∧ c < 7 then Y a c else 0) ∧ fr 36 D D') := by
      refine sr_up (fun i hi ih E hE => ?_)
      have hI : i < 7 → ∀ j, j ≤ 7 → ∀ E : sr_St, cl_in 36 F (fun a c => if a < 7 ∧ c < 7 then Y a c else 0) (fun _ _ => 0) i j E → WP g M_X1_copyForms 14 [(0, .ref 35), (1, .ref 14), (2, .int (nI i)), (3, .int (nI j))] [] E (fun a D' => a = none ∧ mx 36 D' (fun a c => if a < 7 ∧ c < 7 then Y a c else 0) ∧ fr 36 D D') := by
        intro hin
        refine sr_up (fun j hj ihj E hE => ?_)
        refine wp_iload_n dX1_copyForms_14 rfl rfl ?_
        refine wp_bipush (v := nI 7) dX1_copyForms_15 rfl ?_
        refine wp_icmp_ge_n (tgt := 42) dX1_copyForms_17 (by decide) (by first | omega | (split <;> omega)) (by first | omega | (split <;> omega)) (fun c189 => ?_) (fun c189 => ?_)
        · refine wp_iinc_n (b := 1) (lv' := [(0, .ref 35), (1, .ref 14), (2, .int (nI (i + 1))), (3, .int (nI j))]) dX1_copyForms_42 rfl rfl (by decide) rfl ?_
          refine wp_goto (tgt := 6) dX1_copyForms_45 (by decide) ?_
          have hje : j = 7 := by omega
          subst hje
          exact wp_pick [0, 1, 2] rfl (ih (by omega) E (cl_in_row hE (fun c h1 h2 => by rw [if_neg (by omega)])))
        · refine wp_aload_n dX1_copyForms_20 rfl rfl ?_
          refine wp_getR (r := 36) dX1_copyForms_21 fl_X1_21 (by decide) rfl rfl rfl ?_
          refine wp_iload_n dX1_copyForms_24 rfl rfl ?_
          refine wp_aald dX1_copyForms_25 (by decide) rfl (show _ < 8 by omega) (by first | omega | (split <;> omega)) ?_
          refine wp_iload_n dX1_copyForms_26 rfl rfl ?_
          refine wp_aload_n dX1_copyForms_27 rfl rfl ?_
          refine wp_getR (r := 15) dX1_copyForms_28 fl_X1_21 (by decide) rfl rfl rfl ?_
          refine wp_iload_n dX1_copyForms_31 rfl rfl ?_
          refine wp_aald dX1_copyForms_32 (by decide) rfl (show _ < 8 by omega) (by first | omega | (split <;> omega)) ?_
          refine wp_iload_n dX1_copyForms_33 rfl rfl ?_
          refine wp_lald dX1_copyForms_34 (by omega) (sr_kr (b := 15) (by decide) (by omega)).1 (by rw [(sr_kr (b := 15) (by decide) (by omega)).2]; omega) (by first | omega | (split <;> omega)) ?_
          refine wp_last dX1_copyForms_35 (by omega) (sr_kr (b := 36) (by decide) (by omega)).1 (by rw [(sr_kr (b := 36) (by decide) (by omega)).2]; omega) (by first | omega | (split <;> omega)) ?_
          refine wp_D (fun D190 eD190 => ?_)
          refine wp_iinc_n (b := 1) (lv' := [(0, .ref 35), (1, .ref 14), (2, .int (nI i)), (3, .int (nI (j + 1)))]) dX1_copyForms_36 rfl rfl (by decide) rfl ?_
          refine wp_goto (tgt := 14) dX1_copyForms_39 (by decide) ?_
          subst eD190
          refine ihj (by omega) _ (cl_in_set (by omega) (by omega) hE ?_)
          rw [hE.2.2 (15 + 1 + i) (by omega), hF2.2 (15 + 1 + i) (by omega), hY i j (by omega) (by omega), if_pos ⟨hin, by omega⟩]
      refine wp_iload_n dX1_copyForms_6 rfl rfl ?_
      refine wp_bipush (v := nI 7) dX1_copyForms_7 rfl ?_
      refine wp_icmp_ge_n (tgt := 48) dX1_copyForms_9 (by decide) (by first | omega | (split <;> omega)) (by first | omega | (split <;> omega)) (fun c191 => ?_) (fun c191 => ?_)
      · refine wp_vret dX1_copyForms_48 rfl ⟨rfl, ?_⟩
        have hie : i = 7 := by omega
        subst hie
        have hz := cl_in_end hE (fun a c h1 h2 h3 => by rw [if_neg (by omega)])
        exact ⟨hz.1, hF2.tr hz.2⟩
      · refine wp_iconst (v := nI 0) dX1_copyForms_12 rfl ?_
        refine wp_istore_n (lv' := [(0, .ref 35), (1, .ref 14), (2, .int (nI i)), (3, .int (nI 0))]) dX1_copyForms_13 rfl (by decide) rfl ?_
        exact hI (by omega) 0 (by omega) E hE
    refine wp_iconst (v := nI 0) dX1_copyForms_4 rfl ?_
    refine wp_istore_n (lv' := [(0, .ref 35), (1, .ref 14), (2, .int (nI 0))]) dX1_copyForms_5 rfl (by decide) rfl ?_
    exact hL 0 (by omega) F (cl_in_0 hF1 fr.rf)
  refine wp_aload_n dX1_copyForms_0 rfl rfl ?_
  refine wp_callV (M2 := M_X1_clear) (n := 0) (As := []) (st := []) dX1_copyForms_1 (c_X1_clear35 g D) ca_X1_35 ⟨nm_X1_clear, by decide, by decide⟩ rfl (by decide) rfl rfl rfl (Nat.le_of_ble_eq_true rfl) (fun r192 E193 q194 => ?_)
  obtain ⟨rfl, hc1, hc2⟩ := q194
  show WP g _ _ _ _ _ _
  exact hM E193 hc1 hc2
set_option maxHeartbeats 4000000 in
set_option maxRecDepth 100000 in
theorem c_X1_copyMargins (g : sr_G) (D : sr_St) (Y Z : cl_T) (hY : mx 15 D Y) (hZ : mx 36 D Z) : Con g M_X1_copyMargins [.ref 35, .ref 14] D (fun a D' => a = none ∧ mx 36 D' (fun a c => if a = 7 ∨ c = 7 then Y a c else Z a c) ∧ fr 36 D D') := by
  refine Con.of pn_X1_copyMargins (Nat.le_of_ble_eq_true rfl) ?_
  show WP g M_X1_copyMargins 0 [(0, .ref 35), (1, .ref 14)] [] D _
  have hL : ∀ i, i ≤ 8 → ∀ E : sr_St, mx 36 E (fun a c => if (c = 7 ∧ a < i) ∨ (a = 7 ∧ c < i) then Y a c else Z a c) → fr 36 D E → WP g M_X1_copyMargins 2 [(0, .ref 35), (1, .ref 14), (2, .int (nI i))] [] E (fun a D' => a = none ∧ mx 36 D' (fun a c => if a = 7 ∨ c = 7 then Y a c else Z a c) ∧ fr 36 D D') := by
    refine sr_up (fun i hi ih E hE hF => ?_)
    refine wp_iload_n dX1_copyMargins_2 rfl rfl ?_
    refine wp_bipush (v := nI 8) dX1_copyMargins_3 rfl ?_
    refine wp_icmp_ge_n (tgt := 50) dX1_copyMargins_5 (by decide) (by first | omega | (split <;> omega)) (by first | omega | (split <;> omega)) (fun c195 => ?_) (fun c195 => ?_)
    · refine wp_vret dX1_copyMargins_50 rfl ⟨rfl, fun a c ha hc => ?_, hF⟩
      show _ = (if a = 7 ∨ c = 7 then Y a c else Z a c)
      have hEb : E.2 (36 + 1 + a) c = if (c = 7 ∧ a < i) ∨ (a = 7 ∧ c < i) then Y a c else Z a c := hE a c ha hc
      rw [hEb]; by_cases e3 : a = 7 ∨ c = 7
      · rw [if_pos e3, if_pos (by omega)]
      · rw [if_neg e3, if_neg (by omega)]
    · refine wp_aload_n dX1_copyMargins_8 rfl rfl ?_
      refine wp_getR (r := 36) dX1_copyMargins_9 fl_X1_21 (by decide) rfl rfl rfl ?_
      refine wp_iload_n dX1_copyMargins_12 rfl rfl ?_
      refine wp_aald dX1_copyMargins_13 (by decide) rfl (show _ < 8 by omega) (by first | omega | (split <;> omega)) ?_
      refine wp_bipush (v := nI 7) dX1_copyMargins_14 rfl ?_
      refine wp_aload_n dX1_copyMargins_16 rfl rfl ?_
      refine wp_getR (r := 15) dX1_copyMargins_17 fl_X1_21 (by decide) rfl rfl rfl ?_
      refine wp_iload_n dX1_copyMargins_20 rfl rfl ?_
      refine wp_aald dX1_copyMargins_21 (by decide) rfl (show _ < 8 by omega) (by first | omega | (split <;> omega)) ?_
      refine wp_bipush (v := nI 7) dX1_copyMargins_22 rfl ?_
      refine wp_lald dX1_copyMargins_24 (by omega) (sr_kr (b := 15) (by decide) (by omega)).1 (by rw [(sr_kr (b := 15) (by decide) (by omega)).2]; omega) (by first | omega | (split <;> omega)) ?_
      refine wp_last dX1_copyMargins_25 (by omega) (sr_kr (b := 36) (by decide) (by omega)).1 (by rw [(sr_kr (b := 36) (by decide) (by omega)).2]; omega) (by first | omega | (split <;> omega)) ?_
      refine wp_D (fun D196 eD196 => ?_)
      refine wp_aload_n dX1_copyMargins_26 rfl rfl ?_
      refine wp_getR (r := 36) dX1_copyMargins_27 fl_X1_21 (by decide) rfl rfl rfl ?_
      refine wp_bipush (v := nI 7) dX1_copyMargins_30 rfl ?_
      refine wp_aald dX1_copyMargins_32 (by decide) rfl (by decide) (by first | omega | (split <;> omega)) ?_
      refine wp_iload_n dX1_copyMargins_33 rfl rfl ?_
      refine wp_aload_n dX1_copyMargins_34 rfl rfl ?_
      refine wp_getR (r := 15) dX1_copyMargins_35 fl_X1_21 (by decide) rfl rfl rfl ?_
      refine wp_bipush (v := nI 7) dX1_copyMargins_38 rfl ?_
      refine wp_aald dX1_copyMargins_40 (by decide) rfl (by decide) (by first | omega | (split <;> omega)) ?_
      refine wp_iload_n dX1_copyMargins_41 rfl rfl ?_
      refine wp_lald dX1_copyMargins_42 (by omega) (sr_kr (b := 15) (by decide) (by omega)).1 (by rw [(sr_kr (b := 15) (by decide) (by omega)).2]; omega) (by first | omega | (split <;> omega)) ?_
      refine wp_last dX1_copyMargins_43 (by omega) (sr_kr (b := 36) (by decide) (by omega)).1 (by rw [(sr_kr (b := 36) (by decide) (by omega)).2]; omega) (by first | omega | (split <;> omega)) ?_
      refine wp_D (fun D197 eD197 => ?_)
      refine wp_iinc_n (b := 1) (lv' := [(0, .ref 35), (1, .ref 14), (2, .int (nI (i + 1)))]) dX1_copyMargins_44 rfl rfl (by decide) rfl ?_
      refine wp_goto (tgt := 2) dX1_copyMargins_47 (by decide) ?_
      subst eD196 eD197
      refine ih (by omega) _ (fun a c ha hc => ?_) (fr_set (i := 7) (fr_set (i := i) hF (by omega)) (by decide))
      show _ = (if (c = 7 ∧ a < i + 1) ∨ (a = 7 ∧ c < i + 1) then Y a c else Z a c)
      have hEb : E.2 (36 + 1 + a) c = if (c = 7 ∧ a < i) ∨ (a = 7 ∧ c < i) then Y a c else Z a c := hE a c ha hc
      rw [sr_sJ_2]
      by_cases e : 36 + 1 + a = 36 + 1 + 7 ∧ c = i
      · rw [if_pos e, sr_sJ_2, if_neg (by omega), hF.2 (15 + 1 + 7) (by omega), hY 7 i (by omega) (by omega), if_pos (by omega), e.2, show a = 7 by omega]
      · rw [if_neg e, sr_sJ_2]; by_cases e2 : 36 + 1 + a = 36 + 1 + i ∧ c = 7
        · rw [if_pos e2, hF.2 (15 + 1 + i) (by omega), hY i 7 (by omega) (by omega), if_pos (by omega), e2.2, show a = i by omega]
        · rw [if_neg e2, hEb]; by_cases e3 : (c = 7 ∧ a < i) ∨ (a = 7 ∧ c < i)
          · rw [if_pos e3, if_pos (by omega)]
          · rw [if_neg e3, if_neg (by omega)]
  refine wp_iconst (v := nI 0) dX1_copyMargins_0 rfl ?_
  refine wp_istore_n (lv' := [(0, .ref 35), (1, .ref 14), (2, .int (nI 0))]) dX1_copyMargins_1 rfl (by decide) rfl ?_
  exact hL 0 (by omega) D (fun a c ha hc => by show _ = (if (c = 7 ∧ a < 0) ∨ (a = 7 ∧ c < 0) then Y a c else Z a c); rw [if_neg (by omega)]; exact hZ a c ha hc) fr.rf
/-! solve -/
abbrev cl_S : Type := cl_T × Int64 × Nat
def cl_go (Y : cl_T) : Nat → cl_S
  | 0 => (Y, 1, 0)
  | c + 1 => if 0 < (cl_go Y c).1 c c then (cl_sw c (cl_go Y c).2.1 (cl_go Y c).1, (cl_go Y c).1 c c, (cl_go Y c).2.2 + 1) else cl_go Y c
def cl_s (Y : cl_T) (c : Nat) : Bool := decide (0 < (cl_go Y c).1 c c)
theorem cl_go_pos {Y : cl_T} : ∀ c, 0 < (cl_go Y c).2.1 ∧ (cl_go Y c).2.2 ≤ c
  | 0 => ⟨by show (0 : Int64) < 1; decide, Nat.le_refl _⟩
  | c + 1 => by
    have h := cl_go_pos (Y := Y) c
    unfold cl_go
    by_cases e : 0 < (cl_go Y c).1 c c
    · rw [if_pos e]; exact ⟨e, by show _ + 1 ≤ _; omega⟩
    · rw [if_neg e]; exact ⟨h.1, by omega⟩
/-- solved: the table, the number below, what is swept -/
def cl_ok (o t w : Nat) (Y : cl_T) (D : sr_St) : Prop := mx t D (cl_go Y 7).1 ∧ D.2 o 0 = (cl_go Y 7).2.1 ∧ D.1 o 1 = nI (cl_go Y 7).2.2 ∧ ∀ k, k < 7 → D.1 w k = sr_b (cl_s Y k)
/-- what a solving leaves -/
def cl_fs (o t w : Nat) (D E : sr_St) : Prop := (∀ q k, ¬ (q = w) → ¬ (q = o ∧ k = 1) → E.1 q k = D.1 q k) ∧ ∀ q, ¬ q = o → ¬ (t < q ∧ q < t + 9) → E.2 q = D.2 q
set_option maxHeartbeats 4000000 in
set_option maxRecDepth 100000 in
theorem c_X1_solve14 (g : sr_G) (D : sr_St) (Y : cl_T) (hY : mx 15 D Y) : Con g M_X1_solve [.ref 14] D (fun q D' => q = none ∧ cl_ok 14 24 33 Y D' ∧ cl_fs 14 24 33 D D') := by
  refine Con.of pn_X1_solve (Nat.le_of_ble_eq_true rfl) ?_
  show WP g M_X1_solve 0 [(0, .ref 14)] [] D _
  have hC : ∀ z, z ≤ 7 → ∀ E : sr_St, mx 24 E (cl_go Y z).1 → E.2 14 0 = (cl_go Y z).2.1 → E.1 14 1 = nI (cl_go Y z).2.2 → (∀ k, k < z → E.1 33 k = sr_b (cl_s Y k)) → cl_fs 14 24 33 D E → WP g M_X1_solve 56 [(0, .ref 14), (1, .int (nI z))] [] E (fun q D' => q = none ∧ cl_ok 14 24 33 Y D' ∧ cl_fs 14 24 33 D D') := by
    refine sr_up (fun z hz ih E h1 h2 h3 h4 h5 => ?_)
    have hps := cl_go_pos (Y := Y) z
    refine wp_iload_n dX1_solve_56 rfl rfl ?_
    refine wp_bipush (v := nI 7) dX1_solve_57 rfl ?_
    refine wp_icmp_ge_n (tgt := 116) dX1_solve_59 (by decide) (by first | omega | (split <;> omega)) (by first | omega | (split <;> omega)) (fun c198 => ?_) (fun c198 => ?_)
    · have hz7 : z = 7 := by omega
      subst hz7
      exact wp_vret dX1_solve_116 rfl ⟨rfl, ⟨h1, h2, h3, h4⟩, h5⟩
    · refine wp_aload_n dX1_solve_62 rfl rfl ?_
      refine wp_getR (r := 33) dX1_solve_63 fl_X1_27 (by decide) rfl rfl rfl ?_
      refine wp_iload_n dX1_solve_66 rfl rfl ?_
      refine wp_aload_n dX1_solve_67 rfl rfl ?_
      refine wp_getR (r := 24) dX1_solve_68 fl_X1_24 (by decide) rfl rfl rfl ?_
      refine wp_iload_n dX1_solve_71 rfl rfl ?_
      refine wp_aald dX1_solve_72 (by decide) rfl (show _ < 8 by omega) (by first | omega | (split <;> omega)) ?_
      refine wp_iload_n dX1_solve_73 rfl rfl ?_
      refine wp_lald dX1_solve_74 (by omega) (sr_kr (b := 24) (by decide) (by omega)).1 (by rw [(sr_kr (b := 24) (by decide) (by omega)).2]; omega) (by first | omega | (split <;> omega)) ?_
      refine wp_lconst (v := 0) dX1_solve_75 rfl ?_
      rw [h1 z z (by omega) (by omega)]
      refine wp_lcmp_le (tgt := 84) dX1_solve_76 dX1_solve_77 (by decide) (fun c199 => ?_) (fun c199 => ?_)
      · have hpos : ¬ 0 < (cl_go Y z).1 z z := by rw [Int64.lt_iff_toInt_lt]; rw [Int64.le_iff_toInt_le] at c199; omega
        refine wp_iconst (v := nI 0) dX1_solve_84 rfl ?_
        refine wp_zast dX1_solve_85 (by decide) rfl (show _ < 7 by omega) (by first | omega | (split <;> omega)) ?_
        refine wp_D (fun D200 eD200 => ?_)
        have hF1 : mx 24 D200 (cl_go Y z).1 := by rw [eD200]; exact h1
        have hF2 : D200.2 14 0 = (cl_go Y z).2.1 := by rw [eD200]; exact h2
        have hF3 : D200.1 14 1 = nI (cl_go Y z).2.2 := by rw [eD200, sr_sI_1, if_neg (by omega)]; exact h3
        have hb : cl_s Y z = false := decide_eq_false hpos
        have hF4 : ∀ k, k < z + 1 → D200.1 33 k = sr_b (cl_s Y k) := by
          intro k hk
          rw [eD200, sr_sI_1]; by_cases e : k = z
          · rw [if_pos ⟨rfl, e⟩, e, hb]; rfl
          · rw [if_neg (fun h => e h.2)]; exact h4 k (by omega)
        have hF5 : cl_fs 14 24 33 D D200 := by rw [eD200]; exact ⟨fun q k a b => by rw [sr_sI_1, if_neg (fun h => a h.1)]; exact h5.1 q k a b, h5.2⟩
        refine wp_aload_n dX1_solve_86 rfl rfl ?_
        refine wp_getR (r := 33) dX1_solve_87 fl_X1_27 (by decide) rfl rfl rfl ?_
        refine wp_iload_n dX1_solve_90 rfl rfl ?_
        refine wp_zald dX1_solve_91 (by decide) rfl (show _ < 7 by omega) (by first | omega | (split <;> omega)) ?_
        rw [hF4 z (by omega), hb]
        show WP g _ _ _ (.int (nI 0) :: _) _ _
        refine wp_if_eq (tgt := 110) dX1_solve_92 (by decide) (fun _ => ?_) (fun c201 => absurd c201 (by decide))
        refine wp_iinc_n (b := 1) (lv' := [(0, .ref 14), (1, .int (nI (z + 1)))]) dX1_solve_110 rfl rfl (by decide) rfl ?_
        refine wp_goto (tgt := 56) dX1_solve_113 (by decide) ?_
        have hg : cl_go Y (z + 1) = cl_go Y z := if_neg hpos
        refine ih (by omega) D200 ?_ ?_ ?_ hF4 hF5
        · rw [hg]; exact hF1
        · rw [hg]; exact hF2
        · rw [hg]; exact hF3
      · have hpos : 0 < (cl_go Y z).1 z z := by rw [Int64.lt_iff_toInt_lt]; rw [Int64.le_iff_toInt_le] at c199; omega
        refine wp_iconst (v := nI 1) dX1_solve_80 rfl ?_
        refine wp_goto (tgt := 85) dX1_solve_81 (by decide) ?_
        refine wp_zast dX1_solve_85 (by decide) rfl (show _ < 7 by omega) (by first | omega | (split <;> omega)) ?_
        refine wp_D (fun D202 eD202 => ?_)
        have hF1 : mx 24 D202 (cl_go Y z).1 := by rw [eD202]; exact h1
        have hF2 : D202.2 14 0 = (cl_go Y z).2.1 := by rw [eD202]; exact h2
        have hF3 : D202.1 14 1 = nI (cl_go Y z).2.2 := by rw [eD202, sr_sI_1, if_neg (by omega)]; exact h3
        have hb : cl_s Y z = true := decide_eq_true hpos
        have hF4 : ∀ k, k < z + 1 → D202.1 33 k = sr_b (cl_s Y k) := by
          intro k hk
          rw [eD202, sr_sI_1]; by_cases e : k = z
          · rw [if_pos ⟨rfl, e⟩, e, hb]; rfl
          · rw [if_neg (fun h => e h.2)]; exact h4 k (by omega)
        have hF5 : cl_fs 14 24 33 D D202 := by rw [eD202]; exact ⟨fun q k a b => by rw [sr_sI_1, if_neg (fun h => a h.1)]; exact h5.1 q k a b, h5.2⟩
        refine wp_aload_n dX1_solve_86 rfl rfl ?_
        refine wp_getR (r := 33) dX1_solve_87 fl_X1_27 (by decide) rfl rfl rfl ?_
        refine wp_iload_n dX1_solve_90 rfl rfl ?_
        refine wp_zald dX1_solve_91 (by decide) rfl (show _ < 7 by omega) (by first | omega | (split <;> omega)) ?_
        rw [hF4 z (by omega), hb]
        show WP g _ _ _ (.int (nI 1) :: _) _ _
        refine wp_if_eq (tgt := 110) dX1_solve_92 (by decide) (fun c203 => absurd c203 (by decide)) (fun _ => ?_)
        refine wp_aload_n dX1_solve_95 rfl rfl ?_
        refine wp_iload_n dX1_solve_96 rfl rfl ?_
        refine wp_callV (M2 := M_X1_sweep) (n := 1) (As := [.int (nI z)]) (st := []) dX1_solve_97 (c_X1_sweep14 g D202 z (by omega) (cl_go Y z).2.1 hF2 hps.1 (cl_go Y z).1 hF1) ca_X1_38 ⟨nm_X1_sweep, by decide, by decide⟩ rfl (by decide) rfl rfl rfl (Nat.le_of_ble_eq_true rfl) (fun r204 E205 q206 => ?_)
        obtain ⟨rfl, k1, k2, k3, k4⟩ := q206
        show WP g _ _ _ _ _ _
        have kI : E205.1 14 1 = nI (cl_go Y z).2.2 := by rw [k3]; exact hF3
        refine wp_aload_n dX1_solve_100 rfl rfl ?_
        refine wp_dup dX1_solve_101 rfl ?_
        refine wp_getI_n (n := (cl_go Y z).2.2) dX1_solve_102 fl_X1_15 (by decide) rfl rfl (kI) ?_
        refine wp_iconst (v := nI 1) dX1_solve_105 rfl ?_
        refine wp_iadd_n dX1_solve_106 ?_
        refine wp_putI dX1_solve_107 fl_X1_15 (by decide) rfl rfl ?_
        refine wp_D (fun D207 eD207 => ?_)
        have k209 : D207.1 14 1 = nI (((cl_go Y z).2.2) + 1) := by rw [eD207, sr_sI_1, if_pos ⟨rfl, rfl⟩]
        refine wp_iinc_n (b := 1) (lv' := [(0, .ref 14), (1, .int (nI (z + 1)))]) dX1_solve_110 rfl rfl (by decide) rfl ?_
        refine wp_goto (tgt := 56) dX1_solve_113 (by decide) ?_
        have hg : cl_go Y (z + 1) = _ := if_pos hpos
        subst eD207
        refine ih (by omega) _ ?_ ?_ ?_ ?_ ?_
        · rw [hg]; exact k1
        · rw [hg]; exact k2
        · rw [hg, sr_sI_1, if_pos ⟨rfl, rfl⟩]
        · intro k hk; rw [sr_sI_1, if_neg (by omega), k3]; exact hF4 k hk
        · refine ⟨fun q k a b => ?_, fun q a b => ?_⟩
          · rw [sr_sI_1, if_neg b, k3]; exact hF5.1 q k a b
          · exact (k4 q a b).trans (hF5.2 q a b)
  have hL : ∀ i, i ≤ 8 → ∀ E : sr_St, cl_in 24 D (Y) (fun a c => D.2 (24 + 1 + a) c) i 0 E → WP g M_X1_solve 2 [(0, .ref 14), (1, .int (nI i))] [] E (fun q D' => q = none ∧ cl_ok 14 24 33 Y D' ∧ cl_fs 14 24 33 D D') := by
    refine sr_up (fun i hi ih E hE => ?_)
    have hI : i < 8 → ∀ j, j ≤ 8 → ∀ E : sr_St, cl_in 24 D (Y) (fun a c => D.2 (24 + 1 + a) c) i j E → WP g M_X1_solve 10 [(0, .ref 14), (1, .int (nI i)), (2, .int (nI j))] [] E (fun q D' => q = none ∧ cl_ok 14 24 33 Y D' ∧ cl_fs 14 24 33 D D') := by
      intro hin
      refine sr_up (fun j hj ihj E hE => ?_)
      refine wp_iload_n dX1_solve_10 rfl rfl ?_
      refine wp_bipush (v := nI 8) dX1_solve_11 rfl ?_
      refine wp_icmp_ge_n (tgt := 38) dX1_solve_13 (by decide) (by first | omega | (split <;> omega)) (by first | omega | (split <;> omega)) (fun c210 => ?_) (fun c210 => ?_)
      · refine wp_iinc_n (b := 1) (lv' := [(0, .ref 14), (1, .int (nI (i + 1))), (2, .int (nI j))]) dX1_solve_38 rfl rfl (by decide) rfl ?_
        refine wp_goto (tgt := 2) dX1_solve_41 (by decide) ?_
        have hje : j = 8 := by omega
        subst hje
        exact wp_pick [0, 1] rfl (ih (by omega) E (cl_in_row hE (fun c h1 h2 => absurd h1 (by omega))))
      · refine wp_aload_n dX1_solve_16 rfl rfl ?_
        refine wp_getR (r := 24) dX1_solve_17 fl_X1_24 (by decide) rfl rfl rfl ?_
        refine wp_iload_n dX1_solve_20 rfl rfl ?_
        refine wp_aald dX1_solve_21 (by decide) rfl (show _ < 8 by omega) (by first | omega | (split <;> omega)) ?_
        refine wp_iload_n dX1_solve_22 rfl rfl ?_
        refine wp_aload_n dX1_solve_23 rfl rfl ?_
        refine wp_getR (r := 15) dX1_solve_24 fl_X1_21 (by decide) rfl rfl rfl ?_
        refine wp_iload_n dX1_solve_27 rfl rfl ?_
        refine wp_aald dX1_solve_28 (by decide) rfl (show _ < 8 by omega) (by first | omega | (split <;> omega)) ?_
        refine wp_iload_n dX1_solve_29 rfl rfl ?_
        refine wp_lald dX1_solve_30 (by omega) (sr_kr (b := 15) (by decide) (by omega)).1 (by rw [(sr_kr (b := 15) (by decide) (by omega)).2]; omega) (by first | omega | (split <;> omega)) ?_
        refine wp_last dX1_solve_31 (by omega) (sr_kr (b := 24) (by decide) (by omega)).1 (by rw [(sr_kr (b := 24) (by decide) (by omega)).2]; omega) (by first | omega | (split <;> omega)) ?_
        refine wp_D (fun D211 eD211 => ?_)
        refine wp_iinc_n (b := 1) (lv' := [(0, .ref 14), (1, .int (nI i)), (2, .int (nI (j + 1)))]) dX1_solve_32 rfl rfl (by decide) rfl ?_
        refine wp_goto (tgt := 10) dX1_solve_35 (by decide) ?_
        subst eD211
        refine ihj (by omega) _ (cl_in_set (by omega) (by omega) hE ?_)
        rw [hE.2.2 (15 + 1 + i) (by omega)]; exact hY i j (by omega) (by omega)
    refine wp_iload_n dX1_solve_2 rfl rfl ?_
    refine wp_bipush (v := nI 8) dX1_solve_3 rfl ?_
    refine wp_icmp_ge_n (tgt := 44) dX1_solve_5 (by decide) (by first | omega | (split <;> omega)) (by first | omega | (split <;> omega)) (fun c212 => ?_) (fun c212 => ?_)
    · refine wp_aload_n dX1_solve_44 rfl rfl ?_
      refine wp_lconst (v := 1) dX1_solve_45 rfl ?_
      refine wp_putJ dX1_solve_46 fl_X1_11 (by decide) rfl rfl ?_
      refine wp_D (fun D213 eD213 => ?_)
      refine wp_aload_n dX1_solve_49 rfl rfl ?_
      refine wp_iconst (v := nI 0) dX1_solve_50 rfl ?_
      refine wp_putI dX1_solve_51 fl_X1_15 (by decide) rfl rfl ?_
      refine wp_D (fun D214 eD214 => ?_)
      refine wp_iconst (v := nI 0) dX1_solve_54 rfl ?_
      refine wp_istore_n (lv' := [(0, .ref 14), (1, .int (nI 0))]) dX1_solve_55 rfl (by decide) rfl ?_
      subst eD213 eD214
      have hie : i = 8 := by omega
      subst hie
      have hz := cl_in_end hE (fun a c h1 h2 h3 => absurd h1 (by omega))
      refine wp_pick [0, 1] rfl (hC 0 (by omega) _ ?_ ?_ ?_ (fun k hk => absurd hk (by omega)) ?_)
      · exact fun a c ha hc => by rw [sr_sI_2, sr_sJ_2, if_neg (by omega)]; exact hz.1 a c ha hc
      · rw [sr_sI_2, sr_sJ_2, if_pos ⟨rfl, rfl⟩]; rfl
      · rw [sr_sI_1, if_pos ⟨rfl, rfl⟩]; rfl
      · refine ⟨fun q k a b => ?_, fun q a b => ?_⟩
        · rw [sr_sI_1, if_neg b, sr_sJ_1, hz.2.1]
        · rw [sr_sI_2]; funext k; rw [sr_sJ_2, if_neg (fun h => a h.1)]; exact congrFun (hz.2.2 q b) k
    · refine wp_iconst (v := nI 0) dX1_solve_8 rfl ?_
      refine wp_istore_n (lv' := [(0, .ref 14), (1, .int (nI i)), (2, .int (nI 0))]) dX1_solve_9 rfl (by decide) rfl ?_
      exact hI (by omega) 0 (by omega) E hE
  refine wp_iconst (v := nI 0) dX1_solve_0 rfl ?_
  refine wp_istore_n (lv' := [(0, .ref 14), (1, .int (nI 0))]) dX1_solve_1 rfl (by decide) rfl ?_
  exact hL 0 (by omega) D (cl_in_0 (fun i j _ _ => rfl) fr.rf)
set_option maxHeartbeats 4000000 in
set_option maxRecDepth 100000 in
theorem c_X1_solve35 (g : sr_G) (D : sr_St) (Y : cl_T) (hY : mx 36 D Y) : Con g M_X1_solve [.ref 35] D (fun q D' => q = none ∧ cl_ok 35 45 54 Y D' ∧ cl_fs 35 45 54 D D') := by
  refine Con.of pn_X1_solve (Nat.le_of_ble_eq_true rfl) ?_
  show WP g M_X1_solve 0 [(0, .ref 35)] [] D _
  have hC : ∀ z, z ≤ 7 → ∀ E : sr_St, mx 45 E (cl_go Y z).1 → E.2 35 0 = (cl_go Y z).2.1 → E.1 35 1 = nI (cl_go Y z).2.2 → (∀ k, k < z → E.1 54 k = sr_b (cl_s Y k)) → cl_fs 35 45 54 D E → WP g M_X1_solve 56 [(0, .ref 35), (1, .int (nI z))] [] E (fun q D' => q = none ∧ cl_ok 35 45 54 Y D' ∧ cl_fs 35 45 54 D D') := by
    refine sr_up (fun z hz ih E h1 h2 h3 h4 h5 => ?_)
    have hps := cl_go_pos (Y := Y) z
    refine wp_iload_n dX1_solve_56 rfl rfl ?_
    refine wp_bipush (v := nI 7) dX1_solve_57 rfl ?_
    refine wp_icmp_ge_n (tgt := 116) dX1_solve_59 (by decide) (by first | omega | (split <;> omega)) (by first | omega | (split <;> omega)) (fun c215 => ?_) (fun c215 => ?_)
    · have hz7 : z = 7 := by omega
      subst hz7
      exact wp_vret dX1_solve_116 rfl ⟨rfl, ⟨h1, h2, h3, h4⟩, h5⟩
    · refine wp_aload_n dX1_solve_62 rfl rfl ?_
      refine wp_getR (r := 54) dX1_solve_63 fl_X1_27 (by decide) rfl rfl rfl ?_
      refine wp_iload_n dX1_solve_66 rfl rfl ?_
      refine wp_aload_n dX1_solve_67 rfl rfl ?_
      refine wp_getR (r := 45) dX1_solve_68 fl_X1_24 (by decide) rfl rfl rfl ?_
      refine wp_iload_n dX1_solve_71 rfl rfl ?_
      refine wp_aald dX1_solve_72 (by decide) rfl (show _ < 8 by omega) (by first | omega | (split <;> omega)) ?_
      refine wp_iload_n dX1_solve_73 rfl rfl ?_
      refine wp_lald dX1_solve_74 (by omega) (sr_kr (b := 45) (by decide) (by omega)).1 (by rw [(sr_kr (b := 45) (by decide) (by omega)).2]; omega) (by first | omega | (split <;> omega)) ?_
      refine wp_lconst (v := 0) dX1_solve_75 rfl ?_
      rw [h1 z z (by omega) (by omega)]
      refine wp_lcmp_le (tgt := 84) dX1_solve_76 dX1_solve_77 (by decide) (fun c216 => ?_) (fun c216 => ?_)
      · have hpos : ¬ 0 < (cl_go Y z).1 z z := by rw [Int64.lt_iff_toInt_lt]; rw [Int64.le_iff_toInt_le] at c216; omega
        refine wp_iconst (v := nI 0) dX1_solve_84 rfl ?_
        refine wp_zast dX1_solve_85 (by decide) rfl (show _ < 7 by omega) (by first | omega | (split <;> omega)) ?_
        refine wp_D (fun D217 eD217 => ?_)
        have hF1 : mx 45 D217 (cl_go Y z).1 := by rw [eD217]; exact h1
        have hF2 : D217.2 35 0 = (cl_go Y z).2.1 := by rw [eD217]; exact h2
        have hF3 : D217.1 35 1 = nI (cl_go Y z).2.2 := by rw [eD217, sr_sI_1, if_neg (by omega)]; exact h3
        have hb : cl_s Y z = false := decide_eq_false hpos
        have hF4 : ∀ k, k < z + 1 → D217.1 54 k = sr_b (cl_s Y k) := by
          intro k hk
          rw [eD217, sr_sI_1]; by_cases e : k = z
          · rw [if_pos ⟨rfl, e⟩, e, hb]; rfl
          · rw [if_neg (fun h => e h.2)]; exact h4 k (by omega)
        have hF5 : cl_fs 35 45 54 D D217 := by rw [eD217]; exact ⟨fun q k a b => by rw [sr_sI_1, if_neg (fun h => a h.1)]; exact h5.1 q k a b, h5.2⟩
        refine wp_aload_n dX1_solve_86 rfl rfl ?_
        refine wp_getR (r := 54) dX1_solve_87 fl_X1_27 (by decide) rfl rfl rfl ?_
        refine wp_iload_n dX1_solve_90 rfl rfl ?_
        refine wp_zald dX1_solve_91 (by decide) rfl (show _ < 7 by omega) (by first | omega | (split <;> omega)) ?_
        rw [hF4 z (by omega), hb]
        show WP g _ _ _ (.int (nI 0) :: _) _ _
        refine wp_if_eq (tgt := 110) dX1_solve_92 (by decide) (fun _ => ?_) (fun c218 => absurd c218 (by decide))
        refine wp_iinc_n (b := 1) (lv' := [(0, .ref 35), (1, .int (nI (z + 1)))]) dX1_solve_110 rfl rfl (by decide) rfl ?_
        refine wp_goto (tgt := 56) dX1_solve_113 (by decide) ?_
        have hg : cl_go Y (z + 1) = cl_go Y z := if_neg hpos
        refine ih (by omega) D217 ?_ ?_ ?_ hF4 hF5
        · rw [hg]; exact hF1
        · rw [hg]; exact hF2
        · rw [hg]; exact hF3
      · have hpos : 0 < (cl_go Y z).1 z z := by rw [Int64.lt_iff_toInt_lt]; rw [Int64.le_iff_toInt_le] at c216; omega
        refine wp_iconst (v := nI 1) dX1_solve_80 rfl ?_
        refine wp_goto (tgt := 85) dX1_solve_81 (by decide) ?_
        refine wp_zast dX1_solve_85 (by decide) rfl (show _ < 7 by omega) (by first | omega | (split <;> omega)) ?_
        refine wp_D (fun D219 eD219 => ?_)
        have hF1 : mx 45 D219 (cl_go Y z).1 := by rw [eD219]; exact h1
        have hF2 : D219.2 35 0 = (cl_go Y z).2.1 := by rw [eD219]; exact h2
        have hF3 : D219.1 35 1 = nI (cl_go Y z).2.2 := by rw [eD219, sr_sI_1, if_neg (by omega)]; exact h3
        have hb : cl_s Y z = true := decide_eq_true hpos
        have hF4 : ∀ k, k < z + 1 → D219.1 54 k = sr_b (cl_s Y k) := by
          intro k hk
          rw [eD219, sr_sI_1]; by_cases e : k = z
          · rw [if_pos ⟨rfl, e⟩, e, hb]; rfl
          · rw [if_neg (fun h => e h.2)]; exact h4 k (by omega)
        have hF5 : cl_fs 35 45 54 D D219 := by rw [eD219]; exact ⟨fun q k a b => by rw [sr_sI_1, if_neg (fun h => a h.1)]; exact h5.1 q k a b, h5.2⟩
        refine wp_aload_n dX1_solve_86 rfl rfl ?_
        refine wp_getR (r := 54) dX1_solve_87 fl_X1_27 (by decide) rfl rfl rfl ?_
        refine wp_iload_n dX1_solve_90 rfl rfl ?_
        refine wp_zald dX1_solve_91 (by decide) rfl (show _ < 7 by omega) (by first | omega | (split <;> omega)) ?_
        rw [hF4 z (by omega), hb]
        show WP g _ _ _ (.int (nI 1) :: _) _ _
        refine wp_if_eq (tgt := 110) dX1_solve_92 (by decide) (fun c220 => absurd c220 (by decide)) (fun _ => ?_)
        refine wp_aload_n dX1_solve_95 rfl rfl ?_
        refine wp_iload_n dX1_solve_96 rfl rfl ?_
        refine wp_callV (M2 := M_X1_sweep) (n := 1) (As := [.int (nI z)]) (st := []) dX1_solve_97 (c_X1_sweep35 g D219 z (by omega) (cl_go Y z).2.1 hF2 hps.1 (cl_go Y z).1 hF1) ca_X1_38 ⟨nm_X1_sweep, by decide, by decide⟩ rfl (by decide) rfl rfl rfl (Nat.le_of_ble_eq_true rfl) (fun r221 E222 q223 => ?_)
        obtain ⟨rfl, k1, k2, k3, k4⟩ := q223
        show WP g _ _ _ _ _ _
        have kI : E222.1 35 1 = nI (cl_go Y z).2.2 := by rw [k3]; exact hF3
        refine wp_aload_n dX1_solve_100 rfl rfl ?_
        refine wp_dup dX1_solve_101 rfl ?_
        refine wp_getI_n (n := (cl_go Y z).2.2) dX1_solve_102 fl_X1_15 (by decide) rfl rfl (kI) ?_
        refine wp_iconst (v := nI 1) dX1_solve_105 rfl ?_
        refine wp_iadd_n dX1_solve_106 ?_
        refine wp_putI dX1_solve_107 fl_X1_15 (by decide) rfl rfl ?_
        refine wp_D (fun D224 eD224 => ?_)
        have k226 : D224.1 35 1 = nI (((cl_go Y z).2.2) + 1) := by rw [eD224, sr_sI_1, if_pos ⟨rfl, rfl⟩]
        refine wp_iinc_n (b := 1) (lv' := [(0, .ref 35), (1, .int (nI (z + 1)))]) dX1_solve_110 rfl rfl (by decide) rfl ?_
        refine wp_goto (tgt := 56) dX1_solve_113 (by decide) ?_
        have hg : cl_go Y (z + 1) = _ := if_pos hpos
        subst eD224
        refine ih (by omega) _ ?_ ?_ ?_ ?_ ?_
        · rw [hg]; exact k1
        · rw [hg]; exact k2
        · rw [hg, sr_sI_1, if_pos ⟨rfl, rfl⟩]
        · intro k hk; rw [sr_sI_1, if_neg (by omega), k3]; exact hF4 k hk
        · refine ⟨fun q k a b => ?_, fun q a b => ?_⟩
          · rw [sr_sI_1, if_neg b, k3]; exact hF5.1 q k a b
          · exact (k4 q a b).trans (hF5.2 q a b)
  have hL : ∀ i, i ≤ 8 → ∀ E : sr_St, cl_in 45 D (Y) (fun a c => D.2 (45 + 1 + a) c) i 0 E → WP g M_X1_solve 2 [(0, .ref 35), (1, .int (nI i))] [] E (fun q D' => q = none ∧ cl_ok 35 45 54 Y D' ∧ cl_fs 35 45 54 D D') := by
    refine sr_up (fun i hi ih E hE => ?_)
    have hI : i < 8 → ∀ j, j ≤ 8 → ∀ E : sr_St, cl_in 45 D (Y) (fun a c => D.2 (45 + 1 + a) c) i j E → WP g M_X1_solve 10 [(0, .ref 35), (1, .int (nI i)), (2, .int (nI j))] [] E (fun q D' => q = none ∧ cl_ok 35 45 54 Y D' ∧ cl_fs 35 45 54 D D') := by
      intro hin
      refine sr_up (fun j hj ihj E hE => ?_)
      refine wp_iload_n dX1_solve_10 rfl rfl ?_
      refine wp_bipush (v := nI 8) dX1_solve_11 rfl ?_
      refine wp_icmp_ge_n (tgt := 38) dX1_solve_13 (by decide) (by first | omega | (split <;> omega)) (by first | omega | (split <;> omega)) (fun c227 => ?_) (fun c227 => ?_)
      · refine wp_iinc_n (b := 1) (lv' := [(0, .ref 35), (1, .int (nI (i + 1))), (2, .int (nI j))]) dX1_solve_38 rfl rfl (by decide) rfl ?_
        refine wp_goto (tgt := 2) dX1_solve_41 (by decide) ?_
        have hje : j = 8 := by omega
        subst hje
        exact wp_pick [0, 1] rfl (ih (by omega) E (cl_in_row hE (fun c h1 h2 => absurd h1 (by omega))))
      · refine wp_aload_n dX1_solve_16 rfl rfl ?_
        refine wp_getR (r := 45) dX1_solve_17 fl_X1_24 (by decide) rfl rfl rfl ?_
        refine wp_iload_n dX1_solve_20 rfl rfl ?_
        refine wp_aald dX1_solve_21 (by decide) rfl (show _ < 8 by omega) (by first | omega | (split <;> omega)) ?_
        refine wp_iload_n dX1_solve_22 rfl rfl ?_
        refine wp_aload_n dX1_solve_23 rfl rfl ?_
        refine wp_getR (r := 36) dX1_solve_24 fl_X1_21 (by decide) rfl rfl rfl ?_
        refine wp_iload_n dX1_solve_27 rfl rfl ?_
        refine wp_aald dX1_solve_28 (by decide) rfl (show _ < 8 by omega) (by first | omega | (split <;> omega)) ?_
        refine wp_iload_n dX1_solve_29 rfl rfl ?_
        refine wp_lald dX1_solve_30 (by omega) (sr_kr (b := 36) (by decide) (by omega)).1 (by rw [(sr_kr (b := 36) (by decide) (by omega)).2]; omega) (by first | omega | (split <;> omega)) ?_
        refine wp_last dX1_solve_31 (by omega) (sr_kr (b := 45) (by decide) (by omega)).1 (by rw [(sr_kr (b := 45) (by decide) (by omega)).2]; omega) (by first | omega | (split <;> omega)) ?_
        refine wp_D (fun D228 eD228 => ?_)
        refine wp_iinc_n (b := 1) (lv' := [(0, .ref 35), (1, .int (nI i)), (2, .int (nI (j + 1)))]) dX1_solve_32 rfl rfl (by decide) rfl ?_
        refine wp_goto (tgt := 10) dX1_solve_35 (by decide) ?_
        subst eD228
        refine ihj (by omega) _ (cl_in_set (by omega) (by omega) hE ?_)
        rw [hE.2.2 (36 + 1 + i) (by omega)]; exact hY i j (by omega) (by omega)
    refine wp_iload_n dX1_solve_2 rfl rfl ?_
    refine wp_bipush (v := nI 8) dX1_solve_3 rfl ?_
    refine wp_icmp_ge_n (tgt := 44) dX1_solve_5 (by decide) (by first | omega | (split <;> omega)) (by first | omega | (split <;> omega)) (fun c229 => ?_) (fun c229 => ?_)
    · refine wp_aload_n dX1_solve_44 rfl rfl ?_
      refine wp_lconst (v := 1) dX1_solve_45 rfl ?_
      refine wp_putJ dX1_solve_46 fl_X1_11 (by decide) rfl rfl ?_
      refine wp_D (fun D230 eD230 => ?_)
      refine wp_aload_n dX1_solve_49 rfl rfl ?_
      refine wp_iconst (v := nI 0) dX1_solve_50 rfl ?_
      refine wp_putI dX1_solve_51 fl_X1_15 (by decide) rfl rfl ?_
      refine wp_D (fun D231 eD231 => ?_)
      refine wp_iconst (v := nI 0) dX1_solve_54 rfl ?_
      refine wp_istore_n (lv' := [(0, .ref 35), (1, .int (nI 0))]) dX1_solve_55 rfl (by decide) rfl ?_
      subst eD230 eD231
      have hie : i = 8 := by omega
      subst hie
      have hz := cl_in_end hE (fun a c h1 h2 h3 => absurd h1 (by omega))
      refine wp_pick [0, 1] rfl (hC 0 (by omega) _ ?_ ?_ ?_ (fun k hk => absurd hk (by omega)) ?_)
      · exact fun a c ha hc => by rw [sr_sI_2, sr_sJ_2, if_neg (by omega)]; exact hz.1 a c ha hc
      · rw [sr_sI_2, sr_sJ_2, if_pos ⟨rfl, rfl⟩]; rfl
      · rw [sr_sI_1, if_pos ⟨rfl, rfl⟩]; rfl
      · refine ⟨fun q k a b => ?_, fun q a b => ?_⟩
        · rw [sr_sI_1, if_neg b, sr_sJ_1, hz.2.1]
        · rw [sr_sI_2]; funext k; rw [sr_sJ_2, if_neg (fun h => a h.1)]; exact congrFun (hz.2.2 q b) k
    · refine wp_iconst (v := nI 0) dX1_solve_8 rfl ?_
      refine wp_istore_n (lv' := [(0, .ref 35), (1, .int (nI i)), (2, .int (nI 0))]) dX1_solve_9 rfl (by decide) rfl ?_
      exact hI (by omega) 0 (by omega) E hE
  refine wp_iconst (v := nI 0) dX1_solve_0 rfl ?_
  refine wp_istore_n (lv' := [(0, .ref 35), (1, .int (nI 0))]) dX1_solve_1 rfl (by decide) rfl ?_
  exact hL 0 (by omega) D (cl_in_0 (fun i j _ _ => rfl) fr.rf)
