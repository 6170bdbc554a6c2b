/-! ===== the class: its log and its fit together ===== -/
def lg (D : sr_St) (now : Nat → Int32) (n r : Nat) : Prop := D.1 1 0 = nI n ∧ D.1 1 1 = now 1 ∧ D.1 1 2 = nI r ∧ ∀ q, q < r → D.1 2 q = now (3 + 4 * q) ∧ D.1 3 q = now (3 + 4 * q + 1) ∧ D.1 4 q = now (3 + 4 * q + 2) ∧ D.1 5 q = now (3 + 4 * q + 3)
def cl_inc (t : Int32) (F : Nat → Int32) (Y : cl_T) : cl_T := fun a c => Y a c + t.toInt64 * (F a).toInt64 * (F c).toInt64
/-- race q as a form, with its margin -/
def cl_rf (now : Nat → Int32) (q : Nat) : Nat → Int32 := cl_form (sr_ra now q) (sr_rb now q) (now (3 + 4 * q + 3)) (now (3 + 4 * q + 2))
def cl_r0 (now : Nat → Int32) (q : Nat) : Nat → Int32 := cl_form (sr_ra now q) (sr_rb now q) (now (3 + 4 * q + 3)) (nI 0)
def cl_G (now : Nat → Int32) : Nat → cl_T
  | 0 => fun _ _ => 0
  | q + 1 => cl_inc (nI 1) (cl_rf now q) (cl_G now q)
def CI (now : Nat → Int32) (n r : Nat) (D : sr_St) : Prop := sr_logOk now n r ∧ lg D now n r ∧ mx 15 D (cl_G now r) ∧ cl_ok 14 24 33 (cl_G now r) D
/-- what a question leaves as it was -/
def cl_pr (D E : sr_St) : Prop := (∀ o, ¬ o = 34 → ¬ (35 ≤ o ∧ o ≤ 62) → E.1 o = D.1 o) ∧ ∀ o, ¬ (35 ≤ o ∧ o ≤ 60) → E.2 o = D.2 o
theorem cl_pr.rf {D : sr_St} : cl_pr D D := ⟨fun _ _ _ => rfl, fun _ _ => rfl⟩
theorem cl_pr.tr {D E F : sr_St} (h : cl_pr D E) (k : cl_pr E F) : cl_pr D F := ⟨fun o a b => (k.1 o a b).trans (h.1 o a b), fun o a => (k.2 o a).trans (h.2 o a)⟩
theorem cl_fa.pr {D E : sr_St} (h : cl_fa 34 D E) : cl_pr D E := ⟨fun o a _ => h.2 o a, fun o _ => by rw [h.1]⟩
theorem cl_fa.pr2 {D E : sr_St} (h : cl_fa 55 D E) : cl_pr D E := ⟨fun o _ b => h.2 o (by omega), fun o _ => by rw [h.1]⟩
theorem sr_setF_pr {D : sr_St} {o : Nat} {up un : Int64} (h : 35 ≤ o ∧ o ≤ 60) : cl_pr D (sr_setF D o up un) := ⟨fun _ _ _ => rfl, fun q hq => by
  funext k; unfold sr_setF; rw [sr_sJ_2, if_neg (by omega), sr_sJ_2, if_neg (by omega)]⟩
theorem CI.pr {now : Nat → Int32} {n r : Nat} {D E : sr_St} (h : CI now n r D) (k : cl_pr D E) : CI now n r E := by
  obtain ⟨h1, ⟨a1, a2, a3, a4⟩, h3, b1, b2, b3, b4⟩ := h
  refine ⟨h1, ⟨?_, ?_, ?_, fun q hq => ?_⟩, mx_cong h3 (fun o _ _ => k.2 o (by omega)), mx_cong b1 (fun o _ _ => k.2 o (by omega)), ?_, ?_, fun z hz => ?_⟩
  · rw [k.1 1 (by decide) (by decide)]; exact a1
  · rw [k.1 1 (by decide) (by decide)]; exact a2
  · rw [k.1 1 (by decide) (by decide)]; exact a3
  · rw [k.1 2 (by decide) (by decide), k.1 3 (by decide) (by decide), k.1 4 (by decide) (by decide), k.1 5 (by decide) (by decide)]; exact a4 q hq
  · rw [k.2 14 (by decide)]; exact b2
  · rw [k.1 14 (by decide) (by decide)]; exact b3
  · rw [k.1 33 (by decide) (by decide)]; exact b4 z hz
section CIs
variable {now : Nat → Int32} {n r q : Nat} {D : sr_St}
theorem CI.n6 (h : CI now n r D) : n ≤ 6 := h.1.1.2.1
theorem CI.r12 (h : CI now n r D) : r ≤ 12 := h.1.1.2.2.2
theorem CI.a (h : CI now n r D) (hq : q < r) : D.1 2 q = nI (sr_ra now q) := (h.2.1.2.2.2 q hq).1.trans (h.1.2 q hq).1
theorem CI.b (h : CI now n r D) (hq : q < r) : D.1 3 q = nI (sr_rb now q) := (h.2.1.2.2.2 q hq).2.1.trans (h.1.2 q hq).2.1
theorem CI.m (h : CI now n r D) (hq : q < r) : D.1 4 q = now (3 + 4 * q + 2) := (h.2.1.2.2.2 q hq).2.2.1
theorem CI.s (h : CI now n r D) (hq : q < r) : D.1 5 q = now (3 + 4 * q + 3) := (h.2.1.2.2.2 q hq).2.2.2
theorem sr_lo64 (h : sr_logOk now n r) (hq : q < r) : sr_ra now q < 64 ∧ sr_rb now q < 64 := sr_crewN_lt h.1.2.1 (h.2 q hq).2.2.1
end CIs
set_option maxHeartbeats 4000000 in
set_option maxRecDepth 100000 in
theorem c_X6_tellFraction (g : sr_G) (D : sr_St) (up un : Int64) (hu : -(2 ^ 63 : Int) < up.toInt) (h0 : 0 < un) (u : Int32) : Con g M_X6_tellFraction [.ref 0, .long up, .long un, .int u] D (fun q D' => q = some (.long (sr_told up un u)) ∧ cl_pr D D') := by
  refine Con.of pn_X6_tellFraction (Nat.le_of_ble_eq_true rfl) ?_
  show WP g M_X6_tellFraction 0 [(0, .ref 0), (1, .long up), (3, .long un), (5, .int u)] [] D _
  refine wp_aload_n dX6_tellFraction_0 rfl rfl ?_
  refine wp_getR (r := 56) dX6_tellFraction_1 fl_X6_36 (by decide) rfl rfl rfl ?_
  refine wp_lload_n dX6_tellFraction_4 rfl rfl ?_
  refine wp_lload_n dX6_tellFraction_5 rfl rfl ?_
  refine wp_callV (M2 := M_X2_set) (n := 2) (As := [.long up, .long un]) (st := []) dX6_tellFraction_6 (c_X2_set56 g D up un hu h0) ca_X6_262 ⟨nm_X2_set, by decide, by decide⟩ rfl (by decide) rfl rfl rfl (Nat.le_of_ble_eq_true rfl) (fun r308 E309 q310 => ?_)
  obtain ⟨rfl, eE309⟩ := q310
  have eE309 := eE309.symm
  show WP g _ _ _ _ _ _
  refine wp_iload dX6_tellFraction_9 rfl ?_
  refine wp_if_eq (tgt := 24) dX6_tellFraction_11 (by decide) (fun c311 => ?_) (fun c311 => ?_)
  · have hu0 := c311
    refine wp_aload_n dX6_tellFraction_24 rfl rfl ?_
    refine wp_getR (r := 56) dX6_tellFraction_25 fl_X6_36 (by decide) rfl rfl rfl ?_
    refine wp_getJ dX6_tellFraction_28 fl_X6_234 (by decide) rfl rfl ?_
    refine wp_lret dX6_tellFraction_31 rfl ⟨?_, eE309 ▸ sr_setF_pr (by decide)⟩
    rw [eE309]; unfold sr_setF
    rw [sr_sJ_2]; rw [if_neg (by decide), sr_sJ_2, if_pos ⟨rfl, rfl⟩]; unfold sr_told; rw [hu0]; rfl
  · have hu0 := c311
    refine wp_aload_n dX6_tellFraction_14 rfl rfl ?_
    refine wp_getR (r := 56) dX6_tellFraction_15 fl_X6_36 (by decide) rfl rfl rfl ?_
    refine wp_getJ dX6_tellFraction_18 fl_X6_237 (by decide) rfl rfl ?_
    refine wp_goto (tgt := 31) dX6_tellFraction_21 (by decide) ?_
    refine wp_lret dX6_tellFraction_31 rfl ⟨?_, eE309 ▸ sr_setF_pr (by decide)⟩
    rw [eE309]; unfold sr_setF
    rw [sr_sJ_2]; rw [if_pos ⟨rfl, rfl⟩]; unfold sr_told; rw [if_neg hu0]; rfl
def cl_tf (Y : cl_T) (F : Nat → Int32) (d u : Int32) : Int64 := if cl_kn Y F = true then sr_told (if d = 0 then cl_val Y F else cl_dou Y F) (cl_by Y) u else -1000000000000000000
def cl_bd (Y : cl_T) (F : Nat → Int32) : Prop := -(2 ^ 63 : Int) < (cl_val Y F).toInt ∧ -(2 ^ 63 : Int) < (cl_dou Y F).toInt
set_option maxHeartbeats 4000000 in
set_option maxRecDepth 100000 in
theorem c_X6_tellForm (g : sr_G) (D : sr_St) (now : Nat → Int32) (n r : Nat) (hci : CI now n r D) (a b : Nat) (ha : a < 64) (hb : b < 64) (s d u : Int32) (hbd : cl_bd (cl_G now r) (cl_form a b s (nI 0))) : Con g M_X6_tellForm [.ref 0, .int (nI a), .int (nI b), .int s, .int d, .int u] D (fun qa D' => qa = some (.long (cl_tf (cl_G now r) (cl_form a b s (nI 0)) d u)) ∧ cl_pr D D') := by
  refine Con.of pn_X6_tellForm (Nat.le_of_ble_eq_true rfl) ?_
  show WP g M_X6_tellForm 0 [(0, .ref 0), (1, .int (nI a)), (2, .int (nI b)), (3, .int s), (4, .int d), (5, .int u)] [] D _
  have hn6 := hci.n6
  have hr12 := hci.r12
  refine wp_aload_n dX6_tellForm_0 rfl rfl ?_
  refine wp_getR (r := 14) dX6_tellForm_1 fl_X6_26 (by decide) rfl rfl rfl ?_
  refine wp_iload_n dX6_tellForm_4 rfl rfl ?_
  refine wp_iload_n dX6_tellForm_5 rfl rfl ?_
  refine wp_iload_n dX6_tellForm_6 rfl rfl ?_
  refine wp_iconst (v := nI 0) dX6_tellForm_7 rfl ?_
  refine wp_callV (M2 := M_X1_load) (n := 4) (As := [.int (nI a), .int (nI b), .int s, .int (nI 0)]) (st := []) dX6_tellForm_8 (c_X1_load14 g D a b (by omega) (by omega) s (nI 0)) ca_X6_250 ⟨nm_X1_load, by decide, by decide⟩ rfl (by decide) rfl rfl rfl (Nat.le_of_ble_eq_true rfl) (fun r312 E313 q314 => ?_)
  obtain ⟨rfl, hf315, fa316⟩ := q314
  show WP g _ _ _ _ _ _
  have pr317 := (cl_pr.rf).tr fa316.pr
  refine wp_aload_n dX6_tellForm_11 rfl rfl ?_
  refine wp_getR (r := 14) dX6_tellForm_12 fl_X6_26 (by decide) rfl rfl rfl ?_
  refine wp_callV (M2 := M_X1_isKnown) (n := 0) (As := []) (st := []) dX6_tellForm_15 (c_X1_isKnown14 g E313 (cl_G now r) (hci.pr pr317).2.2.2 (cl_form a b s (nI 0)) hf315) ca_X6_253 ⟨nm_X1_isKnown, by decide, by decide⟩ rfl (by decide) rfl rfl rfl (Nat.le_of_ble_eq_true rfl) (fun r318 E319 q320 => ?_)
  obtain ⟨rfl, rfl⟩ := q320
  show WP g _ _ _ (.int (sr_b (cl_kn (cl_G now r) (cl_form a b s (nI 0)))) :: _) _ _
  refine wp_if_ne_b (tgt := 25) dX6_tellForm_18 (by decide) (fun c321 => ?_) (fun c321 => ?_)
  · have hkn := c321
    refine wp_aload_n dX6_tellForm_25 rfl rfl ?_
    refine wp_iload dX6_tellForm_26 rfl ?_
    refine wp_if_eq (tgt := 41) dX6_tellForm_28 (by decide) (fun c322 => ?_) (fun c322 => ?_)
    · have hd0 := c322
      refine wp_aload_n dX6_tellForm_41 rfl rfl ?_
      refine wp_getR (r := 14) dX6_tellForm_42 fl_X6_26 (by decide) rfl rfl rfl ?_
      refine wp_callV (M2 := M_X1_scaledValue) (n := 0) (As := []) (st := [.ref 0]) dX6_tellForm_45 (c_X1_scaledValue14 g E313 (cl_G now r) (hci.pr pr317).2.2.2 (cl_form a b s (nI 0)) hf315) ca_X6_282 ⟨nm_X1_scaledValue, by decide, by decide⟩ rfl (by decide) rfl rfl rfl (Nat.le_of_ble_eq_true rfl) (fun r323 E324 q325 => ?_)
      obtain ⟨rfl, rfl⟩ := q325
      show WP g _ _ _ (.long (cl_val (cl_G now r) (cl_form a b s (nI 0))) :: _) _ _
      refine wp_aload_n dX6_tellForm_48 rfl rfl ?_
      refine wp_getR (r := 14) dX6_tellForm_49 fl_X6_26 (by decide) rfl rfl rfl ?_
      refine wp_getJ dX6_tellForm_52 fl_X6_180 (by decide) rfl rfl ?_
      rw [(hci.pr pr317).2.2.2.2.1]
      show WP g _ _ _ (.long (cl_by (cl_G now r)) :: _) _ _
      refine wp_iload dX6_tellForm_55 rfl ?_
      refine wp_callV (M2 := M_X6_tellFraction) (n := 3) (As := [.long (cl_val (cl_G now r) (cl_form a b s (nI 0))), .long (cl_by (cl_G now r)), .int u]) (st := []) dX6_tellForm_57 (c_X6_tellFraction g E313 (cl_val (cl_G now r) (cl_form a b s (nI 0))) (cl_by (cl_G now r)) (hbd.1) (cl_go_pos 7).1 u) ca_X6_184 ⟨nm_X6_tellFraction, by decide, by decide⟩ rfl (by decide) rfl rfl rfl (Nat.le_of_ble_eq_true rfl) (fun r326 E327 q328 => ?_)
      obtain ⟨rfl, pr329⟩ := q328
      show WP g _ _ _ (.long (sr_told (cl_val (cl_G now r) (cl_form a b s (nI 0))) (cl_by (cl_G now r)) u) :: _) _ _
      have pr330 := (pr317).tr pr329
      refine wp_lret dX6_tellForm_60 rfl ⟨?_, pr330⟩
      unfold cl_tf
      rw [if_pos hkn, if_pos hd0]
    · have hd0 := c322
      refine wp_aload_n dX6_tellForm_31 rfl rfl ?_
      refine wp_getR (r := 14) dX6_tellForm_32 fl_X6_26 (by decide) rfl rfl rfl ?_
      refine wp_callV (M2 := M_X1_scaledDoubt) (n := 0) (As := []) (st := [.ref 0]) dX6_tellForm_35 (c_X1_scaledDoubt14 g E313 (cl_G now r) (hci.pr pr317).2.2.2 (cl_form a b s (nI 0)) hf315) ca_X6_279 ⟨nm_X1_scaledDoubt, by decide, by decide⟩ rfl (by decide) rfl rfl rfl (Nat.le_of_ble_eq_true rfl) (fun r331 E332 q333 => ?_)
      obtain ⟨rfl, rfl⟩ := q333
      show WP g _ _ _ (.long (cl_dou (cl_G now r) (cl_form a b s (nI 0))) :: _) _ _
      refine wp_goto (tgt := 48) dX6_tellForm_38 (by decide) ?_
      refine wp_aload_n dX6_tellForm_48 rfl rfl ?_
      refine wp_getR (r := 14) dX6_tellForm_49 fl_X6_26 (by decide) rfl rfl rfl ?_
      refine wp_getJ dX6_tellForm_52 fl_X6_180 (by decide) rfl rfl ?_
      rw [(hci.pr pr317).2.2.2.2.1]
      show WP g _ _ _ (.long (cl_by (cl_G now r)) :: _) _ _
      refine wp_iload dX6_tellForm_55 rfl ?_
      refine wp_callV (M2 := M_X6_tellFraction) (n := 3) (As := [.long (cl_dou (cl_G now r) (cl_form a b s (nI 0))), .long (cl_by (cl_G now r)), .int u]) (st := []) dX6_tellForm_57 (c_X6_tellFraction g E313 (cl_dou (cl_G now r) (cl_form a b s (nI 0))) (cl_by (cl_G now r)) (hbd.2) (cl_go_pos 7).1 u) ca_X6_184 ⟨nm_X6_tellFraction, by decide, by decide⟩ rfl (by decide) rfl rfl rfl (Nat.le_of_ble_eq_true rfl) (fun r334 E335 q336 => ?_)
      obtain ⟨rfl, pr337⟩ := q336
      show WP g _ _ _ (.long (sr_told (cl_dou (cl_G now r) (cl_form a b s (nI 0))) (cl_by (cl_G now r)) u) :: _) _ _
      have pr338 := (pr317).tr pr337
      refine wp_lret dX6_tellForm_60 rfl ⟨?_, pr338⟩
      unfold cl_tf
      rw [if_pos hkn, if_neg hd0]
  · have hkn := c321
    refine wp_ldc2 (v := -1000000000000000000) dX6_tellForm_21 ct_X6_170 ?_
    refine wp_lret dX6_tellForm_24 rfl ⟨?_, pr317⟩
    unfold cl_tf
    rw [if_neg (by rw [hkn]; decide)]
