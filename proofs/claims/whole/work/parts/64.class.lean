/-! ===== judge, and what is told by hand ===== -/
def cl_pj (D E : sr_St) : Prop := (∀ o, ¬ o = 34 → ¬ o = 33 → ¬ o = 14 → E.1 o = D.1 o) ∧ ∀ o, ¬ (14 ≤ o ∧ o ≤ 32) → E.2 o = D.2 o
theorem cl_pj.rf {D : sr_St} : cl_pj D D := ⟨fun _ _ _ _ => rfl, fun _ _ => rfl⟩
theorem cl_pj.tr {D E F : sr_St} (h : cl_pj D E) (k : cl_pj E F) : cl_pj D F := ⟨fun o a b c => (k.1 o a b c).trans (h.1 o a b c), fun o a => (k.2 o a).trans (h.2 o a)⟩
theorem fr.pj {D E : sr_St} (h : fr 15 D E) : cl_pj D E := ⟨fun o _ _ _ => by rw [h.1], fun o ho => h.2 o (by omega)⟩
theorem cl_fa.pj {D E : sr_St} (h : cl_fa 34 D E) : cl_pj D E := ⟨fun o a _ _ => h.2 o a, fun o _ => by rw [h.1]⟩
theorem cl_fs.pj {D E : sr_St} (h : cl_fs 14 24 33 D E) : cl_pj D E := ⟨fun o _ b c => by funext z; exact h.1 o z b (fun y => c y.1), fun o ho => h.2 o (by omega) (by omega)⟩
theorem lg.pj {D E : sr_St} {now : Nat → Int32} {n r : Nat} (h : lg D now n r) (k : cl_pj D E) : lg E now n r := by
  obtain ⟨a1, a2, a3, a4⟩ := h
  refine ⟨?_, ?_, ?_, fun q hq => ?_⟩
  · rw [k.1 1 (by decide) (by decide) (by decide)]; exact a1
  · rw [k.1 1 (by decide) (by decide) (by decide)]; exact a2
  · rw [k.1 1 (by decide) (by decide) (by decide)]; exact a3
  · rw [k.1 2 (by decide) (by decide) (by decide), k.1 3 (by decide) (by decide) (by decide), k.1 4 (by decide) (by decide) (by decide), k.1 5 (by decide) (by decide) (by decide)]; exact a4 q hq
set_option maxHeartbeats 400000 in
set_option maxRecDepth 100000 in
theorem c_X6_judge (g : sr_G) (D : sr_St) (now : Nat → Int32) (n r : Nat) (hlo : sr_logOk now n r) (hlg : lg D now n r) : Con g M_X6_judge [.ref 0] D (fun qa D' => qa = none ∧ CI now n r D' ∧ cl_pj D D') := by
  refine Con.of pn_X6_judge (Nat.le_of_ble_eq_true rfl) ?_
  show WP g M_X6_judge 0 [(0, .ref 0)] [] D _
  have hn6 := hlo.1.2.1
  have hr12 := hlo.1.2.2.2
  have hL : ∀ q, q ≤ r → ∀ E : sr_St, cl_pj D E → mx 15 E (cl_G now q) → WP g M_X6_judge 9 [(0, .ref 0), (1, .int (nI q))] [] E (fun qa D' => qa = none ∧ CI now n r D' ∧ cl_pj D D') := by
    refine sr_up (fun q hq ih E hpj hg => ?_)
    have h64 := fun h : q < r => sr_lo64 hlo h
    refine wp_iload_n dX6_judge_9 rfl rfl ?_
    refine wp_aload_n dX6_judge_10 rfl rfl ?_
    refine wp_getR (r := 1) dX6_judge_11 fl_X6_10 (by decide) rfl rfl rfl ?_
    refine wp_getI_n (n := r) dX6_judge_14 fl_X6_123 (by decide) rfl rfl ((hlg.pj hpj).2.2.1) ?_
    refine wp_icmp_ge_n (tgt := 77) dX6_judge_17 (by decide) (by first | omega | (split <;> omega)) (by first | omega | (split <;> omega)) (fun c894 => ?_) (fun c894 => ?_)
    · refine wp_aload_n dX6_judge_77 rfl rfl ?_
      refine wp_getR (r := 14) dX6_judge_78 fl_X6_26 (by decide) rfl rfl rfl ?_
      refine wp_callV (M2 := M_X1_solve) (n := 0) (As := []) (st := []) dX6_judge_81 (c_X1_solve14 g E (cl_G now q) hg) ca_X6_244 ⟨nm_X1_solve, by decide, by decide⟩ rfl (by decide) rfl rfl rfl (Nat.le_of_ble_eq_true rfl) (fun r895 E896 q897 => ?_)
      obtain ⟨rfl, ok898, f899⟩ := q897
      show WP g _ _ _ _ _ _
      have g900 : mx 15 E896 (cl_G now q) := mx_cong hg (fun o _ _ => f899.2 o (by omega) (by omega))
      have pj901 : cl_pj D E896 := (hpj).tr f899.pj
      have hqe : q = r := by omega
      have gg := g900
      have oo := ok898
      rw [hqe] at gg oo
      exact wp_vret dX6_judge_84 rfl ⟨rfl, ⟨hlo, (hlg.pj pj901), gg, oo⟩, pj901⟩
    · refine wp_aload_n dX6_judge_20 rfl rfl ?_
      refine wp_getR (r := 14) dX6_judge_21 fl_X6_26 (by decide) rfl rfl rfl ?_
      refine wp_aload_n dX6_judge_24 rfl rfl ?_
      refine wp_getR (r := 1) dX6_judge_25 fl_X6_10 (by decide) rfl rfl rfl ?_
      refine wp_getR (r := 2) dX6_judge_28 fl_X6_153 (by decide) rfl rfl rfl ?_
      refine wp_iload_n dX6_judge_31 rfl rfl ?_
      refine wp_iald dX6_judge_32 (by decide) rfl (show _ < 12 by omega) (by first | omega | (split <;> omega)) ?_
      rw [((hlg.pj hpj).2.2.2 q (by omega)).1.trans (hlo.2 q (by omega)).1]
      refine wp_aload_n dX6_judge_33 rfl rfl ?_
      refine wp_getR (r := 1) dX6_judge_34 fl_X6_10 (by decide) rfl rfl rfl ?_
      refine wp_getR (r := 3) dX6_judge_37 fl_X6_156 (by decide) rfl rfl rfl ?_
      refine wp_iload_n dX6_judge_40 rfl rfl ?_
      refine wp_iald dX6_judge_41 (by decide) rfl (show _ < 12 by omega) (by first | omega | (split <;> omega)) ?_
      rw [((hlg.pj hpj).2.2.2 q (by omega)).2.1.trans (hlo.2 q (by omega)).2.1]
      refine wp_aload_n dX6_judge_42 rfl rfl ?_
      refine wp_getR (r := 1) dX6_judge_43 fl_X6_10 (by decide) rfl rfl rfl ?_
      refine wp_getR (r := 5) dX6_judge_46 fl_X6_162 (by decide) rfl rfl rfl ?_
      refine wp_iload_n dX6_judge_49 rfl rfl ?_
      refine wp_iald dX6_judge_50 (by decide) rfl (show _ < 12 by omega) (by first | omega | (split <;> omega)) ?_
      rw [((hlg.pj hpj).2.2.2 q (by omega)).2.2.2]
      refine wp_aload_n dX6_judge_51 rfl rfl ?_
      refine wp_getR (r := 1) dX6_judge_52 fl_X6_10 (by decide) rfl rfl rfl ?_
      refine wp_getR (r := 4) dX6_judge_55 fl_X6_159 (by decide) rfl rfl rfl ?_
      refine wp_iload_n dX6_judge_58 rfl rfl ?_
      refine wp_iald dX6_judge_59 (by decide) rfl (show _ < 12 by omega) (by first | omega | (split <;> omega)) ?_
      rw [((hlg.pj hpj).2.2.2 q (by omega)).2.2.1]
      refine wp_callV (M2 := M_X1_load) (n := 4) (As := [.int (nI (sr_ra now q)), .int (nI (sr_rb now q)), .int (now (3 + 4 * q + 3)), .int (now (3 + 4 * q + 2))]) (st := []) dX6_judge_60 (c_X1_load14 g E (sr_ra now q) (sr_rb now q) (by omega) (by omega) (now (3 + 4 * q + 3)) (now (3 + 4 * q + 2))) ca_X6_250 ⟨nm_X1_load, by decide, by decide⟩ rfl (by decide) rfl rfl rfl (Nat.le_of_ble_eq_true rfl) (fun r902 E903 q904 => ?_)
      obtain ⟨rfl, hf905, fa906⟩ := q904
      show WP g _ _ _ _ _ _
      have hf908 : ∀ z, z < 8 → E903.1 34 z = cl_rf now q z := hf905
      have g907 : mx 15 E903 (cl_G now q) := fun i j hi hj => by rw [fa906.1]; exact hg i j hi hj
      have pj909 : cl_pj D E903 := (hpj).tr fa906.pj
      refine wp_aload_n dX6_judge_63 rfl rfl ?_
      refine wp_getR (r := 14) dX6_judge_64 fl_X6_26 (by decide) rfl rfl rfl ?_
      refine wp_iconst (v := nI 1) dX6_judge_67 rfl ?_
      refine wp_callV (M2 := M_X1_include) (n := 1) (As := [.int (nI 1)]) (st := []) dX6_judge_68 (c_X1_include14 g E903 (nI 1) (cl_G now q) g907) ca_X6_256 ⟨nm_X1_include, by decide, by decide⟩ rfl (by decide) rfl rfl rfl (Nat.le_of_ble_eq_true rfl) (fun r910 E911 q912 => ?_)
      obtain ⟨rfl, g913, f914⟩ := q912
      show WP g _ _ _ _ _ _
      have g915 : mx 15 E911 (cl_G now (q + 1)) := mx_ext g913 (fun i j hi hj => by rw [hf908 i hi, hf908 j hj]; rfl)
      have pj916 : cl_pj D E911 := (pj909).tr f914.pj
      refine wp_iinc_n (b := 1) (lv' := [(0, .ref 0), (1, .int (nI (q + 1)))]) dX6_judge_71 rfl rfl (by decide) rfl ?_
      refine wp_goto (tgt := 9) dX6_judge_74 (by decide) ?_
      exact ih (by omega) E911 pj916 g915
  refine wp_aload_n dX6_judge_0 rfl rfl ?_
  refine wp_getR (r := 14) dX6_judge_1 fl_X6_26 (by decide) rfl rfl rfl ?_
  refine wp_callV (M2 := M_X1_clear) (n := 0) (As := []) (st := []) dX6_judge_4 (c_X1_clear14 g D) ca_X6_276 ⟨nm_X1_clear, by decide, by decide⟩ rfl (by decide) rfl rfl rfl (Nat.le_of_ble_eq_true rfl) (fun r917 E918 q919 => ?_)
  obtain ⟨rfl, g920, f921⟩ := q919
  show WP g _ _ _ _ _ _
  have pj922 : cl_pj D E918 := (cl_pj.rf).tr f921.pj
  refine wp_iconst (v := nI 0) dX6_judge_7 rfl ?_
  refine wp_istore_n (lv' := [(0, .ref 0), (1, .int (nI 0))]) dX6_judge_8 rfl (by decide) rfl ?_
  exact hL 0 (by omega) E918 pj922 g920
def cl_fault (D : sr_St) (w : Int32) : Int32 := if w = 0 then D.1 0 10 else if w = nI 1 then D.1 0 11 else -1
set_option maxHeartbeats 400000 in
set_option maxRecDepth 100000 in
theorem c_X6_fault (g : sr_G) (D : sr_St) (w : Int32)  : Con g M_X6_fault [.ref 0, .int w] D (sr_ret (some (.int (cl_fault D w))) D) := by
  refine Con.of pn_X6_fault (Nat.le_of_ble_eq_true rfl) ?_
  show WP g M_X6_fault 0 [(0, .ref 0), (1, .int w)] [] D _
  refine wp_iload_n dX6_fault_0 rfl rfl ?_
  refine wp_if_ne (tgt := 9) dX6_fault_1 (by decide) (fun c923 => ?_) (fun c923 => ?_)
  · have h0 := c923
    refine wp_iload_n dX6_fault_9 rfl rfl ?_
    refine wp_iconst (v := nI 1) dX6_fault_10 rfl ?_
    refine wp_icmp_ne (tgt := 21) dX6_fault_11 (by decide) (fun c924 => ?_) (fun c924 => ?_)
    · have h1 := c924
      refine wp_iconst (v := -1) dX6_fault_21 rfl ?_
      refine wp_iret dX6_fault_22 rfl ⟨?_, rfl⟩
      unfold cl_fault
      rw [if_neg h0, if_neg h1]
    · have h1 := c924
      refine wp_aload_n dX6_fault_14 rfl rfl ?_
      refine wp_getI dX6_fault_15 fl_X6_64 (by decide) rfl rfl ?_
      refine wp_goto (tgt := 22) dX6_fault_18 (by decide) ?_
      refine wp_iret dX6_fault_22 rfl ⟨?_, rfl⟩
      unfold cl_fault
      rw [if_neg h0, if_pos h1]
  · have h0 := c923
    refine wp_aload_n dX6_fault_4 rfl rfl ?_
    refine wp_getI dX6_fault_5 fl_X6_60 (by decide) rfl rfl ?_
    refine wp_iret dX6_fault_8 rfl ⟨?_, rfl⟩
    unfold cl_fault
    rw [if_pos h0]
def cl_endb (D : sr_St) (v : Int32) : Bool := !decide (v < 0) && decide (v ≤ D.1 7 0)
set_option maxHeartbeats 400000 in
set_option maxRecDepth 100000 in
theorem c_X6_end (g : sr_G) (D : sr_St) (v : Int32)  : Con g M_X6_end [.ref 0, .int v] D (sr_ret (some (.int (sr_b (cl_endb D v)))) (if cl_endb D v = true then sr_sI D 7 0 v else D)) := by
  refine Con.of pn_X6_end (Nat.le_of_ble_eq_true rfl) ?_
  show WP g M_X6_end 0 [(0, .ref 0), (1, .int v)] [] D _
  refine wp_iload_n dX6_end_0 rfl rfl ?_
  refine wp_if_lt (tgt := 18) dX6_end_1 (by decide) (fun c925 => ?_) (fun c925 => ?_)
  · have h0 := c925
    refine wp_iconst (v := nI 0) dX6_end_18 rfl ?_
    refine wp_zret dX6_end_19 rfl (Or.inl rfl) ?_
    have hb : cl_endb D v = false := by unfold cl_endb; rw [decide_eq_true h0]; rfl
    rw [hb]; exact ⟨rfl, rfl⟩
  · have h0 := c925
    refine wp_iload_n dX6_end_4 rfl rfl ?_
    refine wp_aload_n dX6_end_5 rfl rfl ?_
    refine wp_getR (r := 6) dX6_end_6 fl_X6_19 (by decide) rfl rfl rfl ?_
    refine wp_getR (r := 7) dX6_end_9 fl_X6_67 (by decide) rfl rfl rfl ?_
    refine wp_getI dX6_end_12 fl_X6_71 (by decide) rfl rfl ?_
    refine wp_icmp_le (tgt := 20) dX6_end_15 (by decide) (fun c926 => ?_) (fun c926 => ?_)
    · have h1 := c926
      refine wp_aload_n dX6_end_20 rfl rfl ?_
      refine wp_getR (r := 6) dX6_end_21 fl_X6_19 (by decide) rfl rfl rfl ?_
      refine wp_getR (r := 7) dX6_end_24 fl_X6_67 (by decide) rfl rfl rfl ?_
      refine wp_iload_n dX6_end_27 rfl rfl ?_
      refine wp_putI dX6_end_28 fl_X6_71 (by decide) rfl rfl ?_
      refine wp_D (fun D927 eD927 => ?_)
      refine wp_iconst (v := nI 1) dX6_end_31 rfl ?_
      refine wp_zret dX6_end_32 rfl (Or.inr rfl) ?_
      have hb : cl_endb D v = true := by unfold cl_endb; rw [decide_eq_false h0, decide_eq_true h1]; rfl
      subst eD927
      rw [hb]; exact ⟨rfl, rfl⟩
    · have h1 := c926
      refine wp_iconst (v := nI 0) dX6_end_18 rfl ?_
      refine wp_zret dX6_end_19 rfl (Or.inl rfl) ?_
      have hb : cl_endb D v = false := by unfold cl_endb; rw [decide_eq_false h1, Bool.and_false]
      rw [hb]; exact ⟨rfl, rfl⟩
