theorem sr_per_th {D : sr_St} {v : Int32} : sr_per D (sr_sI D 63 0 v) := ⟨fun o a b c d => by simp [sr_sI, a], fun k a b c d e f => by rw [sr_sI_1, if_neg (by omega)], fun o a b c d e => rfl⟩
theorem sr_gpos {x : Int64} (h : 0 < x) : -(2 ^ 63 : Int) < x.toInt := by rw [Int64.lt_iff_toInt_lt] at h; have e : (0 : Int64).toInt = 0 := rfl; omega
theorem sr_gne {x : Int64} (h : 0 < x) : ¬ x = 0 := fun z => by subst z; rw [Int64.lt_iff_toInt_lt] at h; omega
/-- no number: what is not known -/
abbrev sr_NN : Int64 := -1000000000000000000
/-- a rower -/
def sr_row (n : Nat) (v : Int32) : Bool := sr_isIn v (nI 0) (nI n - nI 1)
theorem sr_row_n {n : Nat} {v : Int32} (hn : n ≤ 6) : sr_row n v = true ↔ ∃ x, x < n ∧ v = nI x := sr_in_n (by omega)
/-- answers of the form asked: value or doubt over the number below, or none -/
def md_ans (n r : Nat) (now : Nat → Int32) (f : Nat → Int32) (db : Bool) (u : Int32) : Int64 := if md_kn (n + 1) (md_P now n r) (sr_l f) = true then sr_told (if db = true then md_dou (n + 1) (md_P now n r) (sr_l f) else md_val (n + 1) (md_P now n r) (md_S1 now n r) (sr_l f)) (md_by (n + 1) (md_P now n r) (sr_l f)) u else sr_NN
/-- the numbers told stay above the least long -/
def md_bnd (n r : Nat) (now : Nat → Int32) (f : Nat → Int32) : Prop := -(2 ^ 63 : Int) < (md_val (n + 1) (md_P now n r) (md_S1 now n r) (sr_l f)).toInt ∧ -(2 ^ 63 : Int) < (md_dou (n + 1) (md_P now n r) (sr_l f)).toInt
def md_dans (n r : Nat) (now : Nat → Int32) (i j : Int32) (db : Bool) (u : Int32) : Int64 := if sr_row n i = true ∧ sr_row n j = true then md_ans n r now (sr_dform i.toNatClampNeg j.toNatClampNeg) db u else sr_NN
set_option maxHeartbeats 4000000 in
set_option maxRecDepth 100000 in
theorem c_X7_difference_ (g : sr_G) (D : sr_St) (n r : Nat) (hlo : sr_logOk (D.1 64) n r) (hgood : md_good (n + 1) (md_P (D.1 64) n r)) (i j u : Int32) (hbnd : ∀ x y, x < n → y < n → md_bnd n r (D.1 64) (sr_dform x y)) : Con g M_X7_difference_ [.ref 63, .int i, .int j, .int u] D (fun a D' => a = some (.long (md_dans n r (D.1 64) i j false u)) ∧ sr_per D D') := by
  refine Con.of pn_X7_difference_ (Nat.le_of_ble_eq_true rfl) ?_
  have hn6 := hlo.1.2.1
  by_cases hi : sr_row n i = true
  · obtain ⟨x, hx, rfl⟩ := (sr_row_n hn6).mp hi
    by_cases hj : sr_row n j = true
    · obtain ⟨y, hy, rfl⟩ := (sr_row_n hn6).mp hj
      refine wp_aload_n dX7_difference__0 rfl rfl ?_
      refine wp_iconst (v := nI 0) dX7_difference__1 rfl ?_
      refine wp_putI dX7_difference__2 fl_X7_43 (by decide) rfl rfl ?_
      refine wp_D (fun D1 eD1 => ?_)
      have p2 : sr_per D D1 := by rw [eD1]; exact sr_per_th
      refine wp_aload_n dX7_difference__5 rfl rfl ?_
      refine wp_iload_n dX7_difference__6 rfl rfl ?_
      refine wp_callV (M2 := M_X7_isRower) (n := 1) (As := [.int (nI x)]) (st := []) dX7_difference__7 (c_X7_isRower g D1 (nI x)) ca_X7_113 ⟨nm_X7_isRower, by decide, by decide⟩ rfl (by decide) rfl rfl rfl (Nat.le_of_ble_eq_true rfl) (fun r3 E4 q5 => ?_)
      rw [congrFun (((sr_per.rf).tr p2).n64) 0, hlo.1.1] at q5
      obtain ⟨rfl, rfl⟩ := q5
      show WP g _ _ _ (.int (sr_b (sr_isIn (nI x) (nI 0) (nI n - nI 1))) :: _) _ _
      refine wp_if_eq_b (tgt := 21) dX7_difference__10 (by decide) (fun c6 => ?_) (fun c6 => ?_)
      · exact absurd hi (by unfold sr_row; rw [c6]; decide)
      · refine wp_aload_n dX7_difference__13 rfl rfl ?_
        refine wp_iload_n dX7_difference__14 rfl rfl ?_
        refine wp_callV (M2 := M_X7_isRower) (n := 1) (As := [.int (nI y)]) (st := []) dX7_difference__15 (c_X7_isRower g D1 (nI y)) ca_X7_113 ⟨nm_X7_isRower, by decide, by decide⟩ rfl (by decide) rfl rfl rfl (Nat.le_of_ble_eq_true rfl) (fun r7 E8 q9 => ?_)
        rw [congrFun (((sr_per.rf).tr p2).n64) 0, hlo.1.1] at q9
        obtain ⟨rfl, rfl⟩ := q9
        show WP g _ _ _ (.int (sr_b (sr_isIn (nI y) (nI 0) (nI n - nI 1))) :: _) _ _
        refine wp_if_ne_b (tgt := 25) dX7_difference__18 (by decide) (fun c10 => ?_) (fun c10 => ?_)
        · refine wp_aload_n dX7_difference__25 rfl rfl ?_
          refine wp_callV (M2 := M_X7_lays) (n := 0) (As := []) (st := []) dX7_difference__26 (c_X7_lays g D1 n r (by rw [((sr_per.rf).tr p2).n64]; exact hlo)) ca_X7_183 ⟨nm_X7_lays, by decide, by decide⟩ rfl (by decide) rfl rfl rfl (Nat.le_of_ble_eq_true rfl) (fun r11 E12 q13 => ?_)
          rw [((sr_per.rf).tr p2).n64] at q13
          obtain ⟨rfl, p14, la15, h6516, h6317, g6318⟩ := q13
          show WP g _ _ _ _ _ _
          refine wp_aload_n dX7_difference__29 rfl rfl ?_
          refine wp_iload_n dX7_difference__30 rfl rfl ?_
          refine wp_iload_n dX7_difference__31 rfl rfl ?_
          refine wp_callV (M2 := M_X7_difference) (n := 2) (As := [.int (nI x), .int (nI y)]) (st := []) dX7_difference__32 (c_diff g E12 x y (by omega) (by omega)) ca_X7_186 ⟨nm_X7_difference, by decide, by decide⟩ rfl (by decide) rfl rfl rfl (Nat.le_of_ble_eq_true rfl) (fun r19 E20 q21 => ?_)
          obtain ⟨rfl, p22, l23, f24, g25, o26⟩ := q21
          show WP g _ _ _ _ _ _
          have la27 := l23 _ _ _ la15
          refine wp_aload_n dX7_difference__35 rfl rfl ?_
          refine wp_callV (M2 := M_X7_isKnown) (n := 0) (As := []) (st := []) dX7_difference__36 (c_kn g E20 (n + 1) (md_P (D.1 64) n r) (md_S1 (D.1 64) n r) (sr_dform x y) (by have := hlo.1.2.1; omega) la27 f24 hgood) ca_X7_189 ⟨nm_X7_isKnown, by decide, by decide⟩ rfl (by decide) rfl rfl rfl (Nat.le_of_ble_eq_true rfl) (fun r28 E29 q30 => ?_)
          obtain ⟨rfl, p31, la32, f33, x34, y35, z36, rk37, by38, sv39⟩ := q30
          have hf40 : ∀ k, k < 7 → E29.1 67 k = (sr_dform x y) k := fun k hk => by rw [f33]; exact f24 k hk
          show WP g _ _ _ (.int (sr_b (md_kn (n + 1) (md_P (D.1 64) n r) (sr_l (sr_dform x y)))) :: _) _ _
          refine wp_if_eq_b (tgt := 57) dX7_difference__39 (by decide) (fun c41 => ?_) (fun c41 => ?_)
          · have hk := c41
            refine wp_ldc2 (v := -1000000000000000000) dX7_difference__57 ct_X7_181 ?_
            refine wp_lret dX7_difference__60 rfl ⟨?_, ((((sr_per.rf).tr p2).tr p14).tr p22).tr p31⟩
            unfold md_dans
            rw [if_pos ⟨hi, hj⟩, nI_clamp (by omega), nI_clamp (by omega)]
            unfold md_ans
            rw [if_neg (by rw [hk]; decide)]
          · have hk := c41
            refine wp_aload_n dX7_difference__42 rfl rfl ?_
            refine wp_callV (M2 := M_X7_value) (n := 0) (As := []) (st := []) dX7_difference__43 (c_val g E29 (n + 1) (md_P (D.1 64) n r) (md_S1 (D.1 64) n r) (sr_l (sr_dform x y)) (by have := hlo.1.2.1; omega) la32 sv39) ca_X7_192 ⟨nm_X7_value, by decide, by decide⟩ rfl (by decide) rfl rfl rfl (Nat.le_of_ble_eq_true rfl) (fun r42 E43 q44 => ?_)
            obtain ⟨rfl, rfl⟩ := q44
            show WP g _ _ _ (.long (md_val (n + 1) (md_P (D.1 64) n r) (md_S1 (D.1 64) n r) (sr_l (sr_dform x y))) :: _) _ _
            refine wp_aload_n dX7_difference__46 rfl rfl ?_
            refine wp_getJ dX7_difference__47 fl_X7_159 (by decide) rfl rfl ?_
            rw [by38]
            refine wp_iload_n dX7_difference__50 rfl rfl ?_
            refine wp_callS (M2 := M_X7_told_) (n := 3) (As := [.long (md_val (n + 1) (md_P (D.1 64) n r) (md_S1 (D.1 64) n r) (sr_l (sr_dform x y))), .long (md_by (n + 1) (md_P (D.1 64) n r) (sr_l (sr_dform x y))), .int u]) (st := []) dX7_difference__51 (c_X7_told_ g E29 (md_val (n + 1) (md_P (D.1 64) n r) (md_S1 (D.1 64) n r) (sr_l (sr_dform x y))) (md_by (n + 1) (md_P (D.1 64) n r) (sr_l (sr_dform x y))) u ((hbnd x y hx hy).1) (sr_gpos (hgood _)) (sr_gne (hgood _))) ca_X7_196 ⟨nm_X7_told_, by decide, by decide⟩ rfl rfl (Nat.le_of_ble_eq_true rfl) (fun r45 E46 q47 => ?_)
            obtain ⟨rfl, rfl⟩ := q47
            show WP g _ _ _ (.long (sr_told (md_val (n + 1) (md_P (D.1 64) n r) (md_S1 (D.1 64) n r) (sr_l (sr_dform x y))) (md_by (n + 1) (md_P (D.1 64) n r) (sr_l (sr_dform x y))) u) :: _) _ _
            refine wp_goto (tgt := 60) dX7_difference__54 (by decide) ?_
            refine wp_lret dX7_difference__60 rfl ⟨?_, ((((sr_per.rf).tr p2).tr p14).tr p22).tr p31⟩
            unfold md_dans
            rw [if_pos ⟨hi, hj⟩, nI_clamp (by omega), nI_clamp (by omega)]
            unfold md_ans
            rw [if_pos hk]; rfl
        · exact absurd hj (by unfold sr_row; rw [c10]; decide)
    · refine wp_aload_n dX7_difference__0 rfl rfl ?_
      refine wp_iconst (v := nI 0) dX7_difference__1 rfl ?_
      refine wp_putI dX7_difference__2 fl_X7_43 (by decide) rfl rfl ?_
      refine wp_D (fun D48 eD48 => ?_)
      have p49 : sr_per D D48 := by rw [eD48]; exact sr_per_th
      refine wp_aload_n dX7_difference__5 rfl rfl ?_
      refine wp_iload_n dX7_difference__6 rfl rfl ?_
      refine wp_callV (M2 := M_X7_isRower) (n := 1) (As := [.int (nI x)]) (st := []) dX7_difference__7 (c_X7_isRower g D48 (nI x)) ca_X7_113 ⟨nm_X7_isRower, by decide, by decide⟩ rfl (by decide) rfl rfl rfl (Nat.le_of_ble_eq_true rfl) (fun r50 E51 q52 => ?_)
      rw [congrFun (((sr_per.rf).tr p49).n64) 0, hlo.1.1] at q52
      obtain ⟨rfl, rfl⟩ := q52
      show WP g _ _ _ (.int (sr_b (sr_isIn (nI x) (nI 0) (nI n - nI 1))) :: _) _ _
      refine wp_if_eq_b (tgt := 21) dX7_difference__10 (by decide) (fun c53 => ?_) (fun c53 => ?_)
      · exact absurd hi (by unfold sr_row; rw [c53]; decide)
      · refine wp_aload_n dX7_difference__13 rfl rfl ?_
        refine wp_iload_n dX7_difference__14 rfl rfl ?_
        refine wp_callV (M2 := M_X7_isRower) (n := 1) (As := [.int j]) (st := []) dX7_difference__15 (c_X7_isRower g D48 j) ca_X7_113 ⟨nm_X7_isRower, by decide, by decide⟩ rfl (by decide) rfl rfl rfl (Nat.le_of_ble_eq_true rfl) (fun r54 E55 q56 => ?_)
        rw [congrFun (((sr_per.rf).tr p49).n64) 0, hlo.1.1] at q56
        obtain ⟨rfl, rfl⟩ := q56
        show WP g _ _ _ (.int (sr_b (sr_isIn j (nI 0) (nI n - nI 1))) :: _) _ _
        refine wp_if_ne_b (tgt := 25) dX7_difference__18 (by decide) (fun c57 => ?_) (fun c57 => ?_)
        · exact absurd c57 hj
        · refine wp_ldc2 (v := -1000000000000000000) dX7_difference__21 ct_X7_181 ?_
          refine wp_lret dX7_difference__24 rfl ⟨?_, (sr_per.rf).tr p49⟩
          unfold md_dans
          rw [if_neg (fun z => hj z.2)]
  · refine wp_aload_n dX7_difference__0 rfl rfl ?_
    refine wp_iconst (v := nI 0) dX7_difference__1 rfl ?_
    refine wp_putI dX7_difference__2 fl_X7_43 (by decide) rfl rfl ?_
    refine wp_D (fun D58 eD58 => ?_)
    have p59 : sr_per D D58 := by rw [eD58]; exact sr_per_th
    refine wp_aload_n dX7_difference__5 rfl rfl ?_
    refine wp_iload_n dX7_difference__6 rfl rfl ?_
    refine wp_callV (M2 := M_X7_isRower) (n := 1) (As := [.int i]) (st := []) dX7_difference__7 (c_X7_isRower g D58 i) ca_X7_113 ⟨nm_X7_isRower, by decide, by decide⟩ rfl (by decide) rfl rfl rfl (Nat.le_of_ble_eq_true rfl) (fun r60 E61 q62 => ?_)
    rw [congrFun (((sr_per.rf).tr p59).n64) 0, hlo.1.1] at q62
    obtain ⟨rfl, rfl⟩ := q62
    show WP g _ _ _ (.int (sr_b (sr_isIn i (nI 0) (nI n - nI 1))) :: _) _ _
    refine wp_if_eq_b (tgt := 21) dX7_difference__10 (by decide) (fun c63 => ?_) (fun c63 => ?_)
    · refine wp_ldc2 (v := -1000000000000000000) dX7_difference__21 ct_X7_181 ?_
      refine wp_lret dX7_difference__24 rfl ⟨?_, (sr_per.rf).tr p59⟩
      unfold md_dans
      rw [if_neg (fun z => hi z.1)]
    · exact absurd c63 hi
set_option maxHeartbeats 4000000 in
set_option maxRecDepth 100000 in
theorem c_X7_doubt_ (g : sr_G) (D : sr_St) (n r : Nat) (hlo : sr_logOk (D.1 64) n r) (hgood : md_good (n + 1) (md_P (D.1 64) n r)) (i j u : Int32) (hbnd : ∀ x y, x < n → y < n → md_bnd n r (D.1 64) (sr_dform x y)) : Con g M_X7_doubt_ [.ref 63, .int i, .int j, .int u] D (fun a D' => a = some (.long (md_dans n r (D.1 64) i j true u)) ∧ sr_per D D') := by
  refine Con.of pn_X7_doubt_ (Nat.le_of_ble_eq_true rfl) ?_
  have hn6 := hlo.1.2.1
  by_cases hi : sr_row n i = true
  · obtain ⟨x, hx, rfl⟩ := (sr_row_n hn6).mp hi
    by_cases hj : sr_row n j = true
    · obtain ⟨y, hy, rfl⟩ := (sr_row_n hn6).mp hj
      refine wp_aload_n dX7_doubt__0 rfl rfl ?_
      refine wp_iconst (v := nI 0) dX7_doubt__1 rfl ?_
      refine wp_putI dX7_doubt__2 fl_X7_43 (by decide) rfl rfl ?_
      refine wp_D (fun D64 eD64 => ?_)
      have p65 : sr_per D D64 := by rw [eD64]; exact sr_per_th
      refine wp_aload_n dX7_doubt__5 rfl rfl ?_
      refine wp_iload_n dX7_doubt__6 rfl rfl ?_
      refine wp_callV (M2 := M_X7_isRower) (n := 1) (As := [.int (nI x)]) (st := []) dX7_doubt__7 (c_X7_isRower g D64 (nI x)) ca_X7_113 ⟨nm_X7_isRower, by decide, by decide⟩ rfl (by decide) rfl rfl rfl (Nat.le_of_ble_eq_true rfl) (fun r66 E67 q68 => ?_)
      rw [congrFun (((sr_per.rf).tr p65).n64) 0, hlo.1.1] at q68
      obtain ⟨rfl, rfl⟩ := q68
      show WP g _ _ _ (.int (sr_b (sr_isIn (nI x) (nI 0) (nI n - nI 1))) :: _) _ _
      refine wp_if_eq_b (tgt := 21) dX7_doubt__10 (by decide) (fun c69 => ?_) (fun c69 => ?_)
      · exact absurd hi (by unfold sr_row; rw [c69]; decide)
      · refine wp_aload_n dX7_doubt__13 rfl rfl ?_
        refine wp_iload_n dX7_doubt__14 rfl rfl ?_
        refine wp_callV (M2 := M_X7_isRower) (n := 1) (As := [.int (nI y)]) (st := []) dX7_doubt__15 (c_X7_isRower g D64 (nI y)) ca_X7_113 ⟨nm_X7_isRower, by decide, by decide⟩ rfl (by decide) rfl rfl rfl (Nat.le_of_ble_eq_true rfl) (fun r70 E71 q72 => ?_)
        rw [congrFun (((sr_per.rf).tr p65).n64) 0, hlo.1.1] at q72
        obtain ⟨rfl, rfl⟩ := q72
        show WP g _ _ _ (.int (sr_b (sr_isIn (nI y) (nI 0) (nI n - nI 1))) :: _) _ _
        refine wp_if_ne_b (tgt := 25) dX7_doubt__18 (by decide) (fun c73 => ?_) (fun c73 => ?_)
        · refine wp_aload_n dX7_doubt__25 rfl rfl ?_
          refine wp_callV (M2 := M_X7_lays) (n := 0) (As := []) (st := []) dX7_doubt__26 (c_X7_lays g D64 n r (by rw [((sr_per.rf).tr p65).n64]; exact hlo)) ca_X7_183 ⟨nm_X7_lays, by decide, by decide⟩ rfl (by decide) rfl rfl rfl (Nat.le_of_ble_eq_true rfl) (fun r74 E75 q76 => ?_)
          rw [((sr_per.rf).tr p65).n64] at q76
          obtain ⟨rfl, p77, la78, h6579, h6380, g6381⟩ := q76
          show WP g _ _ _ _ _ _
          refine wp_aload_n dX7_doubt__29 rfl rfl ?_
          refine wp_iload_n dX7_doubt__30 rfl rfl ?_
          refine wp_iload_n dX7_doubt__31 rfl rfl ?_
          refine wp_callV (M2 := M_X7_difference) (n := 2) (As := [.int (nI x), .int (nI y)]) (st := []) dX7_doubt__32 (c_diff g E75 x y (by omega) (by omega)) ca_X7_186 ⟨nm_X7_difference, by decide, by decide⟩ rfl (by decide) rfl rfl rfl (Nat.le_of_ble_eq_true rfl) (fun r82 E83 q84 => ?_)
          obtain ⟨rfl, p85, l86, f87, g88, o89⟩ := q84
          show WP g _ _ _ _ _ _
          have la90 := l86 _ _ _ la78
          refine wp_aload_n dX7_doubt__35 rfl rfl ?_
          refine wp_callV (M2 := M_X7_isKnown) (n := 0) (As := []) (st := []) dX7_doubt__36 (c_kn g E83 (n + 1) (md_P (D.1 64) n r) (md_S1 (D.1 64) n r) (sr_dform x y) (by have := hlo.1.2.1; omega) la90 f87 hgood) ca_X7_189 ⟨nm_X7_isKnown, by decide, by decide⟩ rfl (by decide) rfl rfl rfl (Nat.le_of_ble_eq_true rfl) (fun r91 E92 q93 => ?_)
          obtain ⟨rfl, p94, la95, f96, x97, y98, z99, rk100, by101, sv102⟩ := q93
          have hf103 : ∀ k, k < 7 → E92.1 67 k = (sr_dform x y) k := fun k hk => by rw [f96]; exact f87 k hk
          show WP g _ _ _ (.int (sr_b (md_kn (n + 1) (md_P (D.1 64) n r) (sr_l (sr_dform x y)))) :: _) _ _
          refine wp_if_eq_b (tgt := 57) dX7_doubt__39 (by decide) (fun c104 => ?_) (fun c104 => ?_)
          · have hk := c104
            refine wp_ldc2 (v := -1000000000000000000) dX7_doubt__57 ct_X7_181 ?_
            refine wp_lret dX7_doubt__60 rfl ⟨?_, ((((sr_per.rf).tr p65).tr p77).tr p85).tr p94⟩
            unfold md_dans
            rw [if_pos ⟨hi, hj⟩, nI_clamp (by omega), nI_clamp (by omega)]
            unfold md_ans
            rw [if_neg (by rw [hk]; decide)]
          · have hk := c104
            refine wp_aload_n dX7_doubt__42 rfl rfl ?_
            refine wp_callV (M2 := M_X7_doubt) (n := 0) (As := []) (st := []) dX7_doubt__43 (c_dou g E92 (n + 1) (md_P (D.1 64) n r) (md_S1 (D.1 64) n r) (sr_l (sr_dform x y)) (by have := hlo.1.2.1; omega) la95 sv102 (fun k hk => by rw [hf103 k hk]; rfl)) ca_X7_199 ⟨nm_X7_doubt, by decide, by decide⟩ rfl (by decide) rfl rfl rfl (Nat.le_of_ble_eq_true rfl) (fun r105 E106 q107 => ?_)
            obtain ⟨rfl, rfl⟩ := q107
            show WP g _ _ _ (.long (md_dou (n + 1) (md_P (D.1 64) n r) (sr_l (sr_dform x y))) :: _) _ _
            refine wp_aload_n dX7_doubt__46 rfl rfl ?_
            refine wp_getJ dX7_doubt__47 fl_X7_159 (by decide) rfl rfl ?_
            rw [by101]
            refine wp_iload_n dX7_doubt__50 rfl rfl ?_
            refine wp_callS (M2 := M_X7_told_) (n := 3) (As := [.long (md_dou (n + 1) (md_P (D.1 64) n r) (sr_l (sr_dform x y))), .long (md_by (n + 1) (md_P (D.1 64) n r) (sr_l (sr_dform x y))), .int u]) (st := []) dX7_doubt__51 (c_X7_told_ g E92 (md_dou (n + 1) (md_P (D.1 64) n r) (sr_l (sr_dform x y))) (md_by (n + 1) (md_P (D.1 64) n r) (sr_l (sr_dform x y))) u ((hbnd x y hx hy).2) (sr_gpos (hgood _)) (sr_gne (hgood _))) ca_X7_196 ⟨nm_X7_told_, by decide, by decide⟩ rfl rfl (Nat.le_of_ble_eq_true rfl) (fun r108 E109 q110 => ?_)
            obtain ⟨rfl, rfl⟩ := q110
            show WP g _ _ _ (.long (sr_told (md_dou (n + 1) (md_P (D.1 64) n r) (sr_l (sr_dform x y))) (md_by (n + 1) (md_P (D.1 64) n r) (sr_l (sr_dform x y))) u) :: _) _ _
            refine wp_goto (tgt := 60) dX7_doubt__54 (by decide) ?_
            refine wp_lret dX7_doubt__60 rfl ⟨?_, ((((sr_per.rf).tr p65).tr p77).tr p85).tr p94⟩
            unfold md_dans
            rw [if_pos ⟨hi, hj⟩, nI_clamp (by omega), nI_clamp (by omega)]
            unfold md_ans
            rw [if_pos hk]; rfl
        · exact absurd hj (by unfold sr_row; rw [c73]; decide)
    · refine wp_aload_n dX7_doubt__0 rfl rfl ?_
      refine wp_iconst (v := nI 0) dX7_doubt__1 rfl ?_
      refine wp_putI dX7_doubt__2 fl_X7_43 (by decide) rfl rfl ?_
      refine wp_D (fun D111 eD111 => ?_)
      have p112 : sr_per D D111 := by rw [eD111]; exact sr_per_th
      refine wp_aload_n dX7_doubt__5 rfl rfl ?_
      refine wp_iload_n dX7_doubt__6 rfl rfl ?_
      refine wp_callV (M2 := M_X7_isRower) (n := 1) (As := [.int (nI x)]) (st := []) dX7_doubt__7 (c_X7_isRower g D111 (nI x)) ca_X7_113 ⟨nm_X7_isRower, by decide, by decide⟩ rfl (by decide) rfl rfl rfl (Nat.le_of_ble_eq_true rfl) (fun r113 E114 q115 => ?_)
      rw [congrFun (((sr_per.rf).tr p112).n64) 0, hlo.1.1] at q115
      obtain ⟨rfl, rfl⟩ := q115
      show WP g _ _ _ (.int (sr_b (sr_isIn (nI x) (nI 0) (nI n - nI 1))) :: _) _ _
      refine wp_if_eq_b (tgt := 21) dX7_doubt__10 (by decide) (fun c116 => ?_) (fun c116 => ?_)
      · exact absurd hi (by unfold sr_row; rw [c116]; decide)
      · refine wp_aload_n dX7_doubt__13 rfl rfl ?_
        refine wp_iload_n dX7_doubt__14 rfl rfl ?_
        refine wp_callV (M2 := M_X7_isRower) (n := 1) (As := [.int j]) (st := []) dX7_doubt__15 (c_X7_isRower g D111 j) ca_X7_113 ⟨nm_X7_isRower, by decide, by decide⟩ rfl (by decide) rfl rfl rfl (Nat.le_of_ble_eq_true rfl) (fun r117 E118 q119 => ?_)
        rw [congrFun (((sr_per.rf).tr p112).n64) 0, hlo.1.1] at q119
        obtain ⟨rfl, rfl⟩ := q119
        show WP g _ _ _ (.int (sr_b (sr_isIn j (nI 0) (nI n - nI 1))) :: _) _ _
        refine wp_if_ne_b (tgt := 25) dX7_doubt__18 (by decide) (fun c120 => ?_) (fun c120 => ?_)
        · exact absurd c120 hj
        · refine wp_ldc2 (v := -1000000000000000000) dX7_doubt__21 ct_X7_181 ?_
          refine wp_lret dX7_doubt__24 rfl ⟨?_, (sr_per.rf).tr p112⟩
          unfold md_dans
          rw [if_neg (fun z => hj z.2)]
  · refine wp_aload_n dX7_doubt__0 rfl rfl ?_
    refine wp_iconst (v := nI 0) dX7_doubt__1 rfl ?_
    refine wp_putI dX7_doubt__2 fl_X7_43 (by decide) rfl rfl ?_
    refine wp_D (fun D121 eD121 => ?_)
    have p122 : sr_per D D121 := by rw [eD121]; exact sr_per_th
    refine wp_aload_n dX7_doubt__5 rfl rfl ?_
    refine wp_iload_n dX7_doubt__6 rfl rfl ?_
    refine wp_callV (M2 := M_X7_isRower) (n := 1) (As := [.int i]) (st := []) dX7_doubt__7 (c_X7_isRower g D121 i) ca_X7_113 ⟨nm_X7_isRower, by decide, by decide⟩ rfl (by decide) rfl rfl rfl (Nat.le_of_ble_eq_true rfl) (fun r123 E124 q125 => ?_)
    rw [congrFun (((sr_per.rf).tr p122).n64) 0, hlo.1.1] at q125
    obtain ⟨rfl, rfl⟩ := q125
    show WP g _ _ _ (.int (sr_b (sr_isIn i (nI 0) (nI n - nI 1))) :: _) _ _
    refine wp_if_eq_b (tgt := 21) dX7_doubt__10 (by decide) (fun c126 => ?_) (fun c126 => ?_)
    · refine wp_ldc2 (v := -1000000000000000000) dX7_doubt__21 ct_X7_181 ?_
      refine wp_lret dX7_doubt__24 rfl ⟨?_, (sr_per.rf).tr p122⟩
      unfold md_dans
      rw [if_neg (fun z => hi z.1)]
    · exact absurd c126 hi
