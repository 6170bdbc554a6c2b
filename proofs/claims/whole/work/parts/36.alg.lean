/-- within the table that is laid: what stays -/
def md_kp (E E' : sr_St) : Prop := sr_per E E' ∧ E'.1 65 = E.1 65 ∧ (∀ k, ¬ k = 16 → E'.1 63 k = E.1 63 k) ∧ ∀ k, ¬ k = 17 → ¬ k = 20 → E'.2 63 k = E.2 63 k
theorem md_kp.rf {E : sr_St} : md_kp E E := ⟨sr_per.rf, rfl, fun _ _ => rfl, fun _ _ _ => rfl⟩
theorem md_kp.tr {D E F : sr_St} (h : md_kp D E) (k : md_kp E F) : md_kp D F := ⟨h.1.tr k.1, k.2.1.trans h.2.1, fun x a => (k.2.2.1 x a).trans (h.2.2.1 x a), fun x a b => (k.2.2.2 x a b).trans (h.2.2.2 x a b)⟩
theorem md_kp_f {E E' : sr_St} (p : sr_per E E') (g : E'.2 = E.2) (o : ∀ o, ¬ o = 67 → E'.1 o = E.1 o) : md_kp E E' := ⟨p, o 65 (by decide), fun k _ => by rw [o 63 (by decide)], fun k _ _ => by rw [g]⟩
theorem md_kp_a {w : Nat} {p s : Nat → Int64} {f : Nat → Int32} {E E' : sr_St} (h : md_after w p s f E E') : md_kp E E' := ⟨h.1, h.2.2.2.1, h.2.2.2.2.1, fun k a _ => h.2.2.2.2.2.1 k a⟩
theorem sr_per_th {D : sr_St} {v : Int32} : sr_per D (sr_sI D 63 0 v) := ⟨fun o a b c d => by simp [sr_sI, a], fun k a b c d e f => by rw [sr_sI_1, if_neg (by omega)], fun o a b c d e => rfl⟩
theorem sr_gpos {x : Int64} (h : 0 < x) : -(2 ^ 63 : Int) < x.toInt := by rw [Int64.lt_iff_toInt_lt] at h; have e : (0 : Int64).toInt = 0 := rfl; omega
theorem sr_gne {x : Int64} (h : 0 < x) : ¬ x = 0 := fun z => by subst z; rw [Int64.lt_iff_toInt_lt] at h; omega
/-- no number: what is not known -/
abbrev sr_NN : Int64 := -1000000000000000000
/-- a rower -/
def sr_row (n : Nat) (v : Int32) : Bool := sr_isIn v (nI 0) (nI n - nI 1)
theorem sr_row_n {n : Nat} {v : Int32} (hn : n ≤ 6) : sr_row n v = true ↔ ∃ x, x < n ∧ v = nI x := sr_in_n (by omega)
/-- answers of the form asked: value or doubt over the number below, or none -/
def md_ans (n r : Nat) (now : Nat → Int32) (f : Nat → Int32) (db : Bool) (u : Int32) : Int64 := if md_kn (n + 1) (md_P now n r) (sr_l f) = true then sr_told (if db = true then md_dou (n + 1) (md_P now n r) (sr_l f) else md_val (n + 1) (md_P now n r) (md_S1 now n r) (sr_l f)) (md_by (n + 1) (md_P now n r) (sr_l f)) u else sr_NN
/-- the numbers told stay above the least long -/
def md_bnd (n r : Nat) (now : Nat → Int32) (f : Nat → Int32) : Prop := -(2 ^ 63 : Int) < (md_val (n + 1) (md_P now n r) (md_S1 now n r) (sr_l f)).toInt ∧ -(2 ^ 63 : Int) < (md_dou (n + 1) (md_P now n r) (sr_l f)).toInt
def md_dans (n r : Nat) (now : Nat → Int32) (i j : Int32) (db : Bool) (u : Int32) : Int64 := if sr_row n i = true ∧ sr_row n j = true then md_ans n r now (sr_dform i.toNatClampNeg j.toNatClampNeg) db u else sr_NN
set_option maxHeartbeats 4000000 in
set_option maxRecDepth 100000 in
theorem c_X7_difference_ (g : sr_G) (D : sr_St) (n r : Nat) (hlo : sr_logOk (D.1 64) n r) (hgood : md_good (n + 1) (md_P (D.1 64) n r)) (i j u : Int32) (hbnd : ∀ x y, x < n → y < n → md_bnd n r (D.1 64) (sr_dform x y)) : Con g M_X7_difference_ [.ref 63, .int i, .int j, .int u] D (fun a D' => a = some (.long (md_dans n r (D.1 64) i j false u)) ∧ sr_per D D') := by
  refine Con.of pn_X7_difference_ (Nat.le_of_ble_eq_true rfl) ?_
  have hn := hlo.1.1
  have hn6 := hlo.1.2.1
  have hr := hlo.1.2.2.1
  have hr12 := hlo.1.2.2.2
  by_cases hi : sr_row n i = true
  · obtain ⟨x, hx, rfl⟩ := (sr_row_n hn6).mp hi
    by_cases hj : sr_row n j = true
    · obtain ⟨y, hy, rfl⟩ := (sr_row_n hn6).mp hj
      refine wp_aload_n dX7_difference__0 rfl rfl ?_
      refine wp_iconst (v := nI 0) dX7_difference__1 rfl ?_
      refine wp_putI dX7_difference__2 fl_X7_43 (by decide) rfl rfl ?_
      refine wp_D (fun D1 eD1 => ?_)
      have p2 : sr_per D D1 := by rw [eD1]; exact sr_per_th
      refine wp_aload_n dX7_difference__5 rfl rfl ?_
      refine wp_iload_n dX7_difference__6 rfl rfl ?_
      refine wp_callV (M2 := M_X7_isRower) (n := 1) (As := [.int (nI x)]) (st := []) dX7_difference__7 (c_X7_isRower g D1 (nI x)) ca_X7_113 ⟨nm_X7_isRower, by decide, by decide⟩ rfl (by decide) rfl rfl rfl (Nat.le_of_ble_eq_true rfl) (fun r3 E4 q5 => ?_)
      rw [congrFun (((sr_per.rf).tr p2).n64) 0, hn] at q5
      obtain ⟨rfl, rfl⟩ := q5
      show WP g _ _ _ (.int (sr_b (sr_isIn (nI x) (nI 0) (nI n - nI 1))) :: _) _ _
      refine wp_if_eq_b (tgt := 21) dX7_difference__10 (by decide) (fun c6 => ?_) (fun c6 => ?_)
      · exact absurd hi (by unfold sr_row; rw [c6]; decide)
      · refine wp_aload_n dX7_difference__13 rfl rfl ?_
        refine wp_iload_n dX7_difference__14 rfl rfl ?_
        refine wp_callV (M2 := M_X7_isRower) (n := 1) (As := [.int (nI y)]) (st := []) dX7_difference__15 (c_X7_isRower g D1 (nI y)) ca_X7_113 ⟨nm_X7_isRower, by decide, by decide⟩ rfl (by decide) rfl rfl rfl (Nat.le_of_ble_eq_true rfl) (fun r7 E8 q9 => ?_)
        rw [congrFun (((sr_per.rf).tr p2).n64) 0, hn] at q9
        obtain ⟨rfl, rfl⟩ := q9
        show WP g _ _ _ (.int (sr_b (sr_isIn (nI y) (nI 0) (nI n - nI 1))) :: _) _ _
        refine wp_if_ne_b (tgt := 25) dX7_difference__18 (by decide) (fun c10 => ?_) (fun c10 => ?_)
        · refine wp_aload_n dX7_difference__25 rfl rfl ?_
          refine wp_callV (M2 := M_X7_lays) (n := 0) (As := []) (st := []) dX7_difference__26 (c_X7_lays g D1 n r (by rw [((sr_per.rf).tr p2).n64]; exact hlo)) ca_X7_183 ⟨nm_X7_lays, by decide, by decide⟩ rfl (by decide) rfl rfl rfl (Nat.le_of_ble_eq_true rfl) (fun r11 E12 q13 => ?_)
          rw [((sr_per.rf).tr p2).n64] at q13
          obtain ⟨rfl, p14, la15, h6516, h6317, g6318⟩ := q13
          show WP g _ _ _ _ _ _
          refine wp_aload_n dX7_difference__29 rfl rfl ?_
          refine wp_iload_n dX7_difference__30 rfl rfl ?_
          refine wp_iload_n dX7_difference__31 rfl rfl ?_
          refine wp_callV (M2 := M_X7_difference) (n := 2) (As := [.int (nI x), .int (nI y)]) (st := []) dX7_difference__32 (c_diff g E12 x y (by omega) (by omega)) ca_X7_186 ⟨nm_X7_difference, by decide, by decide⟩ rfl (by decide) rfl rfl rfl (Nat.le_of_ble_eq_true rfl) (fun r19 E20 q21 => ?_)
          obtain ⟨rfl, p22, l23, f24, g25, o26⟩ := q21
          show WP g _ _ _ _ _ _
          have la27 := l23 _ _ _ la15
          refine wp_aload_n dX7_difference__35 rfl rfl ?_
          refine wp_callV (M2 := M_X7_isKnown) (n := 0) (As := []) (st := []) dX7_difference__36 (c_kn g E20 (n + 1) (md_P (D.1 64) n r) (md_S1 (D.1 64) n r) (sr_dform x y) (by omega) la27 f24 hgood) ca_X7_189 ⟨nm_X7_isKnown, by decide, by decide⟩ rfl (by decide) rfl rfl rfl (Nat.le_of_ble_eq_true rfl) (fun r28 E29 q30 => ?_)
          obtain ⟨rfl, aft40⟩ := q30
          obtain ⟨p31, la32, f33, x34, y35, z36, rk37, by38, sv39⟩ := id aft40
          have hf41 : ∀ k, k < 7 → E29.1 67 k = (sr_dform x y) k := fun k hk => by rw [f33]; exact f24 k hk
          show WP g _ _ _ (.int (sr_b (md_kn (n + 1) (md_P (D.1 64) n r) (sr_l (sr_dform x y)))) :: _) _ _
          refine wp_if_eq_b (tgt := 57) dX7_difference__39 (by decide) (fun c42 => ?_) (fun c42 => ?_)
          · have hk := c42
            refine wp_ldc2 (v := -1000000000000000000) dX7_difference__57 ct_X7_181 ?_
            refine wp_lret dX7_difference__60 rfl ⟨?_, ((((sr_per.rf).tr p2).tr p14).tr p22).tr p31⟩
            unfold md_dans
            rw [if_pos ⟨hi, hj⟩, nI_clamp (by omega), nI_clamp (by omega)]
            unfold md_ans
            rw [if_neg (by rw [hk]; decide)]
          · have hk := c42
            refine wp_aload_n dX7_difference__42 rfl rfl ?_
            refine wp_callV (M2 := M_X7_value) (n := 0) (As := []) (st := []) dX7_difference__43 (c_val g E29 (n + 1) (md_P (D.1 64) n r) (md_S1 (D.1 64) n r) (sr_l (sr_dform x y)) (by omega) la32 sv39) ca_X7_192 ⟨nm_X7_value, by decide, by decide⟩ rfl (by decide) rfl rfl rfl (Nat.le_of_ble_eq_true rfl) (fun r43 E44 q45 => ?_)
            obtain ⟨rfl, rfl⟩ := q45
            show WP g _ _ _ (.long (md_val (n + 1) (md_P (D.1 64) n r) (md_S1 (D.1 64) n r) (sr_l (sr_dform x y))) :: _) _ _
            refine wp_aload_n dX7_difference__46 rfl rfl ?_
            refine wp_getJ dX7_difference__47 fl_X7_159 (by decide) rfl rfl ?_
            rw [by38]
            refine wp_iload_n dX7_difference__50 rfl rfl ?_
            refine wp_callS (M2 := M_X7_told_) (n := 3) (As := [.long (md_val (n + 1) (md_P (D.1 64) n r) (md_S1 (D.1 64) n r) (sr_l (sr_dform x y))), .long (md_by (n + 1) (md_P (D.1 64) n r) (sr_l (sr_dform x y))), .int u]) (st := []) dX7_difference__51 (c_X7_told_ g E29 (md_val (n + 1) (md_P (D.1 64) n r) (md_S1 (D.1 64) n r) (sr_l (sr_dform x y))) (md_by (n + 1) (md_P (D.1 64) n r) (sr_l (sr_dform x y))) u ((hbnd x y hx hy).1) (sr_gpos (hgood _)) (sr_gne (hgood _))) ca_X7_196 ⟨nm_X7_told_, by decide, by decide⟩ rfl rfl (Nat.le_of_ble_eq_true rfl) (fun r46 E47 q48 => ?_)
            obtain ⟨rfl, rfl⟩ := q48
            show WP g _ _ _ (.long (sr_told (md_val (n + 1) (md_P (D.1 64) n r) (md_S1 (D.1 64) n r) (sr_l (sr_dform x y))) (md_by (n + 1) (md_P (D.1 64) n r) (sr_l (sr_dform x y))) u) :: _) _ _
            refine wp_goto (tgt := 60) dX7_difference__54 (by decide) ?_
            refine wp_lret dX7_difference__60 rfl ⟨?_, ((((sr_per.rf).tr p2).tr p14).tr p22).tr p31⟩
            unfold md_dans
            rw [if_pos ⟨hi, hj⟩, nI_clamp (by omega), nI_clamp (by omega)]
            unfold md_ans
            rw [if_pos hk]; rfl
        · exact absurd hj (by unfold sr_row; rw [c10]; decide)
    · refine wp_aload_n dX7_difference__0 rfl rfl ?_
      refine wp_iconst (v := nI 0) dX7_difference__1 rfl ?_
      refine wp_putI dX7_difference__2 fl_X7_43 (by decide) rfl rfl ?_
      refine wp_D (fun D49 eD49 => ?_)
      have p50 : sr_per D D49 := by rw [eD49]; exact sr_per_th
      refine wp_aload_n dX7_difference__5 rfl rfl ?_
      refine wp_iload_n dX7_difference__6 rfl rfl ?_
      refine wp_callV (M2 := M_X7_isRower) (n := 1) (As := [.int (nI x)]) (st := []) dX7_difference__7 (c_X7_isRower g D49 (nI x)) ca_X7_113 ⟨nm_X7_isRower, by decide, by decide⟩ rfl (by decide) rfl rfl rfl (Nat.le_of_ble_eq_true rfl) (fun r51 E52 q53 => ?_)
      rw [congrFun (((sr_per.rf).tr p50).n64) 0, hn] at q53
      obtain ⟨rfl, rfl⟩ := q53
      show WP g _ _ _ (.int (sr_b (sr_isIn (nI x) (nI 0) (nI n - nI 1))) :: _) _ _
      refine wp_if_eq_b (tgt := 21) dX7_difference__10 (by decide) (fun c54 => ?_) (fun c54 => ?_)
      · exact absurd hi (by unfold sr_row; rw [c54]; decide)
      · refine wp_aload_n dX7_difference__13 rfl rfl ?_
        refine wp_iload_n dX7_difference__14 rfl rfl ?_
        refine wp_callV (M2 := M_X7_isRower) (n := 1) (As := [.int j]) (st := []) dX7_difference__15 (c_X7_isRower g D49 j) ca_X7_113 ⟨nm_X7_isRower, by decide, by decide⟩ rfl (by decide) rfl rfl rfl (Nat.le_of_ble_eq_true rfl) (fun r55 E56 q57 => ?_)
        rw [congrFun (((sr_per.rf).tr p50).n64) 0, hn] at q57
        obtain ⟨rfl, rfl⟩ := q57
        show WP g _ _ _ (.int (sr_b (sr_isIn j (nI 0) (nI n - nI 1))) :: _) _ _
        refine wp_if_ne_b (tgt := 25) dX7_difference__18 (by decide) (fun c58 => ?_) (fun c58 => ?_)
        · exact absurd c58 hj
        · refine wp_ldc2 (v := -1000000000000000000) dX7_difference__21 ct_X7_181 ?_
          refine wp_lret dX7_difference__24 rfl ⟨?_, (sr_per.rf).tr p50⟩
          unfold md_dans
          rw [if_neg (fun z => hj z.2)]
  · refine wp_aload_n dX7_difference__0 rfl rfl ?_
    refine wp_iconst (v := nI 0) dX7_difference__1 rfl ?_
    refine wp_putI dX7_difference__2 fl_X7_43 (by decide) rfl rfl ?_
    refine wp_D (fun D59 eD59 => ?_)
    have p60 : sr_per D D59 := by rw [eD59]; exact sr_per_th
    refine wp_aload_n dX7_difference__5 rfl rfl ?_
    refine wp_iload_n dX7_difference__6 rfl rfl ?_
    refine wp_callV (M2 := M_X7_isRower) (n := 1) (As := [.int i]) (st := []) dX7_difference__7 (c_X7_isRower g D59 i) ca_X7_113 ⟨nm_X7_isRower, by decide, by decide⟩ rfl (by decide) rfl rfl rfl (Nat.le_of_ble_eq_true rfl) (fun r61 E62 q63 => ?_)
    rw [congrFun (((sr_per.rf).tr p60).n64) 0, hn] at q63
    obtain ⟨rfl, rfl⟩ := q63
    show WP g _ _ _ (.int (sr_b (sr_isIn i (nI 0) (nI n - nI 1))) :: _) _ _
    refine wp_if_eq_b (tgt := 21) dX7_difference__10 (by decide) (fun c64 => ?_) (fun c64 => ?_)
    · refine wp_ldc2 (v := -1000000000000000000) dX7_difference__21 ct_X7_181 ?_
      refine wp_lret dX7_difference__24 rfl ⟨?_, (sr_per.rf).tr p60⟩
      unfold md_dans
      rw [if_neg (fun z => hi z.1)]
    · exact absurd c64 hi
set_option maxHeartbeats 4000000 in
set_option maxRecDepth 100000 in
theorem c_X7_doubt_ (g : sr_G) (D : sr_St) (n r : Nat) (hlo : sr_logOk (D.1 64) n r) (hgood : md_good (n + 1) (md_P (D.1 64) n r)) (i j u : Int32) (hbnd : ∀ x y, x < n → y < n → md_bnd n r (D.1 64) (sr_dform x y)) : Con g M_X7_doubt_ [.ref 63, .int i, .int j, .int u] D (fun a D' => a = some (.long (md_dans n r (D.1 64) i j true u)) ∧ sr_per D D') := by
  refine Con.of pn_X7_doubt_ (Nat.le_of_ble_eq_true rfl) ?_
  have hn := hlo.1.1
  have hn6 := hlo.1.2.1
  have hr := hlo.1.2.2.1
  have hr12 := hlo.1.2.2.2
  by_cases hi : sr_row n i = true
  · obtain ⟨x, hx, rfl⟩ := (sr_row_n hn6).mp hi
    by_cases hj : sr_row n j = true
    · obtain ⟨y, hy, rfl⟩ := (sr_row_n hn6).mp hj
      refine wp_aload_n dX7_doubt__0 rfl rfl ?_
      refine wp_iconst (v := nI 0) dX7_doubt__1 rfl ?_
      refine wp_putI dX7_doubt__2 fl_X7_43 (by decide) rfl rfl ?_
      refine wp_D (fun D65 eD65 => ?_)
      have p66 : sr_per D D65 := by rw [eD65]; exact sr_per_th
      refine wp_aload_n dX7_doubt__5 rfl rfl ?_
      refine wp_iload_n dX7_doubt__6 rfl rfl ?_
      refine wp_callV (M2 := M_X7_isRower) (n := 1) (As := [.int (nI x)]) (st := []) dX7_doubt__7 (c_X7_isRower g D65 (nI x)) ca_X7_113 ⟨nm_X7_isRower, by decide, by decide⟩ rfl (by decide) rfl rfl rfl (Nat.le_of_ble_eq_true rfl) (fun r67 E68 q69 => ?_)
      rw [congrFun (((sr_per.rf).tr p66).n64) 0, hn] at q69
      obtain ⟨rfl, rfl⟩ := q69
      show WP g _ _ _ (.int (sr_b (sr_isIn (nI x) (nI 0) (nI n - nI 1))) :: _) _ _
      refine wp_if_eq_b (tgt := 21) dX7_doubt__10 (by decide) (fun c70 => ?_) (fun c70 => ?_)
      · exact absurd hi (by unfold sr_row; rw [c70]; decide)
      · refine wp_aload_n dX7_doubt__13 rfl rfl ?_
        refine wp_iload_n dX7_doubt__14 rfl rfl ?_
        refine wp_callV (M2 := M_X7_isRower) (n := 1) (As := [.int (nI y)]) (st := []) dX7_doubt__15 (c_X7_isRower g D65 (nI y)) ca_X7_113 ⟨nm_X7_isRower, by decide, by decide⟩ rfl (by decide) rfl rfl rfl (Nat.le_of_ble_eq_true rfl) (fun r71 E72 q73 => ?_)
        rw [congrFun (((sr_per.rf).tr p66).n64) 0, hn] at q73
        obtain ⟨rfl, rfl⟩ := q73
        show WP g _ _ _ (.int (sr_b (sr_isIn (nI y) (nI 0) (nI n - nI 1))) :: _) _ _
        refine wp_if_ne_b (tgt := 25) dX7_doubt__18 (by decide) (fun c74 => ?_) (fun c74 => ?_)
        · refine wp_aload_n dX7_doubt__25 rfl rfl ?_
          refine wp_callV (M2 := M_X7_lays) (n := 0) (As := []) (st := []) dX7_doubt__26 (c_X7_lays g D65 n r (by rw [((sr_per.rf).tr p66).n64]; exact hlo)) ca_X7_183 ⟨nm_X7_lays, by decide, by decide⟩ rfl (by decide) rfl rfl rfl (Nat.le_of_ble_eq_true rfl) (fun r75 E76 q77 => ?_)
          rw [((sr_per.rf).tr p66).n64] at q77
          obtain ⟨rfl, p78, la79, h6580, h6381, g6382⟩ := q77
          show WP g _ _ _ _ _ _
          refine wp_aload_n dX7_doubt__29 rfl rfl ?_
          refine wp_iload_n dX7_doubt__30 rfl rfl ?_
          refine wp_iload_n dX7_doubt__31 rfl rfl ?_
          refine wp_callV (M2 := M_X7_difference) (n := 2) (As := [.int (nI x), .int (nI y)]) (st := []) dX7_doubt__32 (c_diff g E76 x y (by omega) (by omega)) ca_X7_186 ⟨nm_X7_difference, by decide, by decide⟩ rfl (by decide) rfl rfl rfl (Nat.le_of_ble_eq_true rfl) (fun r83 E84 q85 => ?_)
          obtain ⟨rfl, p86, l87, f88, g89, o90⟩ := q85
          show WP g _ _ _ _ _ _
          have la91 := l87 _ _ _ la79
          refine wp_aload_n dX7_doubt__35 rfl rfl ?_
          refine wp_callV (M2 := M_X7_isKnown) (n := 0) (As := []) (st := []) dX7_doubt__36 (c_kn g E84 (n + 1) (md_P (D.1 64) n r) (md_S1 (D.1 64) n r) (sr_dform x y) (by omega) la91 f88 hgood) ca_X7_189 ⟨nm_X7_isKnown, by decide, by decide⟩ rfl (by decide) rfl rfl rfl (Nat.le_of_ble_eq_true rfl) (fun r92 E93 q94 => ?_)
          obtain ⟨rfl, aft104⟩ := q94
          obtain ⟨p95, la96, f97, x98, y99, z100, rk101, by102, sv103⟩ := id aft104
          have hf105 : ∀ k, k < 7 → E93.1 67 k = (sr_dform x y) k := fun k hk => by rw [f97]; exact f88 k hk
          show WP g _ _ _ (.int (sr_b (md_kn (n + 1) (md_P (D.1 64) n r) (sr_l (sr_dform x y)))) :: _) _ _
          refine wp_if_eq_b (tgt := 57) dX7_doubt__39 (by decide) (fun c106 => ?_) (fun c106 => ?_)
          · have hk := c106
            refine wp_ldc2 (v := -1000000000000000000) dX7_doubt__57 ct_X7_181 ?_
            refine wp_lret dX7_doubt__60 rfl ⟨?_, ((((sr_per.rf).tr p66).tr p78).tr p86).tr p95⟩
            unfold md_dans
            rw [if_pos ⟨hi, hj⟩, nI_clamp (by omega), nI_clamp (by omega)]
            unfold md_ans
            rw [if_neg (by rw [hk]; decide)]
          · have hk := c106
            refine wp_aload_n dX7_doubt__42 rfl rfl ?_
            refine wp_callV (M2 := M_X7_doubt) (n := 0) (As := []) (st := []) dX7_doubt__43 (c_dou g E93 (n + 1) (md_P (D.1 64) n r) (md_S1 (D.1 64) n r) (sr_l (sr_dform x y)) (by omega) la96 sv103 (fun k hk => by rw [hf105 k hk]; rfl)) ca_X7_199 ⟨nm_X7_doubt, by decide, by decide⟩ rfl (by decide) rfl rfl rfl (Nat.le_of_ble_eq_true rfl) (fun r107 E108 q109 => ?_)
            obtain ⟨rfl, rfl⟩ := q109
            show WP g _ _ _ (.long (md_dou (n + 1) (md_P (D.1 64) n r) (sr_l (sr_dform x y))) :: _) _ _
            refine wp_aload_n dX7_doubt__46 rfl rfl ?_
            refine wp_getJ dX7_doubt__47 fl_X7_159 (by decide) rfl rfl ?_
            rw [by102]
            refine wp_iload_n dX7_doubt__50 rfl rfl ?_
            refine wp_callS (M2 := M_X7_told_) (n := 3) (As := [.long (md_dou (n + 1) (md_P (D.1 64) n r) (sr_l (sr_dform x y))), .long (md_by (n + 1) (md_P (D.1 64) n r) (sr_l (sr_dform x y))), .int u]) (st := []) dX7_doubt__51 (c_X7_told_ g E93 (md_dou (n + 1) (md_P (D.1 64) n r) (sr_l (sr_dform x y))) (md_by (n + 1) (md_P (D.1 64) n r) (sr_l (sr_dform x y))) u ((hbnd x y hx hy).2) (sr_gpos (hgood _)) (sr_gne (hgood _))) ca_X7_196 ⟨nm_X7_told_, by decide, by decide⟩ rfl rfl (Nat.le_of_ble_eq_true rfl) (fun r110 E111 q112 => ?_)
            obtain ⟨rfl, rfl⟩ := q112
            show WP g _ _ _ (.long (sr_told (md_dou (n + 1) (md_P (D.1 64) n r) (sr_l (sr_dform x y))) (md_by (n + 1) (md_P (D.1 64) n r) (sr_l (sr_dform x y))) u) :: _) _ _
            refine wp_goto (tgt := 60) dX7_doubt__54 (by decide) ?_
            refine wp_lret dX7_doubt__60 rfl ⟨?_, ((((sr_per.rf).tr p66).tr p78).tr p86).tr p95⟩
            unfold md_dans
            rw [if_pos ⟨hi, hj⟩, nI_clamp (by omega), nI_clamp (by omega)]
            unfold md_ans
            rw [if_pos hk]; rfl
        · exact absurd hj (by unfold sr_row; rw [c74]; decide)
    · refine wp_aload_n dX7_doubt__0 rfl rfl ?_
      refine wp_iconst (v := nI 0) dX7_doubt__1 rfl ?_
      refine wp_putI dX7_doubt__2 fl_X7_43 (by decide) rfl rfl ?_
      refine wp_D (fun D113 eD113 => ?_)
      have p114 : sr_per D D113 := by rw [eD113]; exact sr_per_th
      refine wp_aload_n dX7_doubt__5 rfl rfl ?_
      refine wp_iload_n dX7_doubt__6 rfl rfl ?_
      refine wp_callV (M2 := M_X7_isRower) (n := 1) (As := [.int (nI x)]) (st := []) dX7_doubt__7 (c_X7_isRower g D113 (nI x)) ca_X7_113 ⟨nm_X7_isRower, by decide, by decide⟩ rfl (by decide) rfl rfl rfl (Nat.le_of_ble_eq_true rfl) (fun r115 E116 q117 => ?_)
      rw [congrFun (((sr_per.rf).tr p114).n64) 0, hn] at q117
      obtain ⟨rfl, rfl⟩ := q117
      show WP g _ _ _ (.int (sr_b (sr_isIn (nI x) (nI 0) (nI n - nI 1))) :: _) _ _
      refine wp_if_eq_b (tgt := 21) dX7_doubt__10 (by decide) (fun c118 => ?_) (fun c118 => ?_)
      · exact absurd hi (by unfold sr_row; rw [c118]; decide)
      · refine wp_aload_n dX7_doubt__13 rfl rfl ?_
        refine wp_iload_n dX7_doubt__14 rfl rfl ?_
        refine wp_callV (M2 := M_X7_isRower) (n := 1) (As := [.int j]) (st := []) dX7_doubt__15 (c_X7_isRower g D113 j) ca_X7_113 ⟨nm_X7_isRower, by decide, by decide⟩ rfl (by decide) rfl rfl rfl (Nat.le_of_ble_eq_true rfl) (fun r119 E120 q121 => ?_)
        rw [congrFun (((sr_per.rf).tr p114).n64) 0, hn] at q121
        obtain ⟨rfl, rfl⟩ := q121
        show WP g _ _ _ (.int (sr_b (sr_isIn j (nI 0) (nI n - nI 1))) :: _) _ _
        refine wp_if_ne_b (tgt := 25) dX7_doubt__18 (by decide) (fun c122 => ?_) (fun c122 => ?_)
        · exact absurd c122 hj
        · refine wp_ldc2 (v := -1000000000000000000) dX7_doubt__21 ct_X7_181 ?_
          refine wp_lret dX7_doubt__24 rfl ⟨?_, (sr_per.rf).tr p114⟩
          unfold md_dans
          rw [if_neg (fun z => hj z.2)]
  · refine wp_aload_n dX7_doubt__0 rfl rfl ?_
    refine wp_iconst (v := nI 0) dX7_doubt__1 rfl ?_
    refine wp_putI dX7_doubt__2 fl_X7_43 (by decide) rfl rfl ?_
    refine wp_D (fun D123 eD123 => ?_)
    have p124 : sr_per D D123 := by rw [eD123]; exact sr_per_th
    refine wp_aload_n dX7_doubt__5 rfl rfl ?_
    refine wp_iload_n dX7_doubt__6 rfl rfl ?_
    refine wp_callV (M2 := M_X7_isRower) (n := 1) (As := [.int i]) (st := []) dX7_doubt__7 (c_X7_isRower g D123 i) ca_X7_113 ⟨nm_X7_isRower, by decide, by decide⟩ rfl (by decide) rfl rfl rfl (Nat.le_of_ble_eq_true rfl) (fun r125 E126 q127 => ?_)
    rw [congrFun (((sr_per.rf).tr p124).n64) 0, hn] at q127
    obtain ⟨rfl, rfl⟩ := q127
    show WP g _ _ _ (.int (sr_b (sr_isIn i (nI 0) (nI n - nI 1))) :: _) _ _
    refine wp_if_eq_b (tgt := 21) dX7_doubt__10 (by decide) (fun c128 => ?_) (fun c128 => ?_)
    · refine wp_ldc2 (v := -1000000000000000000) dX7_doubt__21 ct_X7_181 ?_
      refine wp_lret dX7_doubt__24 rfl ⟨?_, (sr_per.rf).tr p124⟩
      unfold md_dans
      rw [if_neg (fun z => hi z.1)]
    · exact absurd c128 hi
