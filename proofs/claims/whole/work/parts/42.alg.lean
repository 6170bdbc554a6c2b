/-- swaps of i and j: how many, and what they tell together, twice -/
def sr_swIn (now : Nat → Int32) (i j q : Nat) : Nat → Nat × Int64 → Nat × Int64
  | 0, a => a
  | t + 1, a => if ¬ q = t ∧ sr_swp now q t i j = true then ((sr_swIn now i j q t a).1 + 1, (sr_swIn now i j q t a).2 + (now (3 + 4 * q + 2) - now (3 + 4 * t + 2)).toInt64) else sr_swIn now i j q t a
def sr_swOut (now : Nat → Int32) (r i j : Nat) : Nat → Nat × Int64
  | 0 => (0, 0)
  | q + 1 => sr_swIn now i j q r (sr_swOut now r i j q)
theorem sr_swIn_le {now : Nat → Int32} {i j q : Nat} {a : Nat × Int64} : ∀ t, (sr_swIn now i j q t a).1 ≤ a.1 + t
  | 0 => Nat.le_refl _
  | t + 1 => by
    have := sr_swIn_le (now := now) (i := i) (j := j) (q := q) (a := a) t
    unfold sr_swIn
    split
    · show _ + 1 ≤ _; omega
    · omega
theorem sr_swOut_le {now : Nat → Int32} {r i j : Nat} : ∀ q, (sr_swOut now r i j q).1 ≤ q * r
  | 0 => Nat.zero_le _
  | q + 1 => by
    have h1 := sr_swOut_le (now := now) (r := r) (i := i) (j := j) q
    have h2 := sr_swIn_le (now := now) (i := i) (j := j) (q := q) (a := sr_swOut now r i j q) r
    show (sr_swIn now i j q r (sr_swOut now r i j q)).1 ≤ _
    rw [Nat.add_mul, Nat.one_mul]; omega
theorem sr_2m {m : Nat} (h : m < 1000) : (2 : Int64) * (nI m).toInt64 = lN (2 * m) := by rw [nI_l (by omega), show (2 : Int64) = lN 2 from rfl, lN_mul]
theorem sr_lpos {m : Nat} (h : m < 2 ^ 63) : -(2 ^ 63 : Int) < (lN m).toInt := by rw [pk_lT h]; omega
def md_swa (now : Nat → Int32) (r i j k : Nat) : Int64 := if k = 0 then (nI (sr_swOut now r i j r).1).toInt64 else if (sr_swOut now r i j r).1 = 0 then sr_NN else sr_told (sr_swOut now r i j r).2 (2 * (nI (sr_swOut now r i j r).1).toInt64) (if k = 2 then nI 1 else nI 0)
set_option maxHeartbeats 4000000 in
set_option maxRecDepth 100000 in
theorem c_X7_swaps_ (g : sr_G) (D : sr_St) (n r : Nat) (hlo : sr_logOk (D.1 64) n r) (v w k : Int32) (hbnd : ∀ x y, x < n → y < n → -(2 ^ 63 : Int) < (sr_swOut (D.1 64) r x y r).2.toInt) : Con g M_X7_swaps_ [.ref 63, .int v, .int w, .int k] D (fun qa D' => qa = some (.long (if (sr_row n v && sr_row n w && !decide (v = w) && sr_isIn k (nI 0) (nI 2)) = true then md_swa (D.1 64) r v.toNatClampNeg w.toNatClampNeg k.toNatClampNeg else sr_NN)) ∧ sr_per D D') := by
  refine Con.of pn_X7_swaps_ (Nat.le_of_ble_eq_true rfl) ?_
  have hn := hlo.1.1
  have hn6 := hlo.1.2.1
  have hr := hlo.1.2.2.1
  have hr12 := hlo.1.2.2.2
  by_cases hok : (sr_row n v && sr_row n w && !decide (v = w) && sr_isIn k (nI 0) (nI 2)) = true
  · obtain ⟨h123, h4⟩ := Bool.and_eq_true_iff.mp hok
    obtain ⟨h12, h3⟩ := Bool.and_eq_true_iff.mp h123
    obtain ⟨h1, h2⟩ := Bool.and_eq_true_iff.mp h12
    obtain ⟨x, hx, rfl⟩ := (sr_row_n hn6).mp h1
    obtain ⟨y, hy, rfl⟩ := (sr_row_n hn6).mp h2
    obtain ⟨z, hz, rfl⟩ := (sr_in_n (n := 3) (by decide)).mp h4
    have hxy : ¬ x = y := fun z => by rw [z] at h3; simp at h3
    have hL : ∀ E : sr_St, sr_per D E → ∀ q, q ≤ r → WP g M_X7_swaps_ 48 [(0, .ref 63), (1, .int (nI x)), (2, .int (nI y)), (3, .int (nI z)), (4, .int (nI (sr_swOut (D.1 64) r x y q).1)), (5, .long (sr_swOut (D.1 64) r x y q).2), (7, .int (nI q))] [] E (fun qa D' => qa = some (.long (if (sr_row n (nI x) && sr_row n (nI y) && !decide (nI x = nI y) && sr_isIn (nI z) (nI 0) (nI 2)) = true then md_swa (D.1 64) r (nI x).toNatClampNeg (nI y).toNatClampNeg (nI z).toNatClampNeg else sr_NN)) ∧ sr_per D D') := by
      intro E hper
      refine sr_up (fun q hq ih => ?_)
      have h122 : q < r → WP g M_X7_swaps_ 122 [(0, .ref 63), (1, .int (nI x)), (2, .int (nI y)), (3, .int (nI z)), (4, .int (nI (sr_swOut (D.1 64) r x y (q + 1)).1)), (5, .long (sr_swOut (D.1 64) r x y (q + 1)).2), (7, .int (nI q))] [] E (fun qa D' => qa = some (.long (if (sr_row n (nI x) && sr_row n (nI y) && !decide (nI x = nI y) && sr_isIn (nI z) (nI 0) (nI 2)) = true then md_swa (D.1 64) r (nI x).toNatClampNeg (nI y).toNatClampNeg (nI z).toNatClampNeg else sr_NN)) ∧ sr_per D D') := by
        intro hqr
        refine wp_iinc_n (b := 1) (lv' := [(0, .ref 63), (1, .int (nI x)), (2, .int (nI y)), (3, .int (nI z)), (4, .int (nI ((sr_swOut (D.1 64) r x y (q + 1)).1))), (5, .long ((sr_swOut (D.1 64) r x y (q + 1)).2)), (7, .int (nI (q + 1)))]) dX7_swaps__122 rfl rfl (by decide) rfl ?_
        refine wp_goto (tgt := 48) dX7_swaps__125 (by decide) ?_
        exact ih (by omega)
      have hI : q < r → ∀ t, t ≤ r → WP g M_X7_swaps_ 60 [(0, .ref 63), (1, .int (nI x)), (2, .int (nI y)), (3, .int (nI z)), (4, .int (nI (sr_swIn (D.1 64) x y q t (sr_swOut (D.1 64) r x y q)).1)), (5, .long (sr_swIn (D.1 64) x y q t (sr_swOut (D.1 64) r x y q)).2), (7, .int (nI q)), (8, .int (nI t))] [] E (fun qa D' => qa = some (.long (if (sr_row n (nI x) && sr_row n (nI y) && !decide (nI x = nI y) && sr_isIn (nI z) (nI 0) (nI 2)) = true then md_swa (D.1 64) r (nI x).toNatClampNeg (nI y).toNatClampNeg (nI z).toNatClampNeg else sr_NN)) ∧ sr_per D D') := by
        intro hqr
        refine sr_up (fun t ht ihn => ?_)
        refine wp_iload dX7_swaps__60 rfl ?_
        refine wp_aload_n dX7_swaps__62 rfl rfl ?_
        refine wp_callV (M2 := M_X7_races) (n := 0) (As := []) (st := [.int (nI t)]) dX7_swaps__63 (c_X7_races_n g E r (by rw [(hper).n64]; exact hr)) ca_X7_58 ⟨nm_X7_races, by decide, by decide⟩ rfl (by decide) rfl rfl rfl (Nat.le_of_ble_eq_true rfl) (fun r690 E691 q692 => ?_)
        obtain ⟨rfl, rfl⟩ := q692
        show WP g _ _ _ (.int (nI r) :: _) _ _
        refine wp_icmp_ge_n (tgt := 122) dX7_swaps__66 (by decide) (by first | omega | (split <;> omega)) (by first | omega | (split <;> omega)) (fun c693 => ?_) (fun c693 => ?_)
        · have htr : t = r := by omega
          subst htr
          exact wp_pick [0, 1, 2, 3, 4, 5, 6] rfl (h122 hqr)
        · refine wp_iload dX7_swaps__69 rfl ?_
          refine wp_iload dX7_swaps__71 rfl ?_
          refine wp_icmp_eq_n (tgt := 116) dX7_swaps__73 (by decide) (by first | omega | (split <;> omega)) (by first | omega | (split <;> omega)) (fun c694 => ?_) (fun c694 => ?_)
          · have hqt := c694
            refine wp_iinc_n (b := 1) (lv' := [(0, .ref 63), (1, .int (nI x)), (2, .int (nI y)), (3, .int (nI z)), (4, .int (nI ((sr_swIn (D.1 64) x y q t (sr_swOut (D.1 64) r x y q)).1))), (5, .long ((sr_swIn (D.1 64) x y q t (sr_swOut (D.1 64) r x y q)).2)), (7, .int (nI q)), (8, .int (nI (t + 1)))]) dX7_swaps__116 rfl rfl (by decide) rfl ?_
            refine wp_goto (tgt := 60) dX7_swaps__119 (by decide) ?_
            have h := ihn (by omega)
            rw [show sr_swIn (D.1 64) x y q (t + 1) (sr_swOut (D.1 64) r x y q) = (if ¬ q = t ∧ sr_swp (D.1 64) q t x y = true then ((sr_swIn (D.1 64) x y q t (sr_swOut (D.1 64) r x y q)).1 + 1, (sr_swIn (D.1 64) x y q t (sr_swOut (D.1 64) r x y q)).2 + (D.1 64 (3 + 4 * q + 2) - D.1 64 (3 + 4 * t + 2)).toInt64) else sr_swIn (D.1 64) x y q t (sr_swOut (D.1 64) r x y q)) from rfl] at h
            rw [if_neg (by first | exact fun z => z.1 hqt | (rw [hsw]; simp))] at h
            exact h
          · have hqt := c694
            refine wp_aload_n dX7_swaps__76 rfl rfl ?_
            refine wp_iload dX7_swaps__77 rfl ?_
            refine wp_iload dX7_swaps__79 rfl ?_
            refine wp_iload_n dX7_swaps__81 rfl rfl ?_
            refine wp_iload_n dX7_swaps__82 rfl rfl ?_
            refine wp_callV (M2 := M_X7_isSwap) (n := 4) (As := [.int (nI q), .int (nI t), .int (nI x), .int (nI y)]) (st := []) dX7_swaps__83 (c_X7_isSwap g E n r (by rw [(hper).n64]; exact hlo) q t x y (by omega) (by omega) hx hy) ca_X7_230 ⟨nm_X7_isSwap, by decide, by decide⟩ rfl (by decide) rfl rfl rfl (Nat.le_of_ble_eq_true rfl) (fun r695 E696 q697 => ?_)
            rw [(hper).n64] at q697
            obtain ⟨rfl, rfl⟩ := q697
            show WP g _ _ _ (.int (sr_b (sr_swp (D.1 64) q t x y)) :: _) _ _
            refine wp_if_ne_b (tgt := 92) dX7_swaps__86 (by decide) (fun c698 => ?_) (fun c698 => ?_)
            · have hsw := c698
              refine wp_iinc_n (b := 1) (lv' := [(0, .ref 63), (1, .int (nI x)), (2, .int (nI y)), (3, .int (nI z)), (4, .int (nI ((sr_swIn (D.1 64) x y q t (sr_swOut (D.1 64) r x y q)).1 + 1))), (5, .long ((sr_swIn (D.1 64) x y q t (sr_swOut (D.1 64) r x y q)).2)), (7, .int (nI q)), (8, .int (nI t))]) dX7_swaps__92 rfl rfl (by decide) rfl ?_
              refine wp_lload dX7_swaps__95 rfl ?_
              refine wp_aload_n dX7_swaps__97 rfl rfl ?_
              refine wp_iload dX7_swaps__98 rfl ?_
              refine wp_iconst (v := nI 2) dX7_swaps__100 rfl ?_
              refine wp_callV (M2 := M_X7_of) (n := 2) (As := [.int (nI q), .int (nI 2)]) (st := [.long ((sr_swIn (D.1 64) x y q t (sr_swOut (D.1 64) r x y q)).2)]) dX7_swaps__101 (c_X7_of g E q 2 (by omega) (by omega) (by omega)) ca_X7_73 ⟨nm_X7_of, by decide, by decide⟩ rfl (by decide) rfl rfl rfl (Nat.le_of_ble_eq_true rfl) (fun r699 E700 q701 => ?_)
              rw [(hper).n64] at q701
              obtain ⟨rfl, rfl⟩ := q701
              show WP g _ _ _ (.int (D.1 64 (3 + 4 * q + 2)) :: _) _ _
              refine wp_aload_n dX7_swaps__104 rfl rfl ?_
              refine wp_iload dX7_swaps__105 rfl ?_
              refine wp_iconst (v := nI 2) dX7_swaps__107 rfl ?_
              refine wp_callV (M2 := M_X7_of) (n := 2) (As := [.int (nI t), .int (nI 2)]) (st := [.int (D.1 64 (3 + 4 * q + 2)), .long ((sr_swIn (D.1 64) x y q t (sr_swOut (D.1 64) r x y q)).2)]) dX7_swaps__108 (c_X7_of g E t 2 (by omega) (by omega) (by omega)) ca_X7_73 ⟨nm_X7_of, by decide, by decide⟩ rfl (by decide) rfl rfl rfl (Nat.le_of_ble_eq_true rfl) (fun r702 E703 q704 => ?_)
              rw [(hper).n64] at q704
              obtain ⟨rfl, rfl⟩ := q704
              show WP g _ _ _ (.int (D.1 64 (3 + 4 * t + 2)) :: _) _ _
              refine wp_isub dX7_swaps__111 ?_
              refine wp_i2l dX7_swaps__112 ?_
              refine wp_ladd dX7_swaps__113 ?_
              refine wp_topl (fun x705 ex705 => ?_)
              refine wp_lstore (lv' := [(0, .ref 63), (1, .int (nI x)), (2, .int (nI y)), (3, .int (nI z)), (4, .int (nI ((sr_swIn (D.1 64) x y q t (sr_swOut (D.1 64) r x y q)).1 + 1))), (5, .long x705), (7, .int (nI q)), (8, .int (nI t))]) dX7_swaps__114 (by decide) rfl ?_
              refine wp_iinc_n (b := 1) (lv' := [(0, .ref 63), (1, .int (nI x)), (2, .int (nI y)), (3, .int (nI z)), (4, .int (nI ((sr_swIn (D.1 64) x y q t (sr_swOut (D.1 64) r x y q)).1 + 1))), (5, .long x705), (7, .int (nI q)), (8, .int (nI (t + 1)))]) dX7_swaps__116 rfl rfl (by decide) rfl ?_
              refine wp_goto (tgt := 60) dX7_swaps__119 (by decide) ?_
              have h := ihn (by omega)
              rw [show sr_swIn (D.1 64) x y q (t + 1) (sr_swOut (D.1 64) r x y q) = (if ¬ q = t ∧ sr_swp (D.1 64) q t x y = true then ((sr_swIn (D.1 64) x y q t (sr_swOut (D.1 64) r x y q)).1 + 1, (sr_swIn (D.1 64) x y q t (sr_swOut (D.1 64) r x y q)).2 + (D.1 64 (3 + 4 * q + 2) - D.1 64 (3 + 4 * t + 2)).toInt64) else sr_swIn (D.1 64) x y q t (sr_swOut (D.1 64) r x y q)) from rfl] at h
              rw [if_pos ⟨hqt, hsw⟩] at h
              subst ex705
              exact h
            · have hsw := c698
              refine wp_goto (tgt := 116) dX7_swaps__89 (by decide) ?_
              refine wp_iinc_n (b := 1) (lv' := [(0, .ref 63), (1, .int (nI x)), (2, .int (nI y)), (3, .int (nI z)), (4, .int (nI ((sr_swIn (D.1 64) x y q t (sr_swOut (D.1 64) r x y q)).1))), (5, .long ((sr_swIn (D.1 64) x y q t (sr_swOut (D.1 64) r x y q)).2)), (7, .int (nI q)), (8, .int (nI (t + 1)))]) dX7_swaps__116 rfl rfl (by decide) rfl ?_
              refine wp_goto (tgt := 60) dX7_swaps__119 (by decide) ?_
              have h := ihn (by omega)
              rw [show sr_swIn (D.1 64) x y q (t + 1) (sr_swOut (D.1 64) r x y q) = (if ¬ q = t ∧ sr_swp (D.1 64) q t x y = true then ((sr_swIn (D.1 64) x y q t (sr_swOut (D.1 64) r x y q)).1 + 1, (sr_swIn (D.1 64) x y q t (sr_swOut (D.1 64) r x y q)).2 + (D.1 64 (3 + 4 * q + 2) - D.1 64 (3 + 4 * t + 2)).toInt64) else sr_swIn (D.1 64) x y q t (sr_swOut (D.1 64) r x y q)) from rfl] at h
              rw [if_neg (by first | exact fun z => z.1 hqt | (rw [hsw]; simp))] at h
              exact h
      refine wp_iload dX7_swaps__48 rfl ?_
      refine wp_aload_n dX7_swaps__50 rfl rfl ?_
      refine wp_callV (M2 := M_X7_races) (n := 0) (As := []) (st := [.int (nI q)]) dX7_swaps__51 (c_X7_races_n g E r (by rw [(hper).n64]; exact hr)) ca_X7_58 ⟨nm_X7_races, by decide, by decide⟩ rfl (by decide) rfl rfl rfl (Nat.le_of_ble_eq_true rfl) (fun r706 E707 q708 => ?_)
      obtain ⟨rfl, rfl⟩ := q708
      show WP g _ _ _ (.int (nI r) :: _) _ _
      refine wp_icmp_ge_n (tgt := 128) dX7_swaps__54 (by decide) (by first | omega | (split <;> omega)) (by first | omega | (split <;> omega)) (fun c709 => ?_) (fun c709 => ?_)
      · have hle := sr_swOut_le (now := D.1 64) (r := r) (i := x) (j := y) q
        have hmul := Nat.mul_le_mul (show q ≤ 12 by omega) hr12
        refine wp_iload_n dX7_swaps__128 rfl rfl ?_
        refine wp_if_ne_n (tgt := 136) dX7_swaps__129 (by decide) (by first | omega | (split <;> omega)) (fun c710 => ?_) (fun c710 => ?_)
        · have hz0 := c710
          refine wp_iload dX7_swaps__136 rfl ?_
          refine wp_if_ne_n (tgt := 147) dX7_swaps__138 (by decide) (by first | omega | (split <;> omega)) (fun c711 => ?_) (fun c711 => ?_)
          · have hm0 := c711
            refine wp_lload dX7_swaps__147 rfl ?_
            refine wp_ldc2 (v := 2) dX7_swaps__149 ct_X7_234 ?_
            refine wp_iload dX7_swaps__152 rfl ?_
            refine wp_i2l dX7_swaps__154 ?_
            refine wp_lmul dX7_swaps__155 ?_
            refine wp_iload_n dX7_swaps__156 rfl rfl ?_
            refine wp_iconst (v := nI 2) dX7_swaps__157 rfl ?_
            refine wp_icmp_ne_n (tgt := 165) dX7_swaps__158 (by decide) (by first | omega | (split <;> omega)) (by first | omega | (split <;> omega)) (fun c712 => ?_) (fun c712 => ?_)
            · have hz2 := c712
              refine wp_iconst (v := nI 0) dX7_swaps__165 rfl ?_
              refine wp_callS (M2 := M_X7_told_) (n := 3) (As := [.long ((sr_swOut (D.1 64) r x y q).2), .long (2 * ((nI ((sr_swOut (D.1 64) r x y q).1)).toInt64)), .int (nI 0)]) (st := []) dX7_swaps__166 (c_X7_told_ g E ((sr_swOut (D.1 64) r x y q).2) (2 * ((nI ((sr_swOut (D.1 64) r x y q).1)).toInt64)) (nI 0) (by rw [show q = r by omega]; exact hbnd x y hx hy) (by rw [sr_2m (by omega)]; exact sr_lpos (by omega)) (by rw [sr_2m (by omega)]; exact fun zz => by rw [sr_lz (by omega)] at zz; omega)) ca_X7_196 ⟨nm_X7_told_, by decide, by decide⟩ rfl rfl (Nat.le_of_ble_eq_true rfl) (fun r713 E714 q715 => ?_)
              obtain ⟨rfl, rfl⟩ := q715
              show WP g _ _ _ (.long (sr_told ((sr_swOut (D.1 64) r x y q).2) (2 * ((nI ((sr_swOut (D.1 64) r x y q).1)).toInt64)) (nI 0)) :: _) _ _
              have hqr : q = r := by omega
              subst hqr
              refine wp_lret dX7_swaps__169 rfl ⟨?_, hper⟩
              rw [if_pos hok, nI_clamp (by omega), nI_clamp (by omega), nI_clamp (by omega)]
              unfold md_swa
              rw [if_neg hz0, if_neg hm0]
              rw [if_neg hz2]
            · have hz2 := c712
              refine wp_iconst (v := nI 1) dX7_swaps__161 rfl ?_
              refine wp_goto (tgt := 166) dX7_swaps__162 (by decide) ?_
              refine wp_callS (M2 := M_X7_told_) (n := 3) (As := [.long ((sr_swOut (D.1 64) r x y q).2), .long (2 * ((nI ((sr_swOut (D.1 64) r x y q).1)).toInt64)), .int (nI 1)]) (st := []) dX7_swaps__166 (c_X7_told_ g E ((sr_swOut (D.1 64) r x y q).2) (2 * ((nI ((sr_swOut (D.1 64) r x y q).1)).toInt64)) (nI 1) (by rw [show q = r by omega]; exact hbnd x y hx hy) (by rw [sr_2m (by omega)]; exact sr_lpos (by omega)) (by rw [sr_2m (by omega)]; exact fun zz => by rw [sr_lz (by omega)] at zz; omega)) ca_X7_196 ⟨nm_X7_told_, by decide, by decide⟩ rfl rfl (Nat.le_of_ble_eq_true rfl) (fun r716 E717 q718 => ?_)
              obtain ⟨rfl, rfl⟩ := q718
              show WP g _ _ _ (.long (sr_told ((sr_swOut (D.1 64) r x y q).2) (2 * ((nI ((sr_swOut (D.1 64) r x y q).1)).toInt64)) (nI 1)) :: _) _ _
              have hqr : q = r := by omega
              subst hqr
              refine wp_lret dX7_swaps__169 rfl ⟨?_, hper⟩
              rw [if_pos hok, nI_clamp (by omega), nI_clamp (by omega), nI_clamp (by omega)]
              unfold md_swa
              rw [if_neg hz0, if_neg hm0]
              rw [if_pos hz2]
          · have hm0 := c711
            refine wp_ldc2 (v := -1000000000000000000) dX7_swaps__141 ct_X7_181 ?_
            refine wp_goto (tgt := 169) dX7_swaps__144 (by decide) ?_
            have hqr : q = r := by omega
            subst hqr
            refine wp_lret dX7_swaps__169 rfl ⟨?_, hper⟩
            rw [if_pos hok, nI_clamp (by omega), nI_clamp (by omega), nI_clamp (by omega)]
            unfold md_swa
            rw [if_neg hz0, if_pos hm0]
        · have hz0 := c710
          refine wp_iload dX7_swaps__132 rfl ?_
          refine wp_i2l dX7_swaps__134 ?_
          have hqr : q = r := by omega
          subst hqr
          refine wp_lret dX7_swaps__135 rfl ⟨?_, hper⟩
          rw [if_pos hok, nI_clamp (by omega), nI_clamp (by omega), nI_clamp (by omega)]
          unfold md_swa
          rw [if_pos hz0]
      · refine wp_iconst (v := nI 0) dX7_swaps__57 rfl ?_
        refine wp_istore (lv' := [(0, .ref 63), (1, .int (nI x)), (2, .int (nI y)), (3, .int (nI z)), (4, .int (nI ((sr_swOut (D.1 64) r x y q).1))), (5, .long ((sr_swOut (D.1 64) r x y q).2)), (7, .int (nI q)), (8, .int (nI 0))]) dX7_swaps__58 (by decide) rfl ?_
        exact hI (by omega) 0 (by omega)
    refine wp_aload_n dX7_swaps__0 rfl rfl ?_
    refine wp_iconst (v := nI 0) dX7_swaps__1 rfl ?_
    refine wp_putI dX7_swaps__2 fl_X7_43 (by decide) rfl rfl ?_
    refine wp_D (fun D719 eD719 => ?_)
    have p720 : sr_per D D719 := by rw [eD719]; exact sr_per_th
    refine wp_aload_n dX7_swaps__5 rfl rfl ?_
    refine wp_iload_n dX7_swaps__6 rfl rfl ?_
    refine wp_callV (M2 := M_X7_isRower) (n := 1) (As := [.int (nI x)]) (st := []) dX7_swaps__7 (c_X7_isRower g D719 (nI x)) ca_X7_113 ⟨nm_X7_isRower, by decide, by decide⟩ rfl (by decide) rfl rfl rfl (Nat.le_of_ble_eq_true rfl) (fun r721 E722 q723 => ?_)
    rw [congrFun (((sr_per.rf).tr p720).n64) 0, hn] at q723
    obtain ⟨rfl, rfl⟩ := q723
    show WP g _ _ _ (.int (sr_b (sr_isIn (nI x) (nI 0) (nI n - nI 1))) :: _) _ _
    refine wp_if_eq_b (tgt := 35) dX7_swaps__10 (by decide) (fun c724 => ?_) (fun c724 => ?_)
    · exact absurd h1 (by unfold sr_row; rw [c724]; decide)
    · refine wp_aload_n dX7_swaps__13 rfl rfl ?_
      refine wp_iload_n dX7_swaps__14 rfl rfl ?_
      refine wp_callV (M2 := M_X7_isRower) (n := 1) (As := [.int (nI y)]) (st := []) dX7_swaps__15 (c_X7_isRower g D719 (nI y)) ca_X7_113 ⟨nm_X7_isRower, by decide, by decide⟩ rfl (by decide) rfl rfl rfl (Nat.le_of_ble_eq_true rfl) (fun r725 E726 q727 => ?_)
      rw [congrFun (((sr_per.rf).tr p720).n64) 0, hn] at q727
      obtain ⟨rfl, rfl⟩ := q727
      show WP g _ _ _ (.int (sr_b (sr_isIn (nI y) (nI 0) (nI n - nI 1))) :: _) _ _
      refine wp_if_eq_b (tgt := 35) dX7_swaps__18 (by decide) (fun c728 => ?_) (fun c728 => ?_)
      · exact absurd h2 (by unfold sr_row; rw [c728]; decide)
      · refine wp_iload_n dX7_swaps__21 rfl rfl ?_
        refine wp_iload_n dX7_swaps__22 rfl rfl ?_
        refine wp_icmp_eq_n (tgt := 35) dX7_swaps__23 (by decide) (by first | omega | (split <;> omega)) (by first | omega | (split <;> omega)) (fun c729 => ?_) (fun c729 => ?_)
        · exact absurd c729 hxy
        · refine wp_iload_n dX7_swaps__26 rfl rfl ?_
          refine wp_iconst (v := nI 0) dX7_swaps__27 rfl ?_
          refine wp_iconst (v := nI 2) dX7_swaps__28 rfl ?_
          refine wp_callS (M2 := M_X7_isIn) (n := 3) (As := [.int (nI z), .int (nI 0), .int (nI 2)]) (st := []) dX7_swaps__29 (c_X7_isIn g D719 (nI z) (nI 0) (nI 2)) ca_X7_50 ⟨nm_X7_isIn, by decide, by decide⟩ rfl rfl (Nat.le_of_ble_eq_true rfl) (fun r730 E731 q732 => ?_)
          obtain ⟨rfl, rfl⟩ := q732
          show WP g _ _ _ (.int (sr_b (sr_isIn (nI z) (nI 0) (nI 2))) :: _) _ _
          refine wp_if_ne_b (tgt := 39) dX7_swaps__32 (by decide) (fun c733 => ?_) (fun c733 => ?_)
          · refine wp_iconst (v := nI 0) dX7_swaps__39 rfl ?_
            refine wp_istore (lv' := [(0, .ref 63), (1, .int (nI x)), (2, .int (nI y)), (3, .int (nI z)), (4, .int (nI 0))]) dX7_swaps__40 (by decide) rfl ?_
            refine wp_lconst (v := 0) dX7_swaps__42 rfl ?_
            refine wp_lstore (lv' := [(0, .ref 63), (1, .int (nI x)), (2, .int (nI y)), (3, .int (nI z)), (4, .int (nI 0)), (5, .long 0)]) dX7_swaps__43 (by decide) rfl ?_
            refine wp_iconst (v := nI 0) dX7_swaps__45 rfl ?_
            refine wp_istore (lv' := [(0, .ref 63), (1, .int (nI x)), (2, .int (nI y)), (3, .int (nI z)), (4, .int (nI 0)), (5, .long 0), (7, .int (nI 0))]) dX7_swaps__46 (by decide) rfl ?_
            exact hL D719 ((sr_per.rf).tr p720) 0 (by omega)
          · exact absurd h4 (by rw [c733]; decide)
  · refine wp_aload_n dX7_swaps__0 rfl rfl ?_
    refine wp_iconst (v := nI 0) dX7_swaps__1 rfl ?_
    refine wp_putI dX7_swaps__2 fl_X7_43 (by decide) rfl rfl ?_
    refine wp_D (fun D734 eD734 => ?_)
    have p735 : sr_per D D734 := by rw [eD734]; exact sr_per_th
    refine wp_aload_n dX7_swaps__5 rfl rfl ?_
    refine wp_iload_n dX7_swaps__6 rfl rfl ?_
    refine wp_callV (M2 := M_X7_isRower) (n := 1) (As := [.int v]) (st := []) dX7_swaps__7 (c_X7_isRower g D734 v) ca_X7_113 ⟨nm_X7_isRower, by decide, by decide⟩ rfl (by decide) rfl rfl rfl (Nat.le_of_ble_eq_true rfl) (fun r736 E737 q738 => ?_)
    rw [congrFun (((sr_per.rf).tr p735).n64) 0, hn] at q738
    obtain ⟨rfl, rfl⟩ := q738
    show WP g _ _ _ (.int (sr_b (sr_isIn v (nI 0) (nI n - nI 1))) :: _) _ _
    refine wp_if_eq_b (tgt := 35) dX7_swaps__10 (by decide) (fun c739 => ?_) (fun c739 => ?_)
    · refine wp_ldc2 (v := -1000000000000000000) dX7_swaps__35 ct_X7_181 ?_
      refine wp_lret dX7_swaps__38 rfl ⟨?_, (sr_per.rf).tr p735⟩
      rw [if_neg hok]
    · have h1 := c739
      refine wp_aload_n dX7_swaps__13 rfl rfl ?_
      refine wp_iload_n dX7_swaps__14 rfl rfl ?_
      refine wp_callV (M2 := M_X7_isRower) (n := 1) (As := [.int w]) (st := []) dX7_swaps__15 (c_X7_isRower g D734 w) ca_X7_113 ⟨nm_X7_isRower, by decide, by decide⟩ rfl (by decide) rfl rfl rfl (Nat.le_of_ble_eq_true rfl) (fun r740 E741 q742 => ?_)
      rw [congrFun (((sr_per.rf).tr p735).n64) 0, hn] at q742
      obtain ⟨rfl, rfl⟩ := q742
      show WP g _ _ _ (.int (sr_b (sr_isIn w (nI 0) (nI n - nI 1))) :: _) _ _
      refine wp_if_eq_b (tgt := 35) dX7_swaps__18 (by decide) (fun c743 => ?_) (fun c743 => ?_)
      · refine wp_ldc2 (v := -1000000000000000000) dX7_swaps__35 ct_X7_181 ?_
        refine wp_lret dX7_swaps__38 rfl ⟨?_, (sr_per.rf).tr p735⟩
        rw [if_neg hok]
      · have h2 := c743
        refine wp_iload_n dX7_swaps__21 rfl rfl ?_
        refine wp_iload_n dX7_swaps__22 rfl rfl ?_
        refine wp_icmp_eq (tgt := 35) dX7_swaps__23 (by decide) (fun c744 => ?_) (fun c744 => ?_)
        · refine wp_ldc2 (v := -1000000000000000000) dX7_swaps__35 ct_X7_181 ?_
          refine wp_lret dX7_swaps__38 rfl ⟨?_, (sr_per.rf).tr p735⟩
          rw [if_neg hok]
        · have h3 := c744
          refine wp_iload_n dX7_swaps__26 rfl rfl ?_
          refine wp_iconst (v := nI 0) dX7_swaps__27 rfl ?_
          refine wp_iconst (v := nI 2) dX7_swaps__28 rfl ?_
          refine wp_callS (M2 := M_X7_isIn) (n := 3) (As := [.int k, .int (nI 0), .int (nI 2)]) (st := []) dX7_swaps__29 (c_X7_isIn g D734 k (nI 0) (nI 2)) ca_X7_50 ⟨nm_X7_isIn, by decide, by decide⟩ rfl rfl (Nat.le_of_ble_eq_true rfl) (fun r745 E746 q747 => ?_)
          obtain ⟨rfl, rfl⟩ := q747
          show WP g _ _ _ (.int (sr_b (sr_isIn k (nI 0) (nI 2))) :: _) _ _
          refine wp_if_ne_b (tgt := 39) dX7_swaps__32 (by decide) (fun c748 => ?_) (fun c748 => ?_)
          · exact absurd (by unfold sr_row; rw [h1, h2, c748]; simp [h3]) hok
          · refine wp_ldc2 (v := -1000000000000000000) dX7_swaps__35 ct_X7_181 ?_
            refine wp_lret dX7_swaps__38 rfl ⟨?_, (sr_per.rf).tr p735⟩
            rw [if_neg hok]
/-- a match of size k -/
def sr_mt (k a b : Nat) : Bool := decide (a &&& b = 0) && (decide (sr_bits a = k) && (decide (sr_bits b = k) && decide ((nI a &&& -nI a) < (nI b &&& -nI b))))
set_option maxHeartbeats 4000000 in
set_option maxRecDepth 100000 in
theorem c_X7_isMatch (g : sr_G) (D : sr_St) (a b k : Nat) (ha : a < 64) (hb : b < 64) (hk : k < 100)  : Con g M_X7_isMatch [.ref 63, .int (nI a), .int (nI b), .int (nI k)] D (sr_ret (some (.int (sr_b (sr_mt k a b)))) D) := by
  refine Con.of pn_X7_isMatch (Nat.le_of_ble_eq_true rfl) ?_
  show WP g M_X7_isMatch 0 [(0, .ref 63), (1, .int (nI a)), (2, .int (nI b)), (3, .int (nI k))] [] D _
  refine wp_iload_n dX7_isMatch_0 rfl rfl ?_
  refine wp_iload_n dX7_isMatch_1 rfl rfl ?_
  refine wp_iand_n dX7_isMatch_2 ?_
  refine wp_if_ne_n (tgt := 37) dX7_isMatch_3 (by decide) (Nat.lt_of_le_of_lt Nat.and_le_left (by omega)) (fun c749 => ?_) (fun c749 => ?_)
  · have h1 := c749
    refine wp_iconst (v := nI 0) dX7_isMatch_37 rfl ?_
    exact wp_zret dX7_isMatch_38 rfl (Or.inl rfl) ⟨sr_bf (by unfold sr_mt; first | (rw [decide_eq_false h1]; rfl) | (rw [decide_eq_false h2]; simp; done) | (rw [decide_eq_false h3]; simp; done) | (rw [decide_eq_false (p := (nI a &&& -nI a) < (nI b &&& -nI b)) (by rw [Int32.lt_iff_toInt_lt]; rw [Int32.le_iff_toInt_le] at h4; omega)]; simp)), rfl⟩
  · have h1 := c749
    refine wp_iload_n dX7_isMatch_6 rfl rfl ?_
    refine wp_callS (M2 := M_X7_bits) (n := 1) (As := [.int (nI a)]) (st := []) dX7_isMatch_7 (c_X7_bits g D a (by omega)) ca_X7_54 ⟨nm_X7_bits, by decide, by decide⟩ rfl rfl (Nat.le_of_ble_eq_true rfl) (fun r750 E751 q752 => ?_)
    obtain ⟨rfl, rfl⟩ := q752
    show WP g _ _ _ (.int (nI (sr_bits a)) :: _) _ _
    refine wp_iload_n dX7_isMatch_10 rfl rfl ?_
    refine wp_icmp_ne_n (tgt := 37) dX7_isMatch_11 (by decide) (by have := sr_bits_le a; omega) (by first | omega | (split <;> omega)) (fun c753 => ?_) (fun c753 => ?_)
    · have h2 := c753
      refine wp_iconst (v := nI 0) dX7_isMatch_37 rfl ?_
      exact wp_zret dX7_isMatch_38 rfl (Or.inl rfl) ⟨sr_bf (by unfold sr_mt; first | (rw [decide_eq_false h1]; rfl) | (rw [decide_eq_false h2]; simp; done) | (rw [decide_eq_false h3]; simp; done) | (rw [decide_eq_false (p := (nI a &&& -nI a) < (nI b &&& -nI b)) (by rw [Int32.lt_iff_toInt_lt]; rw [Int32.le_iff_toInt_le] at h4; omega)]; simp)), rfl⟩
    · have h2 := c753
      refine wp_iload_n dX7_isMatch_14 rfl rfl ?_
      refine wp_callS (M2 := M_X7_bits) (n := 1) (As := [.int (nI b)]) (st := []) dX7_isMatch_15 (c_X7_bits g D b (by omega)) ca_X7_54 ⟨nm_X7_bits, by decide, by decide⟩ rfl rfl (Nat.le_of_ble_eq_true rfl) (fun r754 E755 q756 => ?_)
      obtain ⟨rfl, rfl⟩ := q756
      show WP g _ _ _ (.int (nI (sr_bits b)) :: _) _ _
      refine wp_iload_n dX7_isMatch_18 rfl rfl ?_
      refine wp_icmp_ne_n (tgt := 37) dX7_isMatch_19 (by decide) (by have := sr_bits_le b; omega) (by first | omega | (split <;> omega)) (fun c757 => ?_) (fun c757 => ?_)
      · have h3 := c757
        refine wp_iconst (v := nI 0) dX7_isMatch_37 rfl ?_
        exact wp_zret dX7_isMatch_38 rfl (Or.inl rfl) ⟨sr_bf (by unfold sr_mt; first | (rw [decide_eq_false h1]; rfl) | (rw [decide_eq_false h2]; simp; done) | (rw [decide_eq_false h3]; simp; done) | (rw [decide_eq_false (p := (nI a &&& -nI a) < (nI b &&& -nI b)) (by rw [Int32.lt_iff_toInt_lt]; rw [Int32.le_iff_toInt_le] at h4; omega)]; simp)), rfl⟩
      · have h3 := c757
        refine wp_iload_n dX7_isMatch_22 rfl rfl ?_
        refine wp_iload_n dX7_isMatch_23 rfl rfl ?_
        refine wp_ineg dX7_isMatch_24 ?_
        refine wp_iand dX7_isMatch_25 ?_
        refine wp_iload_n dX7_isMatch_26 rfl rfl ?_
        refine wp_iload_n dX7_isMatch_27 rfl rfl ?_
        refine wp_ineg dX7_isMatch_28 ?_
        refine wp_iand dX7_isMatch_29 ?_
        refine wp_icmp_ge (tgt := 37) dX7_isMatch_30 (by decide) (fun c758 => ?_) (fun c758 => ?_)
        · have h4 := c758
          refine wp_iconst (v := nI 0) dX7_isMatch_37 rfl ?_
          exact wp_zret dX7_isMatch_38 rfl (Or.inl rfl) ⟨sr_bf (by unfold sr_mt; first | (rw [decide_eq_false h1]; rfl) | (rw [decide_eq_false h2]; simp; done) | (rw [decide_eq_false h3]; simp; done) | (rw [decide_eq_false (p := (nI a &&& -nI a) < (nI b &&& -nI b)) (by rw [Int32.lt_iff_toInt_lt]; rw [Int32.le_iff_toInt_le] at h4; omega)]; simp)), rfl⟩
        · have h4 := c758
          refine wp_iconst (v := nI 1) dX7_isMatch_33 rfl ?_
          refine wp_goto (tgt := 38) dX7_isMatch_34 (by decide) ?_
          exact wp_zret dX7_isMatch_38 rfl (Or.inr rfl) ⟨sr_bt (by unfold sr_mt; rw [decide_eq_true h1, decide_eq_true h2, decide_eq_true h3, decide_eq_true (by rw [Int32.lt_iff_toInt_lt]; rw [Int32.le_iff_toInt_le] at h4; omega)]; rfl), rfl⟩
