def cl_su (now : Nat → Int32) (r m : Nat) : Nat → Int64
  | 0 => 0
  | q + 1 => if sr_ra now q &&& m = m then cl_su now r m q + cl_rs now r q else if sr_rb now q &&& m = m then cl_su now r m q - cl_rs now r q else cl_su now r m q
def cl_two (n : Nat) (v w : Int32) : Bool := (sr_row n v && sr_row n w) && !decide (v = w)
def cl_m2 (x y : Nat) : Nat := 1 * 2 ^ x ||| 1 * 2 ^ y
set_option maxHeartbeats 4000000 in
set_option maxRecDepth 100000 in
theorem c_X6_suit (g : sr_G) (D : sr_St) (now : Nat → Int32) (n r : Nat) (hci : CI now n r D) (v w u : Int32) (hsu : ∀ x y, x < n → y < n → -(2 ^ 63 : Int) < (cl_su now r (cl_m2 x y) r).toInt) : Con g M_X6_suit [.ref 0, .int v, .int w, .int u] D (fun qa D' => qa = some (.long (if cl_two n v w = true then sr_told (cl_su now r (cl_m2 v.toNatClampNeg w.toNatClampNeg) r) (cl_by (cl_G now r)) u else -1000000000000000000)) ∧ cl_pr D D') := by
  refine Con.of pn_X6_suit (Nat.le_of_ble_eq_true rfl) ?_
  show WP g M_X6_suit 0 [(0, .ref 0), (1, .int v), (2, .int w), (3, .int u)] [] D _
  have hn6 := hci.n6
  have hr12 := hci.r12
  have hp2 : ∀ z, z < 6 → 2 ^ z ≤ 32 := fun z hz => Nat.le_trans (Nat.pow_le_pow_right (by decide) (show z ≤ 5 by omega)) (by decide)
  by_cases hok : cl_two n v w = true
  · obtain ⟨h12, h3⟩ := Bool.and_eq_true_iff.mp hok
    obtain ⟨h1, h2⟩ := Bool.and_eq_true_iff.mp h12
    obtain ⟨x, hx, rfl⟩ := (sr_row_n hn6).mp h1
    obtain ⟨y, hy, rfl⟩ := (sr_row_n hn6).mp h2
    have hpx := hp2 x (by omega)
    have hpy := hp2 y (by omega)
    have hm64 : cl_m2 x y < 64 := Nat.or_lt_two_pow (n := 6) (by omega) (by omega)
    have hL : ∀ q, q ≤ r → ∀ E : sr_St, cl_pr D E → WP g M_X6_suit 28 [(0, .ref 0), (1, .int (nI x)), (2, .int (nI y)), (3, .int u), (4, .int (nI (cl_m2 x y))), (5, .long (cl_su now r (cl_m2 x y) q)), (7, .int (nI q))] [] E (fun qa D' => qa = some (.long (if cl_two n (nI x) (nI y) = true then sr_told (cl_su now r (cl_m2 (nI x).toNatClampNeg (nI y).toNatClampNeg) r) (cl_by (cl_G now r)) u else -1000000000000000000)) ∧ cl_pr D D') := by
      refine sr_up (fun q hq ih E hpr => ?_)
      have h64 := fun h : q < r => sr_lo64 hci.1 h
      have hA : ∀ z, z &&& cl_m2 x y < 2 ^ 31 := fun z => Nat.lt_of_le_of_lt Nat.and_le_right (by omega)
      refine wp_iload dX6_suit_28 rfl ?_
      refine wp_aload_n dX6_suit_30 rfl rfl ?_
      refine wp_getR (r := 1) dX6_suit_31 fl_X6_10 (by decide) rfl rfl rfl ?_
      refine wp_getI_n (n := r) dX6_suit_34 fl_X6_123 (by decide) rfl rfl ((hci.pr hpr).2.1.2.2.1) ?_
      refine wp_icmp_ge_n (tgt := 107) dX6_suit_37 (by decide) (by first | omega | (split <;> omega)) (by first | omega | (split <;> omega)) (fun c548 => ?_) (fun c548 => ?_)
      · refine wp_aload_n dX6_suit_107 rfl rfl ?_
        refine wp_lload dX6_suit_108 rfl ?_
        refine wp_aload_n dX6_suit_110 rfl rfl ?_
        refine wp_getR (r := 14) dX6_suit_111 fl_X6_26 (by decide) rfl rfl rfl ?_
        refine wp_getJ dX6_suit_114 fl_X6_180 (by decide) rfl rfl ?_
        rw [(hci.pr hpr).2.2.2.2.1]
        show WP g _ _ _ (.long (cl_by (cl_G now r)) :: _) _ _
        refine wp_iload_n dX6_suit_117 rfl rfl ?_
        refine wp_callV (M2 := M_X6_tellFraction) (n := 3) (As := [.long (cl_su now r (cl_m2 x y) q), .long (cl_by (cl_G now r)), .int u]) (st := []) dX6_suit_118 (c_X6_tellFraction g E (cl_su now r (cl_m2 x y) q) (cl_by (cl_G now r)) ((show q = r by omega).symm ▸ hsu x y hx hy) (cl_go_pos 7).1 u) ca_X6_184 ⟨nm_X6_tellFraction, by decide, by decide⟩ rfl (by decide) rfl rfl rfl (Nat.le_of_ble_eq_true rfl) (fun r549 E550 q551 => ?_)
        obtain ⟨rfl, pr552⟩ := q551
        show WP g _ _ _ (.long (sr_told (cl_su now r (cl_m2 x y) q) (cl_by (cl_G now r)) u) :: _) _ _
        have pr553 := (hpr).tr pr552
        refine wp_lret dX6_suit_121 rfl ⟨?_, pr553⟩
        rw [if_pos hok, nI_clamp (by omega), nI_clamp (by omega), show q = r by omega]
      · refine wp_aload_n dX6_suit_40 rfl rfl ?_
        refine wp_getR (r := 1) dX6_suit_41 fl_X6_10 (by decide) rfl rfl rfl ?_
        refine wp_getR (r := 2) dX6_suit_44 fl_X6_153 (by decide) rfl rfl rfl ?_
        refine wp_iload dX6_suit_47 rfl ?_
        refine wp_iald dX6_suit_49 (by decide) rfl (show _ < 12 by omega) (by first | omega | (split <;> omega)) ?_
        rw [(hci.pr hpr).a (by omega)]
        refine wp_iload dX6_suit_50 rfl ?_
        refine wp_iand_n dX6_suit_52 ?_
        refine wp_iload dX6_suit_53 rfl ?_
        refine wp_icmp_ne_n (tgt := 72) dX6_suit_55 (by decide) (hA _) (by first | omega | (split <;> omega)) (fun c554 => ?_) (fun c554 => ?_)
        · have e1 := c554
          refine wp_aload_n dX6_suit_72 rfl rfl ?_
          refine wp_getR (r := 1) dX6_suit_73 fl_X6_10 (by decide) rfl rfl rfl ?_
          refine wp_getR (r := 3) dX6_suit_76 fl_X6_156 (by decide) rfl rfl rfl ?_
          refine wp_iload dX6_suit_79 rfl ?_
          refine wp_iald dX6_suit_81 (by decide) rfl (show _ < 12 by omega) (by first | omega | (split <;> omega)) ?_
          rw [(hci.pr hpr).b (by omega)]
          refine wp_iload dX6_suit_82 rfl ?_
          refine wp_iand_n dX6_suit_84 ?_
          refine wp_iload dX6_suit_85 rfl ?_
          refine wp_icmp_ne_n (tgt := 101) dX6_suit_87 (by decide) (hA _) (by first | omega | (split <;> omega)) (fun c555 => ?_) (fun c555 => ?_)
          · have e2 := c555
            refine wp_iinc_n (b := 1) (lv' := [(0, .ref 0), (1, .int (nI x)), (2, .int (nI y)), (3, .int u), (4, .int (nI (cl_m2 x y))), (5, .long (cl_su now r (cl_m2 x y) q)), (7, .int (nI (q + 1)))]) dX6_suit_101 rfl rfl (by decide) rfl ?_
            refine wp_goto (tgt := 28) dX6_suit_104 (by decide) ?_
            have h := ih (by omega) E (hpr)
            rw [show cl_su now r (cl_m2 x y) (q + 1) = _ from (if_neg e1).trans (if_neg e2)] at h
            exact h
          · have e2 := c555
            refine wp_lload dX6_suit_90 rfl ?_
            refine wp_aload_n dX6_suit_92 rfl rfl ?_
            refine wp_iload dX6_suit_93 rfl ?_
            refine wp_callV (M2 := M_X6_scaledRest) (n := 1) (As := [.int (nI q)]) (st := [.long (cl_su now r (cl_m2 x y) q)]) dX6_suit_95 (c_X6_scaledRest g E now n r (hci.pr hpr) q (by omega)) ca_X6_176 ⟨nm_X6_scaledRest, by decide, by decide⟩ rfl (by decide) rfl rfl rfl (Nat.le_of_ble_eq_true rfl) (fun r556 E557 q558 => ?_)
            obtain ⟨rfl, pr559⟩ := q558
            show WP g _ _ _ (.long (cl_rs now r q) :: _) _ _
            have pr560 := (hpr).tr pr559
            refine wp_lsub dX6_suit_98 ?_
            refine wp_lstore (lv' := [(0, .ref 0), (1, .int (nI x)), (2, .int (nI y)), (3, .int u), (4, .int (nI (cl_m2 x y))), (5, .long ((cl_su now r (cl_m2 x y) q) - (cl_rs now r q))), (7, .int (nI q))]) dX6_suit_99 (by decide) rfl ?_
            refine wp_iinc_n (b := 1) (lv' := [(0, .ref 0), (1, .int (nI x)), (2, .int (nI y)), (3, .int u), (4, .int (nI (cl_m2 x y))), (5, .long ((cl_su now r (cl_m2 x y) q) - (cl_rs now r q))), (7, .int (nI (q + 1)))]) dX6_suit_101 rfl rfl (by decide) rfl ?_
            refine wp_goto (tgt := 28) dX6_suit_104 (by decide) ?_
            have h := ih (by omega) E557 (pr560)
            rw [show cl_su now r (cl_m2 x y) (q + 1) = _ from (if_neg e1).trans (if_pos e2)] at h
            exact h
        · have e1 := c554
          refine wp_lload dX6_suit_58 rfl ?_
          refine wp_aload_n dX6_suit_60 rfl rfl ?_
          refine wp_iload dX6_suit_61 rfl ?_
          refine wp_callV (M2 := M_X6_scaledRest) (n := 1) (As := [.int (nI q)]) (st := [.long (cl_su now r (cl_m2 x y) q)]) dX6_suit_63 (c_X6_scaledRest g E now n r (hci.pr hpr) q (by omega)) ca_X6_176 ⟨nm_X6_scaledRest, by decide, by decide⟩ rfl (by decide) rfl rfl rfl (Nat.le_of_ble_eq_true rfl) (fun r561 E562 q563 => ?_)
          obtain ⟨rfl, pr564⟩ := q563
          show WP g _ _ _ (.long (cl_rs now r q) :: _) _ _
          have pr565 := (hpr).tr pr564
          refine wp_ladd dX6_suit_66 ?_
          refine wp_lstore (lv' := [(0, .ref 0), (1, .int (nI x)), (2, .int (nI y)), (3, .int u), (4, .int (nI (cl_m2 x y))), (5, .long ((cl_su now r (cl_m2 x y) q) + (cl_rs now r q))), (7, .int (nI q))]) dX6_suit_67 (by decide) rfl ?_
          refine wp_goto (tgt := 101) dX6_suit_69 (by decide) ?_
          refine wp_iinc_n (b := 1) (lv' := [(0, .ref 0), (1, .int (nI x)), (2, .int (nI y)), (3, .int u), (4, .int (nI (cl_m2 x y))), (5, .long ((cl_su now r (cl_m2 x y) q) + (cl_rs now r q))), (7, .int (nI (q + 1)))]) dX6_suit_101 rfl rfl (by decide) rfl ?_
          refine wp_goto (tgt := 28) dX6_suit_104 (by decide) ?_
          have h := ih (by omega) E562 (pr565)
          rw [show cl_su now r (cl_m2 x y) (q + 1) = _ from if_pos e1] at h
          exact h
    refine wp_aload_n dX6_suit_0 rfl rfl ?_
    refine wp_iload_n dX6_suit_1 rfl rfl ?_
    refine wp_iload_n dX6_suit_2 rfl rfl ?_
    refine wp_callV (M2 := M_X6_areTwo) (n := 2) (As := [.int (nI x), .int (nI y)]) (st := []) dX6_suit_3 (c_X6_areTwo g D now n r hci (nI x) (nI y)) ca_X6_207 ⟨nm_X6_areTwo, by decide, by decide⟩ rfl (by decide) rfl rfl rfl (Nat.le_of_ble_eq_true rfl) (fun r566 E567 q568 => ?_)
    obtain ⟨rfl, pr569⟩ := q568
    show WP g _ _ _ (.int (sr_b ((sr_row n (nI x) && sr_row n (nI y)) && !decide (nI x = nI y))) :: _) _ _
    have pr570 := (cl_pr.rf).tr pr569
    refine wp_if_ne_b (tgt := 13) dX6_suit_6 (by decide) (fun c571 => ?_) (fun c571 => ?_)
    · refine wp_iconst (v := nI 1) dX6_suit_13 rfl ?_
      refine wp_iload_n dX6_suit_14 rfl rfl ?_
      refine wp_ishl_n dX6_suit_15 (by omega) (sr_pw1 (by omega)) ?_
      refine wp_iconst (v := nI 1) dX6_suit_16 rfl ?_
      refine wp_iload_n dX6_suit_17 rfl rfl ?_
      refine wp_ishl_n dX6_suit_18 (by omega) (sr_pw1 (by omega)) ?_
      refine wp_ior_n dX6_suit_19 ?_
      refine wp_istore (lv' := [(0, .ref 0), (1, .int (nI x)), (2, .int (nI y)), (3, .int u), (4, .int (nI ((1 * 2 ^ x) ||| (1 * 2 ^ y))))]) dX6_suit_20 (by decide) rfl ?_
      refine wp_lconst (v := 0) dX6_suit_22 rfl ?_
      refine wp_lstore (lv' := [(0, .ref 0), (1, .int (nI x)), (2, .int (nI y)), (3, .int u), (4, .int (nI ((1 * 2 ^ x) ||| (1 * 2 ^ y)))), (5, .long 0)]) dX6_suit_23 (by decide) rfl ?_
      refine wp_iconst (v := nI 0) dX6_suit_25 rfl ?_
      refine wp_istore (lv' := [(0, .ref 0), (1, .int (nI x)), (2, .int (nI y)), (3, .int u), (4, .int (nI ((1 * 2 ^ x) ||| (1 * 2 ^ y)))), (5, .long 0), (7, .int (nI 0))]) dX6_suit_26 (by decide) rfl ?_
      exact hL 0 (by omega) E567 (pr570)
    · exact absurd hok (by unfold cl_two; rw [c571]; decide)
  · refine wp_aload_n dX6_suit_0 rfl rfl ?_
    refine wp_iload_n dX6_suit_1 rfl rfl ?_
    refine wp_iload_n dX6_suit_2 rfl rfl ?_
    refine wp_callV (M2 := M_X6_areTwo) (n := 2) (As := [.int v, .int w]) (st := []) dX6_suit_3 (c_X6_areTwo g D now n r hci v w) ca_X6_207 ⟨nm_X6_areTwo, by decide, by decide⟩ rfl (by decide) rfl rfl rfl (Nat.le_of_ble_eq_true rfl) (fun r572 E573 q574 => ?_)
    obtain ⟨rfl, pr575⟩ := q574
    show WP g _ _ _ (.int (sr_b ((sr_row n v && sr_row n w) && !decide (v = w))) :: _) _ _
    have pr576 := (cl_pr.rf).tr pr575
    refine wp_if_ne_b (tgt := 13) dX6_suit_6 (by decide) (fun c577 => ?_) (fun c577 => ?_)
    · exact absurd c577 hok
    · refine wp_ldc2 (v := -1000000000000000000) dX6_suit_9 ct_X6_170 ?_
      refine wp_lret dX6_suit_12 rfl ⟨?_, pr576⟩
      rw [if_neg hok]
def cl_swq (now : Nat → Int32) (x y i j : Nat) : Bool := sr_cswap (fun q => now (3 + 4 * q)) (fun q => now (3 + 4 * q + 1)) (fun q => now (3 + 4 * q + 3)) x y i j
def cl_wi (now : Nat → Int32) (i j p : Nat) : Nat → Nat × Int32 → Nat × Int32
  | 0, s => s
  | q + 1, s => if cl_swq now p q i j = true then ((cl_wi now i j p q s).1 + 1, (cl_wi now i j p q s).2 + (now (3 + 4 * p + 2) - now (3 + 4 * q + 2))) else cl_wi now i j p q s
def cl_wo (now : Nat → Int32) (r i j : Nat) : Nat → Nat × Int32
  | 0 => (0, 0)
  | p + 1 => cl_wi now i j p r (cl_wo now r i j p)
theorem cl_wi_le {now : Nat → Int32} {i j p : Nat} {s : Nat × Int32} : ∀ q, (cl_wi now i j p q s).1 ≤ s.1 + q
  | 0 => Nat.le_refl _
  | q + 1 => by
    have := cl_wi_le (now := now) (i := i) (j := j) (p := p) (s := s) q
    unfold cl_wi
    split
    · show _ + 1 ≤ _; omega
    · omega
theorem cl_wo_le {now : Nat → Int32} {r i j : Nat} : ∀ p, (cl_wo now r i j p).1 ≤ p * r
  | 0 => Nat.zero_le _
  | p + 1 => by
    have h1 := cl_wo_le (now := now) (r := r) (i := i) (j := j) p
    have h2 := cl_wi_le (now := now) (i := i) (j := j) (p := p) (s := cl_wo now r i j p) r
    show (cl_wi now i j p r (cl_wo now r i j p)).1 ≤ _
    rw [Nat.add_mul, Nat.one_mul]; omega
def cl_swa (now : Nat → Int32) (r x y w : Nat) : Int64 := if w = 0 then (nI (cl_wo now r x y r).1).toInt64 else if (cl_wo now r x y r).1 = 0 then -1000000000000000000 else sr_told (cl_wo now r x y r).2.toInt64 (2 * (nI (cl_wo now r x y r).1).toInt64) (if w = 2 then nI 1 else nI 0)
theorem sr_i64lo {x : Int32} : -(2 ^ 63 : Int) < x.toInt64.toInt := by
  rw [Int32.toInt_toInt64]
  have := Int32.le_toInt x
  have e : Int32.minValue.toInt = -2147483648 := rfl
  omega
theorem sr_2n {m : Nat} (h0 : ¬ m = 0) (h : m ≤ 1000) : (0 : Int64) < 2 * (nI m).toInt64 := by
  have e : (nI m).toInt64 = lN m := by
    apply Int64.toInt_inj.mp
    rw [Int32.toInt_toInt64, nI_toInt (by omega), pk_lT (by omega)]
  rw [e, show (2 : Int64) = lN 2 from rfl, sr_lmul (by omega), show (0 : Int64) = lN 0 from rfl, pk_lLT (by decide) (by omega)]
  omega
set_option maxHeartbeats 4000000 in
set_option maxRecDepth 100000 in
theorem c_X6_swaps (g : sr_G) (D : sr_St) (now : Nat → Int32) (n r : Nat) (hci : CI now n r D) (v w z : Int32) : Con g M_X6_swaps [.ref 0, .int v, .int w, .int z] D (fun qa D' => qa = some (.long (if (cl_two n v w && sr_isIn z (nI 0) (nI 2)) = true then cl_swa now r v.toNatClampNeg w.toNatClampNeg z.toNatClampNeg else -1000000000000000000)) ∧ cl_pr D D') := by
  refine Con.of pn_X6_swaps (Nat.le_of_ble_eq_true rfl) ?_
  show WP g M_X6_swaps 0 [(0, .ref 0), (1, .int v), (2, .int w), (3, .int z)] [] D _
  have hn6 := hci.n6
  have hr12 := hci.r12
  have hp2 : ∀ z, z < 6 → 2 ^ z ≤ 32 := fun z hz => Nat.le_trans (Nat.pow_le_pow_right (by decide) (show z ≤ 5 by omega)) (by decide)
  by_cases hok : (cl_two n v w && sr_isIn z (nI 0) (nI 2)) = true
  · obtain ⟨hok1, hz⟩ := Bool.and_eq_true_iff.mp hok
    obtain ⟨h12, h3⟩ := Bool.and_eq_true_iff.mp hok1
    obtain ⟨h1, h2⟩ := Bool.and_eq_true_iff.mp h12
    obtain ⟨x, hx, rfl⟩ := (sr_row_n hn6).mp h1
    obtain ⟨y, hy, rfl⟩ := (sr_row_n hn6).mp h2
    obtain ⟨k, hk, rfl⟩ := (sr_in_n (n := 3) (by decide)).mp hz
    have hL : ∀ p, p ≤ r → ∀ E : sr_St, cl_pr D E → WP g M_X6_swaps 31 [(0, .ref 0), (1, .int (nI x)), (2, .int (nI y)), (3, .int (nI k)), (4, .int (nI ((cl_wo now r x y p).1))), (5, .int ((cl_wo now r x y p).2)), (6, .int (nI p))] [] E (fun qa D' => qa = some (.long (if (cl_two n (nI x) (nI y) && sr_isIn (nI k) (nI 0) (nI 2)) = true then cl_swa now r (nI x).toNatClampNeg (nI y).toNatClampNeg (nI k).toNatClampNeg else -1000000000000000000)) ∧ cl_pr D D') := by
      refine sr_up (fun p hp ih E hpr => ?_)
      have hwl := cl_wo_le (now := now) (r := r) (i := x) (j := y) p
      have hwm : p * r ≤ 12 * 12 := Nat.mul_le_mul (by omega) hr12
      have hI : p < r → ∀ q, q ≤ r → ∀ E : sr_St, cl_pr D E → WP g M_X6_swaps 46 [(0, .ref 0), (1, .int (nI x)), (2, .int (nI y)), (3, .int (nI k)), (4, .int (nI ((cl_wi now x y p q (cl_wo now r x y p)).1))), (5, .int ((cl_wi now x y p q (cl_wo now r x y p)).2)), (6, .int (nI p)), (7, .int (nI q))] [] E (fun qa D' => qa = some (.long (if (cl_two n (nI x) (nI y) && sr_isIn (nI k) (nI 0) (nI 2)) = true then cl_swa now r (nI x).toNatClampNeg (nI y).toNatClampNeg (nI k).toNatClampNeg else -1000000000000000000)) ∧ cl_pr D D') := by
        intro hpr0
        refine sr_up (fun q hq ihq E hpr => ?_)
        have hwi := cl_wi_le (now := now) (i := x) (j := y) (p := p) (s := cl_wo now r x y p) q
        refine wp_iload dX6_swaps_46 rfl ?_
        refine wp_aload_n dX6_swaps_48 rfl rfl ?_
        refine wp_getR (r := 1) dX6_swaps_49 fl_X6_10 (by decide) rfl rfl rfl ?_
        refine wp_getI_n (n := r) dX6_swaps_52 fl_X6_123 (by decide) rfl rfl ((hci.pr hpr).2.1.2.2.1) ?_
        refine wp_icmp_ge_n (tgt := 109) dX6_swaps_55 (by decide) (by first | omega | (split <;> omega)) (by first | omega | (split <;> omega)) (fun c578 => ?_) (fun c578 => ?_)
        · refine wp_iinc_n (b := 1) (lv' := [(0, .ref 0), (1, .int (nI x)), (2, .int (nI y)), (3, .int (nI k)), (4, .int (nI ((cl_wi now x y p q (cl_wo now r x y p)).1))), (5, .int ((cl_wi now x y p q (cl_wo now r x y p)).2)), (6, .int (nI (p + 1))), (7, .int (nI q))]) dX6_swaps_109 rfl rfl (by decide) rfl ?_
          refine wp_goto (tgt := 31) dX6_swaps_112 (by decide) ?_
          have hqe : q = r := by omega
          subst hqe
          exact wp_pick [0, 1, 2, 3, 4, 5, 6] rfl (ih (by omega) E hpr)
        · refine wp_aload_n dX6_swaps_58 rfl rfl ?_
          refine wp_getR (r := 1) dX6_swaps_59 fl_X6_10 (by decide) rfl rfl rfl ?_
          refine wp_iload dX6_swaps_62 rfl ?_
          refine wp_iload dX6_swaps_64 rfl ?_
          refine wp_iload_n dX6_swaps_66 rfl rfl ?_
          refine wp_iload_n dX6_swaps_67 rfl rfl ?_
          refine wp_callV (M2 := M_X3_isSwap) (n := 4) (As := [.int (nI p), .int (nI q), .int (nI x), .int (nI y)]) (st := []) dX6_swaps_68 (c_X3_isSwap g E p q x y (by omega) (by omega) (by omega) (by omega)) ca_X6_211 ⟨nm_X3_isSwap, by decide, by decide⟩ rfl (by decide) rfl rfl rfl (Nat.le_of_ble_eq_true rfl) (fun r579 E580 q581 => ?_)
          obtain ⟨rfl, rfl⟩ := q581
          have hsw : sr_cswap (E.1 2) (E.1 3) (E.1 5) p q x y = cl_swq now p q x y := by unfold cl_swq sr_cswap; rw [((hci.pr hpr).2.1.2.2.2 p (by omega)).1, ((hci.pr hpr).2.1.2.2.2 p (by omega)).2.1, ((hci.pr hpr).2.1.2.2.2 p (by omega)).2.2.2, ((hci.pr hpr).2.1.2.2.2 q (by omega)).1, ((hci.pr hpr).2.1.2.2.2 q (by omega)).2.1, ((hci.pr hpr).2.1.2.2.2 q (by omega)).2.2.2]
          rw [hsw]
          show WP g _ _ _ (.int (sr_b (cl_swq now p q x y)) :: _) _ _
          refine wp_if_eq_b (tgt := 103) dX6_swaps_71 (by decide) (fun c582 => ?_) (fun c582 => ?_)
          · have hsq := c582
            refine wp_iinc_n (b := 1) (lv' := [(0, .ref 0), (1, .int (nI x)), (2, .int (nI y)), (3, .int (nI k)), (4, .int (nI ((cl_wi now x y p q (cl_wo now r x y p)).1))), (5, .int ((cl_wi now x y p q (cl_wo now r x y p)).2)), (6, .int (nI p)), (7, .int (nI (q + 1)))]) dX6_swaps_103 rfl rfl (by decide) rfl ?_
            refine wp_goto (tgt := 46) dX6_swaps_106 (by decide) ?_
            have h := ihq (by omega) E (hpr)
            rw [show cl_wi now x y p (q + 1) (cl_wo now r x y p) = _ from if_neg (by rw [hsq]; decide)] at h
            exact h
          · have hsq := c582
            refine wp_iinc_n (b := 1) (lv' := [(0, .ref 0), (1, .int (nI x)), (2, .int (nI y)), (3, .int (nI k)), (4, .int (nI ((cl_wi now x y p q (cl_wo now r x y p)).1 + 1))), (5, .int ((cl_wi now x y p q (cl_wo now r x y p)).2)), (6, .int (nI p)), (7, .int (nI q))]) dX6_swaps_74 rfl rfl (by decide) rfl ?_
            refine wp_iload dX6_swaps_77 rfl ?_
            refine wp_aload_n dX6_swaps_79 rfl rfl ?_
            refine wp_getR (r := 1) dX6_swaps_80 fl_X6_10 (by decide) rfl rfl rfl ?_
            refine wp_getR (r := 4) dX6_swaps_83 fl_X6_159 (by decide) rfl rfl rfl ?_
            refine wp_iload dX6_swaps_86 rfl ?_
            refine wp_iald dX6_swaps_88 (by decide) rfl (show _ < 12 by omega) (by first | omega | (split <;> omega)) ?_
            rw [(hci.pr hpr).m (by omega)]
            refine wp_aload_n dX6_swaps_89 rfl rfl ?_
            refine wp_getR (r := 1) dX6_swaps_90 fl_X6_10 (by decide) rfl rfl rfl ?_
            refine wp_getR (r := 4) dX6_swaps_93 fl_X6_159 (by decide) rfl rfl rfl ?_
            refine wp_iload dX6_swaps_96 rfl ?_
            refine wp_iald dX6_swaps_98 (by decide) rfl (show _ < 12 by omega) (by first | omega | (split <;> omega)) ?_
            rw [(hci.pr hpr).m (by omega)]
            refine wp_isub dX6_swaps_99 ?_
            refine wp_iadd dX6_swaps_100 ?_
            refine wp_istore (lv' := [(0, .ref 0), (1, .int (nI x)), (2, .int (nI y)), (3, .int (nI k)), (4, .int (nI ((cl_wi now x y p q (cl_wo now r x y p)).1 + 1))), (5, .int (((cl_wi now x y p q (cl_wo now r x y p)).2) + ((now (3 + 4 * p + 2)) - (now (3 + 4 * q + 2))))), (6, .int (nI p)), (7, .int (nI q))]) dX6_swaps_101 (by decide) rfl ?_
            refine wp_iinc_n (b := 1) (lv' := [(0, .ref 0), (1, .int (nI x)), (2, .int (nI y)), (3, .int (nI k)), (4, .int (nI ((cl_wi now x y p q (cl_wo now r x y p)).1 + 1))), (5, .int (((cl_wi now x y p q (cl_wo now r x y p)).2) + ((now (3 + 4 * p + 2)) - (now (3 + 4 * q + 2))))), (6, .int (nI p)), (7, .int (nI (q + 1)))]) dX6_swaps_103 rfl rfl (by decide) rfl ?_
            refine wp_goto (tgt := 46) dX6_swaps_106 (by decide) ?_
            have h := ihq (by omega) E (hpr)
            rw [show cl_wi now x y p (q + 1) (cl_wo now r x y p) = _ from if_pos hsq] at h
            exact h
      refine wp_iload dX6_swaps_31 rfl ?_
      refine wp_aload_n dX6_swaps_33 rfl rfl ?_
      refine wp_getR (r := 1) dX6_swaps_34 fl_X6_10 (by decide) rfl rfl rfl ?_
      refine wp_getI_n (n := r) dX6_swaps_37 fl_X6_123 (by decide) rfl rfl ((hci.pr hpr).2.1.2.2.1) ?_
      refine wp_icmp_ge_n (tgt := 115) dX6_swaps_40 (by decide) (by first | omega | (split <;> omega)) (by first | omega | (split <;> omega)) (fun c583 => ?_) (fun c583 => ?_)
      · refine wp_iload_n dX6_swaps_115 rfl rfl ?_
        refine wp_if_ne_n (tgt := 123) dX6_swaps_116 (by decide) (by first | omega | (split <;> omega)) (fun c584 => ?_) (fun c584 => ?_)
        · have hk0 := c584
          refine wp_iload dX6_swaps_123 rfl ?_
          refine wp_if_ne_n (tgt := 134) dX6_swaps_125 (by decide) (by first | omega | (split <;> omega)) (fun c585 => ?_) (fun c585 => ?_)
          · have hf0 := c585
            refine wp_aload_n dX6_swaps_134 rfl rfl ?_
            refine wp_iload dX6_swaps_135 rfl ?_
            refine wp_i2l dX6_swaps_137 ?_
            refine wp_ldc2 (v := 2) dX6_swaps_138 ct_X6_215 ?_
            refine wp_iload dX6_swaps_141 rfl ?_
            refine wp_i2l dX6_swaps_143 ?_
            refine wp_lmul dX6_swaps_144 ?_
            refine wp_iload_n dX6_swaps_145 rfl rfl ?_
            refine wp_iconst (v := nI 2) dX6_swaps_146 rfl ?_
            refine wp_icmp_ne_n (tgt := 154) dX6_swaps_147 (by decide) (by first | omega | (split <;> omega)) (by first | omega | (split <;> omega)) (fun c586 => ?_) (fun c586 => ?_)
            · have hk2 := c586
              refine wp_iconst (v := nI 0) dX6_swaps_154 rfl ?_
              refine wp_callV (M2 := M_X6_tellFraction) (n := 3) (As := [.long (((cl_wo now r x y p).2).toInt64), .long (2 * ((nI ((cl_wo now r x y p).1)).toInt64)), .int (nI 0)]) (st := []) dX6_swaps_155 (c_X6_tellFraction g E (((cl_wo now r x y p).2).toInt64) (2 * ((nI ((cl_wo now r x y p).1)).toInt64)) sr_i64lo (sr_2n hf0 (by omega)) (nI 0)) ca_X6_184 ⟨nm_X6_tellFraction, by decide, by decide⟩ rfl (by decide) rfl rfl rfl (Nat.le_of_ble_eq_true rfl) (fun r587 E588 q589 => ?_)
              obtain ⟨rfl, pr590⟩ := q589
              show WP g _ _ _ (.long (sr_told (((cl_wo now r x y p).2).toInt64) (2 * ((nI ((cl_wo now r x y p).1)).toInt64)) (nI 0)) :: _) _ _
              have pr591 := (hpr).tr pr590
              refine wp_lret dX6_swaps_158 rfl ⟨?_, pr591⟩
              have hpe : p = r := by omega
              subst hpe
              rw [if_pos hok, nI_clamp (by omega), nI_clamp (by omega), nI_clamp (by omega)]
              unfold cl_swa
              rw [if_neg hk0, if_neg hf0, if_neg hk2]
            · have hk2 := c586
              refine wp_iconst (v := nI 1) dX6_swaps_150 rfl ?_
              refine wp_goto (tgt := 155) dX6_swaps_151 (by decide) ?_
              refine wp_callV (M2 := M_X6_tellFraction) (n := 3) (As := [.long (((cl_wo now r x y p).2).toInt64), .long (2 * ((nI ((cl_wo now r x y p).1)).toInt64)), .int (nI 1)]) (st := []) dX6_swaps_155 (c_X6_tellFraction g E (((cl_wo now r x y p).2).toInt64) (2 * ((nI ((cl_wo now r x y p).1)).toInt64)) sr_i64lo (sr_2n hf0 (by omega)) (nI 1)) ca_X6_184 ⟨nm_X6_tellFraction, by decide, by decide⟩ rfl (by decide) rfl rfl rfl (Nat.le_of_ble_eq_true rfl) (fun r592 E593 q594 => ?_)
              obtain ⟨rfl, pr595⟩ := q594
              show WP g _ _ _ (.long (sr_told (((cl_wo now r x y p).2).toInt64) (2 * ((nI ((cl_wo now r x y p).1)).toInt64)) (nI 1)) :: _) _ _
              have pr596 := (hpr).tr pr595
              refine wp_lret dX6_swaps_158 rfl ⟨?_, pr596⟩
              have hpe : p = r := by omega
              subst hpe
              rw [if_pos hok, nI_clamp (by omega), nI_clamp (by omega), nI_clamp (by omega)]
              unfold cl_swa
              rw [if_neg hk0, if_neg hf0, if_pos hk2]
          · have hf0 := c585
            refine wp_ldc2 (v := -1000000000000000000) dX6_swaps_128 ct_X6_170 ?_
            refine wp_goto (tgt := 158) dX6_swaps_131 (by decide) ?_
            refine wp_lret dX6_swaps_158 rfl ⟨?_, hpr⟩
            have hpe : p = r := by omega
            subst hpe
            rw [if_pos hok, nI_clamp (by omega), nI_clamp (by omega), nI_clamp (by omega)]
            unfold cl_swa
            rw [if_neg hk0, if_pos hf0]
        · have hk0 := c584
          refine wp_iload dX6_swaps_119 rfl ?_
          refine wp_i2l dX6_swaps_121 ?_
          refine wp_lret dX6_swaps_122 rfl ⟨?_, hpr⟩
          have hpe : p = r := by omega
          subst hpe
          rw [if_pos hok, nI_clamp (by omega), nI_clamp (by omega), nI_clamp (by omega)]
          unfold cl_swa
          rw [if_pos hk0]
      · refine wp_iconst (v := nI 0) dX6_swaps_43 rfl ?_
        refine wp_istore (lv' := [(0, .ref 0), (1, .int (nI x)), (2, .int (nI y)), (3, .int (nI k)), (4, .int (nI ((cl_wo now r x y p).1))), (5, .int ((cl_wo now r x y p).2)), (6, .int (nI p)), (7, .int (nI 0))]) dX6_swaps_44 (by decide) rfl ?_
        exact hI (by omega) 0 (by omega) E hpr
    refine wp_aload_n dX6_swaps_0 rfl rfl ?_
    refine wp_iload_n dX6_swaps_1 rfl rfl ?_
    refine wp_iload_n dX6_swaps_2 rfl rfl ?_
    refine wp_callV (M2 := M_X6_areTwo) (n := 2) (As := [.int (nI x), .int (nI y)]) (st := []) dX6_swaps_3 (c_X6_areTwo g D now n r hci (nI x) (nI y)) ca_X6_207 ⟨nm_X6_areTwo, by decide, by decide⟩ rfl (by decide) rfl rfl rfl (Nat.le_of_ble_eq_true rfl) (fun r597 E598 q599 => ?_)
    obtain ⟨rfl, pr600⟩ := q599
    show WP g _ _ _ (.int (sr_b ((sr_row n (nI x) && sr_row n (nI y)) && !decide (nI x = nI y))) :: _) _ _
    have pr601 := (cl_pr.rf).tr pr600
    refine wp_if_eq_b (tgt := 18) dX6_swaps_6 (by decide) (fun c602 => ?_) (fun c602 => ?_)
    · exact absurd hok1 (by unfold cl_two; rw [c602]; decide)
    · refine wp_iload_n dX6_swaps_9 rfl rfl ?_
      refine wp_if_lt_n (tgt := 18) dX6_swaps_10 (by decide) (by first | omega | (split <;> omega)) ?_
      refine wp_iload_n dX6_swaps_13 rfl rfl ?_
      refine wp_iconst (v := nI 2) dX6_swaps_14 rfl ?_
      refine wp_icmp_le_n (tgt := 22) dX6_swaps_15 (by decide) (by first | omega | (split <;> omega)) (by first | omega | (split <;> omega)) (fun c603 => ?_) (fun c603 => ?_)
      · refine wp_iconst (v := nI 0) dX6_swaps_22 rfl ?_
        refine wp_istore (lv' := [(0, .ref 0), (1, .int (nI x)), (2, .int (nI y)), (3, .int (nI k)), (4, .int (nI 0))]) dX6_swaps_23 (by decide) rfl ?_
        refine wp_iconst (v := nI 0) dX6_swaps_25 rfl ?_
        refine wp_istore (lv' := [(0, .ref 0), (1, .int (nI x)), (2, .int (nI y)), (3, .int (nI k)), (4, .int (nI 0)), (5, .int (nI 0))]) dX6_swaps_26 (by decide) rfl ?_
        refine wp_iconst (v := nI 0) dX6_swaps_28 rfl ?_
        refine wp_istore (lv' := [(0, .ref 0), (1, .int (nI x)), (2, .int (nI y)), (3, .int (nI k)), (4, .int (nI 0)), (5, .int (nI 0)), (6, .int (nI 0))]) dX6_swaps_29 (by decide) rfl ?_
        exact hL 0 (by omega) E598 (pr601)
      · exact absurd c603 (by omega)
  · refine wp_aload_n dX6_swaps_0 rfl rfl ?_
    refine wp_iload_n dX6_swaps_1 rfl rfl ?_
    refine wp_iload_n dX6_swaps_2 rfl rfl ?_
    refine wp_callV (M2 := M_X6_areTwo) (n := 2) (As := [.int v, .int w]) (st := []) dX6_swaps_3 (c_X6_areTwo g D now n r hci v w) ca_X6_207 ⟨nm_X6_areTwo, by decide, by decide⟩ rfl (by decide) rfl rfl rfl (Nat.le_of_ble_eq_true rfl) (fun r604 E605 q606 => ?_)
    obtain ⟨rfl, pr607⟩ := q606
    show WP g _ _ _ (.int (sr_b ((sr_row n v && sr_row n w) && !decide (v = w))) :: _) _ _
    have pr608 := (cl_pr.rf).tr pr607
    refine wp_if_eq_b (tgt := 18) dX6_swaps_6 (by decide) (fun c609 => ?_) (fun c609 => ?_)
    · have h1 := c609
      refine wp_ldc2 (v := -1000000000000000000) dX6_swaps_18 ct_X6_170 ?_
      refine wp_lret dX6_swaps_21 rfl ⟨?_, pr608⟩
      rw [if_neg hok]
    · have h1 := c609
      refine wp_iload_n dX6_swaps_9 rfl rfl ?_
      refine wp_if_lt (tgt := 18) dX6_swaps_10 (by decide) (fun c610 => ?_) (fun c610 => ?_)
      · refine wp_ldc2 (v := -1000000000000000000) dX6_swaps_18 ct_X6_170 ?_
        refine wp_lret dX6_swaps_21 rfl ⟨?_, pr608⟩
        rw [if_neg hok]
      · have hz1 := c610
        refine wp_iload_n dX6_swaps_13 rfl rfl ?_
        refine wp_iconst (v := nI 2) dX6_swaps_14 rfl ?_
        refine wp_icmp_le (tgt := 22) dX6_swaps_15 (by decide) (fun c611 => ?_) (fun c611 => ?_)
        · exact absurd (by unfold cl_two; rw [h1]; exact sr_in_t hz1 (by rw [Int32.lt_iff_toInt_lt]; rw [Int32.le_iff_toInt_le] at c611; omega)) hok
        · refine wp_ldc2 (v := -1000000000000000000) dX6_swaps_18 ct_X6_170 ?_
          refine wp_lret dX6_swaps_21 rfl ⟨?_, pr608⟩
          rw [if_neg hok]
def cl_mt (n a b : Nat) : Bool := sr_canRow n (nI a) (nI b) (nI 0) && decide ((nI a &&& -nI a) < (nI b &&& -nI b))
set_option maxHeartbeats 4000000 in
set_option maxRecDepth 100000 in
theorem c_X6_isMatch (g : sr_G) (D : sr_St) (n : Nat) (hn : D.1 1 0 = nI n) (hn6 : n ≤ 6) (a b : Nat) : Con g M_X6_isMatch [.ref 0, .int (nI a), .int (nI b)] D (sr_ret (some (.int (sr_b (cl_mt n a b)))) D) := by
  refine Con.of pn_X6_isMatch (Nat.le_of_ble_eq_true rfl) ?_
  show WP g M_X6_isMatch 0 [(0, .ref 0), (1, .int (nI a)), (2, .int (nI b))] [] D _
  refine wp_aload_n dX6_isMatch_0 rfl rfl ?_
  refine wp_getR (r := 1) dX6_isMatch_1 fl_X6_10 (by decide) rfl rfl rfl ?_
  refine wp_iload_n dX6_isMatch_4 rfl rfl ?_
  refine wp_iload_n dX6_isMatch_5 rfl rfl ?_
  refine wp_iconst (v := nI 0) dX6_isMatch_6 rfl ?_
  refine wp_callV (M2 := M_X3_canRow) (n := 3) (As := [.int (nI a), .int (nI b), .int (nI 0)]) (st := []) dX6_isMatch_7 (c_X3_canRow g D n hn (by omega) (nI a) (nI b) (nI 0)) ca_X6_113 ⟨nm_X3_canRow, by decide, by decide⟩ rfl (by decide) rfl rfl rfl (Nat.le_of_ble_eq_true rfl) (fun r612 E613 q614 => ?_)
  obtain ⟨rfl, rfl⟩ := q614
  show WP g _ _ _ (.int (sr_b (sr_canRow n (nI a) (nI b) (nI 0))) :: _) _ _
  refine wp_if_eq_b (tgt := 28) dX6_isMatch_10 (by decide) (fun c615 => ?_) (fun c615 => ?_)
  · have h1 := c615
    refine wp_iconst (v := nI 0) dX6_isMatch_28 rfl ?_
    refine wp_zret dX6_isMatch_29 rfl (Or.inl rfl) ⟨?_, rfl⟩
    unfold cl_mt
    rw [h1]; rfl
  · have h1 := c615
    refine wp_iload_n dX6_isMatch_13 rfl rfl ?_
    refine wp_iload_n dX6_isMatch_14 rfl rfl ?_
    refine wp_ineg dX6_isMatch_15 ?_
    refine wp_iand dX6_isMatch_16 ?_
    refine wp_iload_n dX6_isMatch_17 rfl rfl ?_
    refine wp_iload_n dX6_isMatch_18 rfl rfl ?_
    refine wp_ineg dX6_isMatch_19 ?_
    refine wp_iand dX6_isMatch_20 ?_
    refine wp_icmp_ge (tgt := 28) dX6_isMatch_21 (by decide) (fun c616 => ?_) (fun c616 => ?_)
    · have h2 := c616
      refine wp_iconst (v := nI 0) dX6_isMatch_28 rfl ?_
      refine wp_zret dX6_isMatch_29 rfl (Or.inl rfl) ⟨?_, rfl⟩
      unfold cl_mt
      rw [h1, decide_eq_false (by rw [Int32.lt_iff_toInt_lt]; rw [Int32.le_iff_toInt_le] at h2; omega)]; rfl
    · have h2 := c616
      refine wp_iconst (v := nI 1) dX6_isMatch_24 rfl ?_
      refine wp_goto (tgt := 29) dX6_isMatch_25 (by decide) ?_
      refine wp_zret dX6_isMatch_29 rfl (Or.inr rfl) ⟨?_, rfl⟩
      unfold cl_mt
      rw [h1, decide_eq_true (by rw [Int32.lt_iff_toInt_lt]; rw [Int32.le_iff_toInt_le] at h2; omega)]; rfl
