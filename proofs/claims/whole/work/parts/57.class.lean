theorem sr_bit_n {n : Nat} (hn : n ≤ 6) {a : Int32} (h : ∀ i, n ≤ i → a.toBitVec.getLsbD i = false) : ∃ x, x < 2 ^ n ∧ a = nI x := by
  refine ⟨a.toBitVec.toNat, ?_, ?_⟩
  · exact Nat.lt_pow_two_of_testBit _ (fun i hi => h i hi)
  · apply Int32.toBitVec_inj.mp
    show a.toBitVec = BitVec.ofNat 32 a.toBitVec.toNat
    rw [BitVec.ofNat_toNat, BitVec.setWidth_eq]
theorem sr_msk : ∀ n, n ≤ 6 → ∀ z, z < 2 ^ n → nI z &&& ((nI (1 * 2 ^ n) - nI 1) ^^^ (-1)) = 0 := by
  have h : ∀ n, n < 7 → ∀ z, z < 64 → z < 2 ^ n → nI z &&& ((nI (1 * 2 ^ n) - nI 1) ^^^ (-1)) = 0 := by decide +kernel
  intro n hn z hz
  exact h n (by omega) z (Nat.lt_of_lt_of_le hz (sr_pw hn)) hz
theorem sr_mbit : ∀ n, n ≤ 6 → ∀ i, n ≤ i → i < 32 → ((nI (1 * 2 ^ n) - nI 1) ^^^ (-1)).toBitVec.getLsbD i = true := by
  have h : ∀ n, n < 7 → ∀ i, i < 32 → n ≤ i → ((nI (1 * 2 ^ n) - nI 1) ^^^ (-1)).toBitVec.getLsbD i = true := by decide +kernel
  intro n hn i h1 h2
  exact h n (by omega) i h2 h1
theorem sr_in_mask {n : Nat} (hn : n ≤ 6) {a b : Int32} : (a ||| b) &&& ((nI (1 * 2 ^ n) - nI 1) ^^^ (-1)) = 0 ↔ ∃ x y, x < 2 ^ n ∧ y < 2 ^ n ∧ a = nI x ∧ b = nI y := by
  constructor
  · intro h
    have hb : ∀ i, n ≤ i → a.toBitVec.getLsbD i = false ∧ b.toBitVec.getLsbD i = false := by
      intro i hi
      by_cases h32 : i < 32
      · have e := congrArg (fun z : Int32 => z.toBitVec.getLsbD i) h
        simp only [Int32.toBitVec_and, Int32.toBitVec_or, BitVec.getLsbD_and, BitVec.getLsbD_or, sr_mbit n hn i hi h32, Bool.and_true] at e
        have e0 : (0 : Int32).toBitVec.getLsbD i = false := by simp
        rw [e0, Bool.or_eq_false_iff] at e
        exact e
      · exact ⟨BitVec.getLsbD_of_ge _ _ (by omega), BitVec.getLsbD_of_ge _ _ (by omega)⟩
    obtain ⟨x, hx, rfl⟩ := sr_bit_n hn (fun i hi => (hb i hi).1)
    obtain ⟨y, hy, rfl⟩ := sr_bit_n hn (fun i hi => (hb i hi).2)
    exact ⟨x, y, hx, hy, rfl, rfl⟩
  · rintro ⟨x, y, hx, hy, rfl, rfl⟩
    have e : nI x ||| nI y = nI (x ||| y) := by
      apply Int32.toBitVec_inj.mp
      show BitVec.ofNat 32 x ||| BitVec.ofNat 32 y = BitVec.ofNat 32 (x ||| y)
      rw [BitVec.ofNat_or]
    rw [e]
    exact sr_msk n hn _ (Nat.or_lt_two_pow hx hy)
theorem sr_nI_and {x y : Nat} : nI x &&& nI y = nI (x &&& y) := by
  apply Int32.toBitVec_inj.mp
  show BitVec.ofNat 32 x &&& BitVec.ofNat 32 y = BitVec.ofNat 32 (x &&& y)
  rw [BitVec.ofNat_and]
theorem sr_nI_inj {x y : Nat} (hx : x < 2 ^ 31) (hy : y < 2 ^ 31) : nI x = nI y ↔ x = y := by
  constructor
  · intro h
    have := congrArg Int32.toInt h
    rw [nI_toInt hx, nI_toInt hy] at this; omega
  · rintro rfl; rfl
theorem sr_bits_b : ∀ x, x < 64 → sr_bits x ≤ 6 ∧ (0 < x ↔ 1 ≤ sr_bits x) := by decide +kernel
theorem sr_canRow_eq {n : Nat} (hn : n ≤ 6) {a b t : Int32} : sr_canRow n a b t = (sr_crew n a b && sr_isIn t (-1) (nI 1)) := by
  have hpw := sr_pw hn
  rw [Bool.eq_iff_iff]
  unfold sr_canRow
  simp only [Bool.and_eq_true, decide_eq_true_eq, Bool.not_eq_true', decide_eq_false_iff_not]
  rw [sr_in_mask hn]
  have ht : (¬ t < -1 ∧ ¬ nI 1 < t) ↔ sr_isIn t (-1) (nI 1) = true := by
    unfold sr_isIn
    simp only [Bool.and_eq_true, decide_eq_true_eq, Int32.lt_iff_toInt_lt, Int32.le_iff_toInt_le]
    omega
  constructor
  · rintro ⟨⟨x, y, hx, hy, rfl, rfl⟩, h1, h2, h3, h4, h5, h6⟩
    refine ⟨?_, ht.mp ⟨h5, h6⟩⟩
    rw [sr_crew_n (by omega) (by omega)]
    have bx := sr_bits_b x (by omega)
    have by' := sr_bits_b y (by omega)
    rw [sr_nI_and, show (0 : Int32) = nI 0 from rfl, sr_nI_inj (Nat.lt_of_le_of_lt Nat.and_le_left (by omega)) (by decide)] at h1
    rw [sr_bc_n x (by omega), sr_bc_n y (by omega), sr_nI_inj (by omega) (by omega)] at h2
    rw [sr_bc_n x (by omega), Int32.lt_iff_toInt_lt, nI_toInt (by omega), nI_toInt (by decide)] at h3
    rw [sr_bc_n x (by omega), Int32.lt_iff_toInt_lt, nI_toInt (by decide), nI_toInt (by omega)] at h4
    unfold sr_crewN
    simp only [Bool.and_eq_true, decide_eq_true_eq]
    exact ⟨⟨⟨⟨⟨⟨by omega, by omega⟩, hx⟩, hy⟩, h1⟩, h2⟩, by omega⟩
  · rintro ⟨h, h7⟩
    unfold sr_crew at h
    simp only [Bool.and_eq_true, Bool.not_eq_true', decide_eq_false_iff_not] at h
    obtain ⟨⟨ha, hb⟩, h⟩ := h
    obtain ⟨x, hx, rfl⟩ := nI_of (x := a) ha
    obtain ⟨y, hy, rfl⟩ := nI_of (x := b) hb
    rw [nI_clamp hx, nI_clamp hy] at h
    unfold sr_crewN at h
    simp only [Bool.and_eq_true, decide_eq_true_eq] at h
    obtain ⟨⟨⟨⟨⟨⟨g1, g2⟩, g3⟩, g4⟩, g5⟩, g6⟩, g7⟩ := h
    have bx := sr_bits_b x (by omega)
    have by' := sr_bits_b y (by omega)
    refine ⟨⟨x, y, g3, g4, rfl, rfl⟩, ?_, ?_, ?_, ?_, (ht.mpr h7).1, (ht.mpr h7).2⟩
    · rw [sr_nI_and, g5]; rfl
    · rw [sr_bc_n x (by omega), sr_bc_n y (by omega), g6]
    · rw [sr_bc_n x (by omega), Int32.lt_iff_toInt_lt, nI_toInt (by omega), nI_toInt (by decide)]; omega
    · rw [sr_bc_n x (by omega), Int32.lt_iff_toInt_lt, nI_toInt (by decide), nI_toInt (by omega)]; omega
set_option maxHeartbeats 400000 in
set_option maxRecDepth 100000 in
theorem c_X6_areTwo (g : sr_G) (D : sr_St) (now : Nat → Int32) (n r : Nat) (hci : CI now n r D) (v w : Int32) : Con g M_X6_areTwo [.ref 0, .int v, .int w] D (fun qa D' => qa = some (.int (sr_b ((sr_row n v && sr_row n w) && !decide (v = w)))) ∧ cl_pr D D') := by
  refine Con.of pn_X6_areTwo (Nat.le_of_ble_eq_true rfl) ?_
  show WP g M_X6_areTwo 0 [(0, .ref 0), (1, .int v), (2, .int w)] [] D _
  have hn6 := hci.n6
  have hr12 := hci.r12
  refine wp_aload_n dX6_areTwo_0 rfl rfl ?_
  refine wp_getR (r := 1) dX6_areTwo_1 fl_X6_10 (by decide) rfl rfl rfl ?_
  refine wp_iload_n dX6_areTwo_4 rfl rfl ?_
  refine wp_callV (M2 := M_X3_hasRower) (n := 1) (As := [.int v]) (st := []) dX6_areTwo_5 (c_X3_hasRower1 g D n hci.2.1.1 (by omega) v) ca_X6_167 ⟨nm_X3_hasRower, by decide, by decide⟩ rfl (by decide) rfl rfl rfl (Nat.le_of_ble_eq_true rfl) (fun r399 E400 q401 => ?_)
  obtain ⟨rfl, rfl⟩ := q401
  show WP g _ _ _ (.int (sr_b (sr_isIn v (nI 0) (nI n - nI 1))) :: _) _ _
  refine wp_if_eq_b (tgt := 31) dX6_areTwo_8 (by decide) (fun c402 => ?_) (fun c402 => ?_)
  · have h1 := c402
    refine wp_iconst (v := nI 0) dX6_areTwo_31 rfl ?_
    refine wp_zret dX6_areTwo_32 rfl (Or.inl rfl) ⟨?_, cl_pr.rf⟩
    unfold sr_row
    rw [h1]; rfl
  · have h1 := c402
    refine wp_aload_n dX6_areTwo_11 rfl rfl ?_
    refine wp_getR (r := 1) dX6_areTwo_12 fl_X6_10 (by decide) rfl rfl rfl ?_
    refine wp_iload_n dX6_areTwo_15 rfl rfl ?_
    refine wp_callV (M2 := M_X3_hasRower) (n := 1) (As := [.int w]) (st := []) dX6_areTwo_16 (c_X3_hasRower1 g D n hci.2.1.1 (by omega) w) ca_X6_167 ⟨nm_X3_hasRower, by decide, by decide⟩ rfl (by decide) rfl rfl rfl (Nat.le_of_ble_eq_true rfl) (fun r403 E404 q405 => ?_)
    obtain ⟨rfl, rfl⟩ := q405
    show WP g _ _ _ (.int (sr_b (sr_isIn w (nI 0) (nI n - nI 1))) :: _) _ _
    refine wp_if_eq_b (tgt := 31) dX6_areTwo_19 (by decide) (fun c406 => ?_) (fun c406 => ?_)
    · have h2 := c406
      refine wp_iconst (v := nI 0) dX6_areTwo_31 rfl ?_
      refine wp_zret dX6_areTwo_32 rfl (Or.inl rfl) ⟨?_, cl_pr.rf⟩
      unfold sr_row
      rw [h1, h2]; rfl
    · have h2 := c406
      refine wp_iload_n dX6_areTwo_22 rfl rfl ?_
      refine wp_iload_n dX6_areTwo_23 rfl rfl ?_
      refine wp_icmp_eq (tgt := 31) dX6_areTwo_24 (by decide) (fun c407 => ?_) (fun c407 => ?_)
      · have h3 := c407
        refine wp_iconst (v := nI 0) dX6_areTwo_31 rfl ?_
        refine wp_zret dX6_areTwo_32 rfl (Or.inl rfl) ⟨?_, cl_pr.rf⟩
        unfold sr_row
        rw [h1, h2, decide_eq_true h3]; rfl
      · have h3 := c407
        refine wp_iconst (v := nI 1) dX6_areTwo_27 rfl ?_
        refine wp_goto (tgt := 32) dX6_areTwo_28 (by decide) ?_
        refine wp_zret dX6_areTwo_32 rfl (Or.inr rfl) ⟨?_, cl_pr.rf⟩
        unfold sr_row
        rw [h1, h2, decide_eq_false h3]; rfl
set_option maxHeartbeats 400000 in
set_option maxRecDepth 100000 in
theorem c_X6_difference (g : sr_G) (D : sr_St) (now : Nat → Int32) (n r : Nat) (hci : CI now n r D) (v w u : Int32) (hbd : ∀ a b s, a < 64 → b < 64 → sr_isIn s (-1) (nI 1) = true → cl_bd (cl_G now r) (cl_form a b s (nI 0))) : Con g M_X6_difference [.ref 0, .int v, .int w, .int u] D (fun qa D' => qa = some (.long (if (sr_row n v && sr_row n w) = true then cl_tf (cl_G now r) (cl_cf v.toNatClampNeg w.toNatClampNeg) (nI 0) u else -1000000000000000000)) ∧ cl_pr D D') := by
  refine Con.of pn_X6_difference (Nat.le_of_ble_eq_true rfl) ?_
  show WP g M_X6_difference 0 [(0, .ref 0), (1, .int v), (2, .int w), (3, .int u)] [] D _
  have hn6 := hci.n6
  have hr12 := hci.r12
  have hp2 : ∀ z, z < 6 → 2 ^ z ≤ 32 := fun z hz => Nat.le_trans (Nat.pow_le_pow_right (by decide) (show z ≤ 5 by omega)) (by decide)
  by_cases hok : (sr_row n v && sr_row n w) = true
  · obtain ⟨h1, h2⟩ := Bool.and_eq_true_iff.mp hok
    obtain ⟨x, hx, rfl⟩ := (sr_row_n hn6).mp h1
    obtain ⟨y, hy, rfl⟩ := (sr_row_n hn6).mp h2
    have hpx := hp2 x (by omega)
    have hpy := hp2 y (by omega)
    refine wp_aload_n dX6_difference_0 rfl rfl ?_
    refine wp_getR (r := 1) dX6_difference_1 fl_X6_10 (by decide) rfl rfl rfl ?_
    refine wp_iload_n dX6_difference_4 rfl rfl ?_
    refine wp_callV (M2 := M_X3_hasRower) (n := 1) (As := [.int (nI x)]) (st := []) dX6_difference_5 (c_X3_hasRower1 g D n hci.2.1.1 (by omega) (nI x)) ca_X6_167 ⟨nm_X3_hasRower, by decide, by decide⟩ rfl (by decide) rfl rfl rfl (Nat.le_of_ble_eq_true rfl) (fun r408 E409 q410 => ?_)
    obtain ⟨rfl, rfl⟩ := q410
    show WP g _ _ _ (.int (sr_b (sr_isIn (nI x) (nI 0) (nI n - nI 1))) :: _) _ _
    refine wp_if_eq_b (tgt := 22) dX6_difference_8 (by decide) (fun c411 => ?_) (fun c411 => ?_)
    · exact absurd h1 (by unfold sr_row; rw [c411]; decide)
    · refine wp_aload_n dX6_difference_11 rfl rfl ?_
      refine wp_getR (r := 1) dX6_difference_12 fl_X6_10 (by decide) rfl rfl rfl ?_
      refine wp_iload_n dX6_difference_15 rfl rfl ?_
      refine wp_callV (M2 := M_X3_hasRower) (n := 1) (As := [.int (nI y)]) (st := []) dX6_difference_16 (c_X3_hasRower1 g D n hci.2.1.1 (by omega) (nI y)) ca_X6_167 ⟨nm_X3_hasRower, by decide, by decide⟩ rfl (by decide) rfl rfl rfl (Nat.le_of_ble_eq_true rfl) (fun r412 E413 q414 => ?_)
      obtain ⟨rfl, rfl⟩ := q414
      show WP g _ _ _ (.int (sr_b (sr_isIn (nI y) (nI 0) (nI n - nI 1))) :: _) _ _
      refine wp_if_ne_b (tgt := 26) dX6_difference_19 (by decide) (fun c415 => ?_) (fun c415 => ?_)
      · refine wp_aload_n dX6_difference_26 rfl rfl ?_
        refine wp_iconst (v := nI 1) dX6_difference_27 rfl ?_
        refine wp_iload_n dX6_difference_28 rfl rfl ?_
        refine wp_ishl_n dX6_difference_29 (by omega) (sr_pw1 (by omega)) ?_
        refine wp_iconst (v := nI 1) dX6_difference_30 rfl ?_
        refine wp_iload_n dX6_difference_31 rfl rfl ?_
        refine wp_ishl_n dX6_difference_32 (by omega) (sr_pw1 (by omega)) ?_
        refine wp_iconst (v := nI 0) dX6_difference_33 rfl ?_
        refine wp_iconst (v := nI 0) dX6_difference_34 rfl ?_
        refine wp_iload_n dX6_difference_35 rfl rfl ?_
        refine wp_callV (M2 := M_X6_tellForm) (n := 5) (As := [.int (nI (1 * 2 ^ x)), .int (nI (1 * 2 ^ y)), .int (nI 0), .int (nI 0), .int u]) (st := []) dX6_difference_36 (c_X6_tellForm g D now n r hci (1 * 2 ^ x) (1 * 2 ^ y) (by omega) (by omega) (nI 0) (nI 0) u (hbd _ _ _ (by omega) (by omega) (by first | decide | exact (Bool.and_eq_true_iff.mp ((sr_canRow_eq hn6).symm.trans hok)).2))) ca_X6_172 ⟨nm_X6_tellForm, by decide, by decide⟩ rfl (by decide) rfl rfl rfl (Nat.le_of_ble_eq_true rfl) (fun r416 E417 q418 => ?_)
        obtain ⟨rfl, pr419⟩ := q418
        show WP g _ _ _ (.long (cl_tf (cl_G now r) (cl_form (1 * 2 ^ x) (1 * 2 ^ y) (nI 0) (nI 0)) (nI 0) u) :: _) _ _
        have pr420 := (cl_pr.rf).tr pr419
        refine wp_lret dX6_difference_39 rfl ⟨?_, pr420⟩
        rw [if_pos hok, nI_clamp (by omega), nI_clamp (by omega)]; rfl
      · exact absurd h2 (by unfold sr_row; rw [c415]; decide)
  · refine wp_aload_n dX6_difference_0 rfl rfl ?_
    refine wp_getR (r := 1) dX6_difference_1 fl_X6_10 (by decide) rfl rfl rfl ?_
    refine wp_iload_n dX6_difference_4 rfl rfl ?_
    refine wp_callV (M2 := M_X3_hasRower) (n := 1) (As := [.int v]) (st := []) dX6_difference_5 (c_X3_hasRower1 g D n hci.2.1.1 (by omega) v) ca_X6_167 ⟨nm_X3_hasRower, by decide, by decide⟩ rfl (by decide) rfl rfl rfl (Nat.le_of_ble_eq_true rfl) (fun r421 E422 q423 => ?_)
    obtain ⟨rfl, rfl⟩ := q423
    show WP g _ _ _ (.int (sr_b (sr_isIn v (nI 0) (nI n - nI 1))) :: _) _ _
    refine wp_if_eq_b (tgt := 22) dX6_difference_8 (by decide) (fun c424 => ?_) (fun c424 => ?_)
    · refine wp_ldc2 (v := -1000000000000000000) dX6_difference_22 ct_X6_170 ?_
      refine wp_lret dX6_difference_25 rfl ⟨?_, cl_pr.rf⟩
      rw [if_neg hok]
    · have h1 := c424
      refine wp_aload_n dX6_difference_11 rfl rfl ?_
      refine wp_getR (r := 1) dX6_difference_12 fl_X6_10 (by decide) rfl rfl rfl ?_
      refine wp_iload_n dX6_difference_15 rfl rfl ?_
      refine wp_callV (M2 := M_X3_hasRower) (n := 1) (As := [.int w]) (st := []) dX6_difference_16 (c_X3_hasRower1 g D n hci.2.1.1 (by omega) w) ca_X6_167 ⟨nm_X3_hasRower, by decide, by decide⟩ rfl (by decide) rfl rfl rfl (Nat.le_of_ble_eq_true rfl) (fun r425 E426 q427 => ?_)
      obtain ⟨rfl, rfl⟩ := q427
      show WP g _ _ _ (.int (sr_b (sr_isIn w (nI 0) (nI n - nI 1))) :: _) _ _
      refine wp_if_ne_b (tgt := 26) dX6_difference_19 (by decide) (fun c428 => ?_) (fun c428 => ?_)
      · exact absurd (by unfold sr_row; rw [h1, c428]; rfl) hok
      · refine wp_ldc2 (v := -1000000000000000000) dX6_difference_22 ct_X6_170 ?_
        refine wp_lret dX6_difference_25 rfl ⟨?_, cl_pr.rf⟩
        rw [if_neg hok]
set_option maxHeartbeats 400000 in
set_option maxRecDepth 100000 in
theorem c_X6_doubt (g : sr_G) (D : sr_St) (now : Nat → Int32) (n r : Nat) (hci : CI now n r D) (v w u : Int32) (hbd : ∀ a b s, a < 64 → b < 64 → sr_isIn s (-1) (nI 1) = true → cl_bd (cl_G now r) (cl_form a b s (nI 0))) : Con g M_X6_doubt [.ref 0, .int v, .int w, .int u] D (fun qa D' => qa = some (.long (if (sr_row n v && sr_row n w) = true then cl_tf (cl_G now r) (cl_cf v.toNatClampNeg w.toNatClampNeg) (nI 1) u else -1000000000000000000)) ∧ cl_pr D D') := by
  refine Con.of pn_X6_doubt (Nat.le_of_ble_eq_true rfl) ?_
  show WP g M_X6_doubt 0 [(0, .ref 0), (1, .int v), (2, .int w), (3, .int u)] [] D _
  have hn6 := hci.n6
  have hr12 := hci.r12
  have hp2 : ∀ z, z < 6 → 2 ^ z ≤ 32 := fun z hz => Nat.le_trans (Nat.pow_le_pow_right (by decide) (show z ≤ 5 by omega)) (by decide)
  by_cases hok : (sr_row n v && sr_row n w) = true
  · obtain ⟨h1, h2⟩ := Bool.and_eq_true_iff.mp hok
    obtain ⟨x, hx, rfl⟩ := (sr_row_n hn6).mp h1
    obtain ⟨y, hy, rfl⟩ := (sr_row_n hn6).mp h2
    have hpx := hp2 x (by omega)
    have hpy := hp2 y (by omega)
    refine wp_aload_n dX6_doubt_0 rfl rfl ?_
    refine wp_getR (r := 1) dX6_doubt_1 fl_X6_10 (by decide) rfl rfl rfl ?_
    refine wp_iload_n dX6_doubt_4 rfl rfl ?_
    refine wp_callV (M2 := M_X3_hasRower) (n := 1) (As := [.int (nI x)]) (st := []) dX6_doubt_5 (c_X3_hasRower1 g D n hci.2.1.1 (by omega) (nI x)) ca_X6_167 ⟨nm_X3_hasRower, by decide, by decide⟩ rfl (by decide) rfl rfl rfl (Nat.le_of_ble_eq_true rfl) (fun r429 E430 q431 => ?_)
    obtain ⟨rfl, rfl⟩ := q431
    show WP g _ _ _ (.int (sr_b (sr_isIn (nI x) (nI 0) (nI n - nI 1))) :: _) _ _
    refine wp_if_eq_b (tgt := 22) dX6_doubt_8 (by decide) (fun c432 => ?_) (fun c432 => ?_)
    · exact absurd h1 (by unfold sr_row; rw [c432]; decide)
    · refine wp_aload_n dX6_doubt_11 rfl rfl ?_
      refine wp_getR (r := 1) dX6_doubt_12 fl_X6_10 (by decide) rfl rfl rfl ?_
      refine wp_iload_n dX6_doubt_15 rfl rfl ?_
      refine wp_callV (M2 := M_X3_hasRower) (n := 1) (As := [.int (nI y)]) (st := []) dX6_doubt_16 (c_X3_hasRower1 g D n hci.2.1.1 (by omega) (nI y)) ca_X6_167 ⟨nm_X3_hasRower, by decide, by decide⟩ rfl (by decide) rfl rfl rfl (Nat.le_of_ble_eq_true rfl) (fun r433 E434 q435 => ?_)
      obtain ⟨rfl, rfl⟩ := q435
      show WP g _ _ _ (.int (sr_b (sr_isIn (nI y) (nI 0) (nI n - nI 1))) :: _) _ _
      refine wp_if_ne_b (tgt := 26) dX6_doubt_19 (by decide) (fun c436 => ?_) (fun c436 => ?_)
      · refine wp_aload_n dX6_doubt_26 rfl rfl ?_
        refine wp_iconst (v := nI 1) dX6_doubt_27 rfl ?_
        refine wp_iload_n dX6_doubt_28 rfl rfl ?_
        refine wp_ishl_n dX6_doubt_29 (by omega) (sr_pw1 (by omega)) ?_
        refine wp_iconst (v := nI 1) dX6_doubt_30 rfl ?_
        refine wp_iload_n dX6_doubt_31 rfl rfl ?_
        refine wp_ishl_n dX6_doubt_32 (by omega) (sr_pw1 (by omega)) ?_
        refine wp_iconst (v := nI 0) dX6_doubt_33 rfl ?_
        refine wp_iconst (v := nI 1) dX6_doubt_34 rfl ?_
        refine wp_iload_n dX6_doubt_35 rfl rfl ?_
        refine wp_callV (M2 := M_X6_tellForm) (n := 5) (As := [.int (nI (1 * 2 ^ x)), .int (nI (1 * 2 ^ y)), .int (nI 0), .int (nI 1), .int u]) (st := []) dX6_doubt_36 (c_X6_tellForm g D now n r hci (1 * 2 ^ x) (1 * 2 ^ y) (by omega) (by omega) (nI 0) (nI 1) u (hbd _ _ _ (by omega) (by omega) (by first | decide | exact (Bool.and_eq_true_iff.mp ((sr_canRow_eq hn6).symm.trans hok)).2))) ca_X6_172 ⟨nm_X6_tellForm, by decide, by decide⟩ rfl (by decide) rfl rfl rfl (Nat.le_of_ble_eq_true rfl) (fun r437 E438 q439 => ?_)
        obtain ⟨rfl, pr440⟩ := q439
        show WP g _ _ _ (.long (cl_tf (cl_G now r) (cl_form (1 * 2 ^ x) (1 * 2 ^ y) (nI 0) (nI 0)) (nI 1) u) :: _) _ _
        have pr441 := (cl_pr.rf).tr pr440
        refine wp_lret dX6_doubt_39 rfl ⟨?_, pr441⟩
        rw [if_pos hok, nI_clamp (by omega), nI_clamp (by omega)]; rfl
      · exact absurd h2 (by unfold sr_row; rw [c436]; decide)
  · refine wp_aload_n dX6_doubt_0 rfl rfl ?_
    refine wp_getR (r := 1) dX6_doubt_1 fl_X6_10 (by decide) rfl rfl rfl ?_
    refine wp_iload_n dX6_doubt_4 rfl rfl ?_
    refine wp_callV (M2 := M_X3_hasRower) (n := 1) (As := [.int v]) (st := []) dX6_doubt_5 (c_X3_hasRower1 g D n hci.2.1.1 (by omega) v) ca_X6_167 ⟨nm_X3_hasRower, by decide, by decide⟩ rfl (by decide) rfl rfl rfl (Nat.le_of_ble_eq_true rfl) (fun r442 E443 q444 => ?_)
    obtain ⟨rfl, rfl⟩ := q444
    show WP g _ _ _ (.int (sr_b (sr_isIn v (nI 0) (nI n - nI 1))) :: _) _ _
    refine wp_if_eq_b (tgt := 22) dX6_doubt_8 (by decide) (fun c445 => ?_) (fun c445 => ?_)
    · refine wp_ldc2 (v := -1000000000000000000) dX6_doubt_22 ct_X6_170 ?_
      refine wp_lret dX6_doubt_25 rfl ⟨?_, cl_pr.rf⟩
      rw [if_neg hok]
    · have h1 := c445
      refine wp_aload_n dX6_doubt_11 rfl rfl ?_
      refine wp_getR (r := 1) dX6_doubt_12 fl_X6_10 (by decide) rfl rfl rfl ?_
      refine wp_iload_n dX6_doubt_15 rfl rfl ?_
      refine wp_callV (M2 := M_X3_hasRower) (n := 1) (As := [.int w]) (st := []) dX6_doubt_16 (c_X3_hasRower1 g D n hci.2.1.1 (by omega) w) ca_X6_167 ⟨nm_X3_hasRower, by decide, by decide⟩ rfl (by decide) rfl rfl rfl (Nat.le_of_ble_eq_true rfl) (fun r446 E447 q448 => ?_)
      obtain ⟨rfl, rfl⟩ := q448
      show WP g _ _ _ (.int (sr_b (sr_isIn w (nI 0) (nI n - nI 1))) :: _) _ _
      refine wp_if_ne_b (tgt := 26) dX6_doubt_19 (by decide) (fun c449 => ?_) (fun c449 => ?_)
      · exact absurd (by unfold sr_row; rw [h1, c449]; rfl) hok
      · refine wp_ldc2 (v := -1000000000000000000) dX6_doubt_22 ct_X6_170 ?_
        refine wp_lret dX6_doubt_25 rfl ⟨?_, cl_pr.rf⟩
        rw [if_neg hok]
set_option maxHeartbeats 400000 in
set_option maxRecDepth 100000 in
theorem c_X6_drift (g : sr_G) (D : sr_St) (now : Nat → Int32) (n r : Nat) (hci : CI now n r D) (u : Int32) (hbd : ∀ a b s, a < 64 → b < 64 → sr_isIn s (-1) (nI 1) = true → cl_bd (cl_G now r) (cl_form a b s (nI 0))) : Con g M_X6_drift [.ref 0, .int u] D (fun qa D' => qa = some (.long (cl_tf (cl_G now r) (cl_form 0 0 (nI 1) (nI 0)) (nI 0) u)) ∧ cl_pr D D') := by
  refine Con.of pn_X6_drift (Nat.le_of_ble_eq_true rfl) ?_
  show WP g M_X6_drift 0 [(0, .ref 0), (1, .int u)] [] D _
  have hn6 := hci.n6
  have hr12 := hci.r12
  refine wp_aload_n dX6_drift_0 rfl rfl ?_
  refine wp_iconst (v := nI 0) dX6_drift_1 rfl ?_
  refine wp_iconst (v := nI 0) dX6_drift_2 rfl ?_
  refine wp_iconst (v := nI 1) dX6_drift_3 rfl ?_
  refine wp_iconst (v := nI 0) dX6_drift_4 rfl ?_
  refine wp_iload_n dX6_drift_5 rfl rfl ?_
  refine wp_callV (M2 := M_X6_tellForm) (n := 5) (As := [.int (nI 0), .int (nI 0), .int (nI 1), .int (nI 0), .int u]) (st := []) dX6_drift_6 (c_X6_tellForm g D now n r hci 0 0 (by omega) (by omega) (nI 1) (nI 0) u (hbd _ _ _ (by omega) (by omega) (by first | decide | exact (Bool.and_eq_true_iff.mp ((sr_canRow_eq hn6).symm.trans hok)).2))) ca_X6_172 ⟨nm_X6_tellForm, by decide, by decide⟩ rfl (by decide) rfl rfl rfl (Nat.le_of_ble_eq_true rfl) (fun r450 E451 q452 => ?_)
  obtain ⟨rfl, pr453⟩ := q452
  show WP g _ _ _ (.long (cl_tf (cl_G now r) (cl_form 0 0 (nI 1) (nI 0)) (nI 0) u) :: _) _ _
  have pr454 := (cl_pr.rf).tr pr453
  refine wp_lret dX6_drift_9 rfl ⟨?_, pr454⟩
  rfl
set_option maxHeartbeats 400000 in
set_option maxRecDepth 100000 in
theorem c_X6_rest (g : sr_G) (D : sr_St) (now : Nat → Int32) (n r : Nat) (hci : CI now n r D) (v u : Int32) (hrs : ∀ q, q < r → -(2 ^ 63 : Int) < (cl_rs now r q).toInt) : Con g M_X6_rest [.ref 0, .int v, .int u] D (fun qa D' => qa = some (.long (if sr_row r v = true then sr_told (cl_rs now r v.toNatClampNeg) (cl_by (cl_G now r)) u else -1000000000000000000)) ∧ cl_pr D D') := by
  refine Con.of pn_X6_rest (Nat.le_of_ble_eq_true rfl) ?_
  show WP g M_X6_rest 0 [(0, .ref 0), (1, .int v), (2, .int u)] [] D _
  have hn6 := hci.n6
  have hr12 := hci.r12
  by_cases hok : sr_row r v = true
  · obtain ⟨x, hx, rfl⟩ := (sr_in_n (by omega)).mp hok
    refine wp_aload_n dX6_rest_0 rfl rfl ?_
    refine wp_getR (r := 1) dX6_rest_1 fl_X6_10 (by decide) rfl rfl rfl ?_
    refine wp_iload_n dX6_rest_4 rfl rfl ?_
    refine wp_callV (M2 := M_X3_hasRace) (n := 1) (As := [.int (nI x)]) (st := []) dX6_rest_5 (c_X3_hasRace1 g D r hci.2.1.2.2.1 (by omega) (nI x)) ca_X6_126 ⟨nm_X3_hasRace, by decide, by decide⟩ rfl (by decide) rfl rfl rfl (Nat.le_of_ble_eq_true rfl) (fun r455 E456 q457 => ?_)
    obtain ⟨rfl, rfl⟩ := q457
    show WP g _ _ _ (.int (sr_b (sr_isIn (nI x) (nI 0) (nI r - nI 1))) :: _) _ _
    refine wp_if_ne_b (tgt := 15) dX6_rest_8 (by decide) (fun c458 => ?_) (fun c458 => ?_)
    · refine wp_aload_n dX6_rest_15 rfl rfl ?_
      refine wp_aload_n dX6_rest_16 rfl rfl ?_
      refine wp_iload_n dX6_rest_17 rfl rfl ?_
      refine wp_callV (M2 := M_X6_scaledRest) (n := 1) (As := [.int (nI x)]) (st := [.ref 0]) dX6_rest_18 (c_X6_scaledRest g D now n r hci x (by omega)) ca_X6_176 ⟨nm_X6_scaledRest, by decide, by decide⟩ rfl (by decide) rfl rfl rfl (Nat.le_of_ble_eq_true rfl) (fun r459 E460 q461 => ?_)
      obtain ⟨rfl, pr462⟩ := q461
      show WP g _ _ _ (.long (cl_rs now r x) :: _) _ _
      have pr463 := (cl_pr.rf).tr pr462
      refine wp_aload_n dX6_rest_21 rfl rfl ?_
      refine wp_getR (r := 14) dX6_rest_22 fl_X6_26 (by decide) rfl rfl rfl ?_
      refine wp_getJ dX6_rest_25 fl_X6_180 (by decide) rfl rfl ?_
      rw [(hci.pr pr463).2.2.2.2.1]
      show WP g _ _ _ (.long (cl_by (cl_G now r)) :: _) _ _
      refine wp_iload_n dX6_rest_28 rfl rfl ?_
      refine wp_callV (M2 := M_X6_tellFraction) (n := 3) (As := [.long (cl_rs now r x), .long (cl_by (cl_G now r)), .int u]) (st := []) dX6_rest_29 (c_X6_tellFraction g E460 (cl_rs now r x) (cl_by (cl_G now r)) (hrs _ (by omega)) (cl_go_pos 7).1 u) ca_X6_184 ⟨nm_X6_tellFraction, by decide, by decide⟩ rfl (by decide) rfl rfl rfl (Nat.le_of_ble_eq_true rfl) (fun r464 E465 q466 => ?_)
      obtain ⟨rfl, pr467⟩ := q466
      show WP g _ _ _ (.long (sr_told (cl_rs now r x) (cl_by (cl_G now r)) u) :: _) _ _
      have pr468 := (pr463).tr pr467
      refine wp_lret dX6_rest_32 rfl ⟨?_, pr468⟩
      rw [if_pos hok, nI_clamp (by omega)]
    · exact absurd hok (by unfold sr_row; rw [c458]; decide)
  · refine wp_aload_n dX6_rest_0 rfl rfl ?_
    refine wp_getR (r := 1) dX6_rest_1 fl_X6_10 (by decide) rfl rfl rfl ?_
    refine wp_iload_n dX6_rest_4 rfl rfl ?_
    refine wp_callV (M2 := M_X3_hasRace) (n := 1) (As := [.int v]) (st := []) dX6_rest_5 (c_X3_hasRace1 g D r hci.2.1.2.2.1 (by omega) v) ca_X6_126 ⟨nm_X3_hasRace, by decide, by decide⟩ rfl (by decide) rfl rfl rfl (Nat.le_of_ble_eq_true rfl) (fun r469 E470 q471 => ?_)
    obtain ⟨rfl, rfl⟩ := q471
    show WP g _ _ _ (.int (sr_b (sr_isIn v (nI 0) (nI r - nI 1))) :: _) _ _
    refine wp_if_ne_b (tgt := 15) dX6_rest_8 (by decide) (fun c472 => ?_) (fun c472 => ?_)
    · exact absurd c472 hok
    · refine wp_ldc2 (v := -1000000000000000000) dX6_rest_11 ct_X6_170 ?_
      refine wp_lret dX6_rest_14 rfl ⟨?_, cl_pr.rf⟩
      rw [if_neg hok]
set_option maxHeartbeats 400000 in
set_option maxRecDepth 100000 in
theorem c_X6_sum (g : sr_G) (D : sr_St) (now : Nat → Int32) (n r : Nat) (hci : CI now n r D) (u : Int32) (hsu : -(2 ^ 63 : Int) < (cl_sum (cl_G now r)).toInt) : Con g M_X6_sum [.ref 0, .int u] D (fun qa D' => qa = some (.long (sr_told (cl_sum (cl_G now r)) (cl_by (cl_G now r)) u)) ∧ cl_pr D D') := by
  refine Con.of pn_X6_sum (Nat.le_of_ble_eq_true rfl) ?_
  show WP g M_X6_sum 0 [(0, .ref 0), (1, .int u)] [] D _
  have hn6 := hci.n6
  have hr12 := hci.r12
  refine wp_aload_n dX6_sum_0 rfl rfl ?_
  refine wp_aload_n dX6_sum_1 rfl rfl ?_
  refine wp_getR (r := 14) dX6_sum_2 fl_X6_26 (by decide) rfl rfl rfl ?_
  refine wp_callV (M2 := M_X1_scaledSum) (n := 0) (As := []) (st := [.ref 0]) dX6_sum_5 (c_X1_scaledSum14 g D (cl_G now r) hci.2.2.2) ca_X6_188 ⟨nm_X1_scaledSum, by decide, by decide⟩ rfl (by decide) rfl rfl rfl (Nat.le_of_ble_eq_true rfl) (fun r473 E474 q475 => ?_)
  obtain ⟨rfl, rfl⟩ := q475
  show WP g _ _ _ (.long (cl_sum (cl_G now r)) :: _) _ _
  refine wp_aload_n dX6_sum_8 rfl rfl ?_
  refine wp_getR (r := 14) dX6_sum_9 fl_X6_26 (by decide) rfl rfl rfl ?_
  refine wp_getJ dX6_sum_12 fl_X6_180 (by decide) rfl rfl ?_
  rw [hci.2.2.2.2.1]
  show WP g _ _ _ (.long (cl_by (cl_G now r)) :: _) _ _
  refine wp_iload_n dX6_sum_15 rfl rfl ?_
  refine wp_callV (M2 := M_X6_tellFraction) (n := 3) (As := [.long (cl_sum (cl_G now r)), .long (cl_by (cl_G now r)), .int u]) (st := []) dX6_sum_16 (c_X6_tellFraction g D (cl_sum (cl_G now r)) (cl_by (cl_G now r)) (hsu) (cl_go_pos 7).1 u) ca_X6_184 ⟨nm_X6_tellFraction, by decide, by decide⟩ rfl (by decide) rfl rfl rfl (Nat.le_of_ble_eq_true rfl) (fun r476 E477 q478 => ?_)
  obtain ⟨rfl, pr479⟩ := q478
  show WP g _ _ _ (.long (sr_told (cl_sum (cl_G now r)) (cl_by (cl_G now r)) u) :: _) _ _
  have pr480 := (cl_pr.rf).tr pr479
  refine wp_lret dX6_sum_19 rfl ⟨?_, pr480⟩
  rfl
set_option maxHeartbeats 400000 in
set_option maxRecDepth 100000 in
theorem c_X6_guess (g : sr_G) (D : sr_St) (now : Nat → Int32) (n r : Nat) (hci : CI now n r D) (v w s d u : Int32) (hbd : ∀ a b s, a < 64 → b < 64 → sr_isIn s (-1) (nI 1) = true → cl_bd (cl_G now r) (cl_form a b s (nI 0))) : Con g M_X6_guess [.ref 0, .int v, .int w, .int s, .int d, .int u] D (fun qa D' => qa = some (.long (if sr_canRow n v w s = true then cl_tf (cl_G now r) (cl_form v.toNatClampNeg w.toNatClampNeg s (nI 0)) d u else -1000000000000000000)) ∧ cl_pr D D') := by
  refine Con.of pn_X6_guess (Nat.le_of_ble_eq_true rfl) ?_
  show WP g M_X6_guess 0 [(0, .ref 0), (1, .int v), (2, .int w), (3, .int s), (4, .int d), (5, .int u)] [] D _
  have hn6 := hci.n6
  have hr12 := hci.r12
  by_cases hok : sr_canRow n v w s = true
  · have hc : ∃ x y, x < 64 ∧ y < 64 ∧ v = nI x ∧ w = nI y := by
      have h := hok
      unfold sr_canRow at h
      have h2 := of_decide_eq_true (Bool.and_eq_true_iff.mp h).1
      obtain ⟨x, y, hx, hy, e1, e2⟩ := (sr_in_mask hn6).mp h2
      have hpw := sr_pw hn6
      exact ⟨x, y, by omega, by omega, e1, e2⟩
    obtain ⟨x, y, hx, hy, rfl, rfl⟩ := hc
    refine wp_aload_n dX6_guess_0 rfl rfl ?_
    refine wp_getR (r := 1) dX6_guess_1 fl_X6_10 (by decide) rfl rfl rfl ?_
    refine wp_iload_n dX6_guess_4 rfl rfl ?_
    refine wp_iload_n dX6_guess_5 rfl rfl ?_
    refine wp_iload_n dX6_guess_6 rfl rfl ?_
    refine wp_callV (M2 := M_X3_canRow) (n := 3) (As := [.int (nI x), .int (nI y), .int s]) (st := []) dX6_guess_7 (c_X3_canRow g D n hci.2.1.1 (by omega) (nI x) (nI y) s) ca_X6_113 ⟨nm_X3_canRow, by decide, by decide⟩ rfl (by decide) rfl rfl rfl (Nat.le_of_ble_eq_true rfl) (fun r481 E482 q483 => ?_)
    obtain ⟨rfl, rfl⟩ := q483
    show WP g _ _ _ (.int (sr_b (sr_canRow n (nI x) (nI y) s)) :: _) _ _
    refine wp_if_ne_b (tgt := 17) dX6_guess_10 (by decide) (fun c484 => ?_) (fun c484 => ?_)
    · refine wp_aload_n dX6_guess_17 rfl rfl ?_
      refine wp_iload_n dX6_guess_18 rfl rfl ?_
      refine wp_iload_n dX6_guess_19 rfl rfl ?_
      refine wp_iload_n dX6_guess_20 rfl rfl ?_
      refine wp_iload dX6_guess_21 rfl ?_
      refine wp_iload dX6_guess_23 rfl ?_
      refine wp_callV (M2 := M_X6_tellForm) (n := 5) (As := [.int (nI x), .int (nI y), .int s, .int d, .int u]) (st := []) dX6_guess_25 (c_X6_tellForm g D now n r hci x y (by omega) (by omega) s d u (hbd _ _ _ (by omega) (by omega) (by first | decide | exact (Bool.and_eq_true_iff.mp ((sr_canRow_eq hn6).symm.trans hok)).2))) ca_X6_172 ⟨nm_X6_tellForm, by decide, by decide⟩ rfl (by decide) rfl rfl rfl (Nat.le_of_ble_eq_true rfl) (fun r485 E486 q487 => ?_)
      obtain ⟨rfl, pr488⟩ := q487
      show WP g _ _ _ (.long (cl_tf (cl_G now r) (cl_form x y s (nI 0)) d u) :: _) _ _
      have pr489 := (cl_pr.rf).tr pr488
      refine wp_lret dX6_guess_28 rfl ⟨?_, pr489⟩
      rw [if_pos hok, nI_clamp (by omega), nI_clamp (by omega)]
    · exact absurd hok (by rw [c484]; decide)
  · refine wp_aload_n dX6_guess_0 rfl rfl ?_
    refine wp_getR (r := 1) dX6_guess_1 fl_X6_10 (by decide) rfl rfl rfl ?_
    refine wp_iload_n dX6_guess_4 rfl rfl ?_
    refine wp_iload_n dX6_guess_5 rfl rfl ?_
    refine wp_iload_n dX6_guess_6 rfl rfl ?_
    refine wp_callV (M2 := M_X3_canRow) (n := 3) (As := [.int v, .int w, .int s]) (st := []) dX6_guess_7 (c_X3_canRow g D n hci.2.1.1 (by omega) v w s) ca_X6_113 ⟨nm_X3_canRow, by decide, by decide⟩ rfl (by decide) rfl rfl rfl (Nat.le_of_ble_eq_true rfl) (fun r490 E491 q492 => ?_)
    obtain ⟨rfl, rfl⟩ := q492
    show WP g _ _ _ (.int (sr_b (sr_canRow n v w s)) :: _) _ _
    refine wp_if_ne_b (tgt := 17) dX6_guess_10 (by decide) (fun c493 => ?_) (fun c493 => ?_)
    · exact absurd c493 hok
    · refine wp_ldc2 (v := -1000000000000000000) dX6_guess_13 ct_X6_170 ?_
      refine wp_lret dX6_guess_16 rfl ⟨?_, cl_pr.rf⟩
      rw [if_neg hok]
def cl_rank (Y : cl_T) (now : Nat → Int32) (n x : Nat) (w : Int32) : Int32 := if w = nI 0 then sr_bc (nI (cl_th Y x (nI 0) n)) else if w = nI 1 then sr_bc (nI (cl_th Y x (now 1) n)) else if w = nI 2 then nI (cl_be Y x (now 1) n) else if w = nI 3 then nI (cl_gr Y x n) else -1
set_option maxHeartbeats 400000 in
set_option maxRecDepth 100000 in
theorem c_X6_rank (g : sr_G) (D : sr_St) (now : Nat → Int32) (n r : Nat) (hci : CI now n r D) (v w : Int32) : Con g M_X6_rank [.ref 0, .int v, .int w] D (fun qa D' => qa = some (.int (if sr_row n v = true then cl_rank (cl_G now r) now n v.toNatClampNeg w else -1)) ∧ cl_pr D D') := by
  refine Con.of pn_X6_rank (Nat.le_of_ble_eq_true rfl) ?_
  show WP g M_X6_rank 0 [(0, .ref 0), (1, .int v), (2, .int w)] [] D _
  have hn6 := hci.n6
  have hr12 := hci.r12
  by_cases hok : sr_row n v = true
  · obtain ⟨x, hx, rfl⟩ := (sr_row_n hn6).mp hok
    refine wp_aload_n dX6_rank_0 rfl rfl ?_
    refine wp_getR (r := 1) dX6_rank_1 fl_X6_10 (by decide) rfl rfl rfl ?_
    refine wp_iload_n dX6_rank_4 rfl rfl ?_
    refine wp_callV (M2 := M_X3_hasRower) (n := 1) (As := [.int (nI x)]) (st := []) dX6_rank_5 (c_X3_hasRower1 g D n hci.2.1.1 (by omega) (nI x)) ca_X6_167 ⟨nm_X3_hasRower, by decide, by decide⟩ rfl (by decide) rfl rfl rfl (Nat.le_of_ble_eq_true rfl) (fun r494 E495 q496 => ?_)
    obtain ⟨rfl, rfl⟩ := q496
    show WP g _ _ _ (.int (sr_b (sr_isIn (nI x) (nI 0) (nI n - nI 1))) :: _) _ _
    refine wp_if_ne_b (tgt := 13) dX6_rank_8 (by decide) (fun c497 => ?_) (fun c497 => ?_)
    · refine wp_iload_n dX6_rank_13 rfl rfl ?_
      by_cases hw498 : w = nI 0
      · subst hw498
        refine wp_tableIn (off := 30) (tgt := 44) dX6_rank_14 (by decide) (by decide) rfl (by decide) ?_
        refine wp_aload_n dX6_rank_44 rfl rfl ?_
        refine wp_iload_n dX6_rank_45 rfl rfl ?_
        refine wp_iconst (v := nI 0) dX6_rank_46 rfl ?_
        refine wp_callV (M2 := M_X6_thoseAheadOf) (n := 2) (As := [.int (nI x), .int (nI 0)]) (st := []) dX6_rank_47 (c_X6_thoseAheadOf g D now n r hci x (by omega) (nI 0)) ca_X6_192 ⟨nm_X6_thoseAheadOf, by decide, by decide⟩ rfl (by decide) rfl rfl rfl (Nat.le_of_ble_eq_true rfl) (fun r499 E500 q501 => ?_)
        obtain ⟨rfl, pr502⟩ := q501
        show WP g _ _ _ (.int (nI (cl_th (cl_G now r) x (nI 0) n)) :: _) _ _
        have pr503 := (cl_pr.rf).tr pr502
        refine wp_callS (M2 := M_J6_bitCount_0f7a4) (n := 1) (As := [.int (nI (cl_th (cl_G now r) x (nI 0) n))]) (st := []) dX6_rank_50 (c_J6_bitCount_0f7a4 g E500 (nI (cl_th (cl_G now r) x (nI 0) n))) ca_X6_196 ⟨nm_J6_bitCount_0f7a4, by decide, by decide⟩ rfl rfl (Nat.le_of_ble_eq_true rfl) (fun r504 E505 q506 => ?_)
        obtain ⟨rfl, rfl⟩ := q506
        show WP g _ _ _ (.int (sr_bc (nI (cl_th (cl_G now r) x (nI 0) n))) :: _) _ _
        refine wp_iret dX6_rank_53 rfl ⟨?_, pr503⟩
        rw [if_pos hok, nI_clamp (by omega)]; unfold cl_rank
        rw [if_pos rfl]
      by_cases hw507 : w = nI 1
      · subst hw507
        refine wp_tableIn (off := 40) (tgt := 54) dX6_rank_14 (by decide) (by decide) rfl (by decide) ?_
        refine wp_aload_n dX6_rank_54 rfl rfl ?_
        refine wp_iload_n dX6_rank_55 rfl rfl ?_
        refine wp_aload_n dX6_rank_56 rfl rfl ?_
        refine wp_getR (r := 1) dX6_rank_57 fl_X6_10 (by decide) rfl rfl rfl ?_
        refine wp_getI dX6_rank_60 fl_X6_110 (by decide) rfl rfl ?_
        rw [hci.2.1.2.1]
        refine wp_callV (M2 := M_X6_thoseAheadOf) (n := 2) (As := [.int (nI x), .int (now 1)]) (st := []) dX6_rank_63 (c_X6_thoseAheadOf g D now n r hci x (by omega) (now 1)) ca_X6_192 ⟨nm_X6_thoseAheadOf, by decide, by decide⟩ rfl (by decide) rfl rfl rfl (Nat.le_of_ble_eq_true rfl) (fun r508 E509 q510 => ?_)
        obtain ⟨rfl, pr511⟩ := q510
        show WP g _ _ _ (.int (nI (cl_th (cl_G now r) x (now 1) n)) :: _) _ _
        have pr512 := (cl_pr.rf).tr pr511
        refine wp_callS (M2 := M_J6_bitCount_0f7a4) (n := 1) (As := [.int (nI (cl_th (cl_G now r) x (now 1) n))]) (st := []) dX6_rank_66 (c_J6_bitCount_0f7a4 g E509 (nI (cl_th (cl_G now r) x (now 1) n))) ca_X6_196 ⟨nm_J6_bitCount_0f7a4, by decide, by decide⟩ rfl rfl (Nat.le_of_ble_eq_true rfl) (fun r513 E514 q515 => ?_)
        obtain ⟨rfl, rfl⟩ := q515
        show WP g _ _ _ (.int (sr_bc (nI (cl_th (cl_G now r) x (now 1) n))) :: _) _ _
        refine wp_iret dX6_rank_69 rfl ⟨?_, pr512⟩
        rw [if_pos hok, nI_clamp (by omega)]; unfold cl_rank
        rw [if_neg (by decide), if_pos rfl]
      by_cases hw516 : w = nI 2
      · subst hw516
        refine wp_tableIn (off := 56) (tgt := 70) dX6_rank_14 (by decide) (by decide) rfl (by decide) ?_
        refine wp_aload_n dX6_rank_70 rfl rfl ?_
        refine wp_iload_n dX6_rank_71 rfl rfl ?_
        refine wp_callV (M2 := M_X6_countSurelyBehind) (n := 1) (As := [.int (nI x)]) (st := []) dX6_rank_72 (c_X6_countSurelyBehind g D now n r hci x (by omega)) ca_X6_201 ⟨nm_X6_countSurelyBehind, by decide, by decide⟩ rfl (by decide) rfl rfl rfl (Nat.le_of_ble_eq_true rfl) (fun r517 E518 q519 => ?_)
        obtain ⟨rfl, pr520⟩ := q519
        show WP g _ _ _ (.int (nI (cl_be (cl_G now r) x (now 1) n)) :: _) _ _
        have pr521 := (cl_pr.rf).tr pr520
        refine wp_iret dX6_rank_75 rfl ⟨?_, pr521⟩
        rw [if_pos hok, nI_clamp (by omega)]; unfold cl_rank
        rw [if_neg (by decide), if_neg (by decide), if_pos rfl]
      by_cases hw522 : w = nI 3
      · subst hw522
        refine wp_tableIn (off := 62) (tgt := 76) dX6_rank_14 (by decide) (by decide) rfl (by decide) ?_
        refine wp_aload_n dX6_rank_76 rfl rfl ?_
        refine wp_iload_n dX6_rank_77 rfl rfl ?_
        refine wp_callV (M2 := M_X6_groupOf) (n := 1) (As := [.int (nI x)]) (st := []) dX6_rank_78 (c_X6_groupOf g D now n r hci x (by omega)) ca_X6_204 ⟨nm_X6_groupOf, by decide, by decide⟩ rfl (by decide) rfl rfl rfl (Nat.le_of_ble_eq_true rfl) (fun r523 E524 q525 => ?_)
        obtain ⟨rfl, pr526⟩ := q525
        show WP g _ _ _ (.int (nI (cl_gr (cl_G now r) x n)) :: _) _ _
        have pr527 := (cl_pr.rf).tr pr526
        refine wp_iret dX6_rank_81 rfl ⟨?_, pr527⟩
        rw [if_pos hok, nI_clamp (by omega)]; unfold cl_rank
        rw [if_neg (by decide), if_neg (by decide), if_neg (by decide), if_pos rfl]
      refine wp_tableOut (tgt := 82) dX6_rank_14 (sr_tsw 3 (by decide) (fun v hv => by rcases (show v = 0 ∨ v = 1 ∨ v = 2 ∨ v = 3 by omega) with rfl | rfl | rfl | rfl <;> assumption)) (by decide) ?_
      refine wp_iconst (v := -1) dX6_rank_82 rfl ?_
      refine wp_iret dX6_rank_83 rfl ⟨?_, cl_pr.rf⟩
      rw [if_pos hok, nI_clamp (by omega)]; unfold cl_rank
      rw [if_neg (by assumption), if_neg (by assumption), if_neg (by assumption), if_neg (by assumption)]
    · exact absurd hok (by unfold sr_row; rw [c497]; decide)
  · refine wp_aload_n dX6_rank_0 rfl rfl ?_
    refine wp_getR (r := 1) dX6_rank_1 fl_X6_10 (by decide) rfl rfl rfl ?_
    refine wp_iload_n dX6_rank_4 rfl rfl ?_
    refine wp_callV (M2 := M_X3_hasRower) (n := 1) (As := [.int v]) (st := []) dX6_rank_5 (c_X3_hasRower1 g D n hci.2.1.1 (by omega) v) ca_X6_167 ⟨nm_X3_hasRower, by decide, by decide⟩ rfl (by decide) rfl rfl rfl (Nat.le_of_ble_eq_true rfl) (fun r528 E529 q530 => ?_)
    obtain ⟨rfl, rfl⟩ := q530
    show WP g _ _ _ (.int (sr_b (sr_isIn v (nI 0) (nI n - nI 1))) :: _) _ _
    refine wp_if_ne_b (tgt := 13) dX6_rank_8 (by decide) (fun c531 => ?_) (fun c531 => ?_)
    · exact absurd c531 hok
    · refine wp_iconst (v := -1) dX6_rank_11 rfl ?_
      refine wp_iret dX6_rank_12 rfl ⟨?_, cl_pr.rf⟩
      rw [if_neg hok]
def cl_count (Y : cl_T) (now : Nat → Int32) (n r : Nat) (len : Int32) (w : Int32) : Int32 := if w = nI 0 then nI n else if w = nI 1 then nI r else if w = nI 2 then now 1 else if w = nI 3 then len else if w = nI 4 then nI (cl_cs Y n n).1 else if w = nI 5 then nI (cl_gs Y n n) else if w = nI 6 then nI (cl_go Y 7).2.2 else -1
set_option maxHeartbeats 400000 in
set_option maxRecDepth 100000 in
theorem c_X6_count (g : sr_G) (D : sr_St) (now : Nat → Int32) (n r : Nat) (hci : CI now n r D) (w : Int32) : Con g M_X6_count [.ref 0, .int w] D (fun qa D' => qa = some (.int (cl_count (cl_G now r) now n r (D.1 7 0) w)) ∧ cl_pr D D') := by
  refine Con.of pn_X6_count (Nat.le_of_ble_eq_true rfl) ?_
  show WP g M_X6_count 0 [(0, .ref 0), (1, .int w)] [] D _
  have hn6 := hci.n6
  have hr12 := hci.r12
  refine wp_iload_n dX6_count_0 rfl rfl ?_
  by_cases hw532 : w = nI 0
  · subst hw532
    refine wp_tableIn (off := 43) (tgt := 44) dX6_count_1 (by decide) (by decide) rfl (by decide) ?_
    refine wp_aload_n dX6_count_44 rfl rfl ?_
    refine wp_getR (r := 1) dX6_count_45 fl_X6_10 (by decide) rfl rfl rfl ?_
    refine wp_getI_n (n := n) dX6_count_48 fl_X6_132 (by decide) rfl rfl (hci.2.1.1) ?_
    refine wp_iret dX6_count_51 rfl ⟨?_, cl_pr.rf⟩
    unfold cl_count
    rw [if_pos rfl]
  by_cases hw533 : w = nI 1
  · subst hw533
    refine wp_tableIn (off := 51) (tgt := 52) dX6_count_1 (by decide) (by decide) rfl (by decide) ?_
    refine wp_aload_n dX6_count_52 rfl rfl ?_
    refine wp_getR (r := 1) dX6_count_53 fl_X6_10 (by decide) rfl rfl rfl ?_
    refine wp_getI_n (n := r) dX6_count_56 fl_X6_123 (by decide) rfl rfl (hci.2.1.2.2.1) ?_
    refine wp_iret dX6_count_59 rfl ⟨?_, cl_pr.rf⟩
    unfold cl_count
    rw [if_neg (by decide), if_pos rfl]
  by_cases hw534 : w = nI 2
  · subst hw534
    refine wp_tableIn (off := 59) (tgt := 60) dX6_count_1 (by decide) (by decide) rfl (by decide) ?_
    refine wp_aload_n dX6_count_60 rfl rfl ?_
    refine wp_getR (r := 1) dX6_count_61 fl_X6_10 (by decide) rfl rfl rfl ?_
    refine wp_getI dX6_count_64 fl_X6_110 (by decide) rfl rfl ?_
    refine wp_iret dX6_count_67 rfl ⟨?_, cl_pr.rf⟩
    rw [hci.2.1.2.1]
    unfold cl_count
    rw [if_neg (by decide), if_neg (by decide), if_pos rfl]
  by_cases hw535 : w = nI 3
  · subst hw535
    refine wp_tableIn (off := 67) (tgt := 68) dX6_count_1 (by decide) (by decide) rfl (by decide) ?_
    refine wp_aload_n dX6_count_68 rfl rfl ?_
    refine wp_getR (r := 6) dX6_count_69 fl_X6_19 (by decide) rfl rfl rfl ?_
    refine wp_getR (r := 7) dX6_count_72 fl_X6_67 (by decide) rfl rfl rfl ?_
    refine wp_getI dX6_count_75 fl_X6_71 (by decide) rfl rfl ?_
    refine wp_iret dX6_count_78 rfl ⟨?_, cl_pr.rf⟩
    unfold cl_count
    rw [if_neg (by decide), if_neg (by decide), if_neg (by decide), if_pos rfl]
  by_cases hw536 : w = nI 4
  · subst hw536
    refine wp_tableIn (off := 78) (tgt := 79) dX6_count_1 (by decide) (by decide) rfl (by decide) ?_
    refine wp_aload_n dX6_count_79 rfl rfl ?_
    refine wp_getR (r := 14) dX6_count_80 fl_X6_26 (by decide) rfl rfl rfl ?_
    refine wp_aload_n dX6_count_83 rfl rfl ?_
    refine wp_getR (r := 1) dX6_count_84 fl_X6_10 (by decide) rfl rfl rfl ?_
    refine wp_getI_n (n := n) dX6_count_87 fl_X6_132 (by decide) rfl rfl (hci.2.1.1) ?_
    refine wp_callV (M2 := M_X1_couplesKnown) (n := 1) (As := [.int (nI n)]) (st := []) dX6_count_90 (c_X1_couplesKnown14 g D (cl_G now r) hci.2.2.2 n (by omega)) ca_X6_135 ⟨nm_X1_couplesKnown, by decide, by decide⟩ rfl (by decide) rfl rfl rfl (Nat.le_of_ble_eq_true rfl) (fun r537 E538 q539 => ?_)
    obtain ⟨rfl, fa540⟩ := q539
    show WP g _ _ _ (.int (nI ((cl_cs (cl_G now r) n n).1)) :: _) _ _
    refine wp_iret dX6_count_93 rfl ⟨?_, (cl_pr.rf).tr fa540.pr⟩
    unfold cl_count
    rw [if_neg (by decide), if_neg (by decide), if_neg (by decide), if_neg (by decide), if_pos rfl]
  by_cases hw541 : w = nI 5
  · subst hw541
    refine wp_tableIn (off := 93) (tgt := 94) dX6_count_1 (by decide) (by decide) rfl (by decide) ?_
    refine wp_aload_n dX6_count_94 rfl rfl ?_
    refine wp_callV (M2 := M_X6_countGroups) (n := 0) (As := []) (st := []) dX6_count_95 (c_X6_countGroups g D now n r hci) ca_X6_139 ⟨nm_X6_countGroups, by decide, by decide⟩ rfl (by decide) rfl rfl rfl (Nat.le_of_ble_eq_true rfl) (fun r542 E543 q544 => ?_)
    obtain ⟨rfl, pr545⟩ := q544
    show WP g _ _ _ (.int (nI (cl_gs (cl_G now r) n n)) :: _) _ _
    have pr546 := (cl_pr.rf).tr pr545
    refine wp_iret dX6_count_98 rfl ⟨?_, pr546⟩
    unfold cl_count
    rw [if_neg (by decide), if_neg (by decide), if_neg (by decide), if_neg (by decide), if_neg (by decide), if_pos rfl]
  by_cases hw547 : w = nI 6
  · subst hw547
    refine wp_tableIn (off := 98) (tgt := 99) dX6_count_1 (by decide) (by decide) rfl (by decide) ?_
    refine wp_aload_n dX6_count_99 rfl rfl ?_
    refine wp_getR (r := 14) dX6_count_100 fl_X6_26 (by decide) rfl rfl rfl ?_
    refine wp_getI dX6_count_103 fl_X6_143 (by decide) rfl rfl ?_
    refine wp_iret dX6_count_106 rfl ⟨?_, cl_pr.rf⟩
    rw [hci.2.2.2.2.2.1]
    unfold cl_count
    rw [if_neg (by decide), if_neg (by decide), if_neg (by decide), if_neg (by decide), if_neg (by decide), if_neg (by decide), if_pos rfl]
  refine wp_tableOut (tgt := 107) dX6_count_1 (sr_tsw 6 (by decide) (fun v hv => by rcases (show v = 0 ∨ v = 1 ∨ v = 2 ∨ v = 3 ∨ v = 4 ∨ v = 5 ∨ v = 6 by omega) with rfl | rfl | rfl | rfl | rfl | rfl | rfl <;> assumption)) (by decide) ?_
  refine wp_iconst (v := -1) dX6_count_107 rfl ?_
  refine wp_iret dX6_count_108 rfl ⟨?_, cl_pr.rf⟩
  unfold cl_count
  rw [if_neg (by assumption), if_neg (by assumption), if_neg (by assumption), if_neg (by assumption), if_neg (by assumption), if_neg (by assumption), if_neg (by assumption)]
