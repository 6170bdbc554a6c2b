/-! ===== the class: fractions ===== -/
def sr_fib : Nat → Nat
  | 0 => 0
  | 1 => 1
  | k + 2 => sr_fib k + sr_fib (k + 1)
/-- so many steps end it -/
def sr_eu : Nat → Nat → Nat → Prop
  | 0, _, b => b = 0
  | k + 1, a, b => b = 0 ∨ sr_eu k b (a % b)
theorem sr_eu_up : ∀ {k a b : Nat}, sr_eu k a b → sr_eu (k + 1) a b := by
  intro k
  induction k with
  | zero => intro a b h; exact Or.inl h
  | succ k ih =>
    intro a b h
    rcases h with h | h
    · exact Or.inl h
    · exact Or.inr (ih h)
theorem sr_eu_fib : ∀ k, (∀ a b, b < sr_fib (k + 2) → sr_eu k a b) ∧ (∀ a b, b < sr_fib (k + 3) → sr_eu (k + 1) a b) := by
  intro k
  induction k with
  | zero =>
    refine ⟨fun a b h => ?_, fun a b h => ?_⟩
    · have : sr_fib (0 + 2) = 1 := rfl
      show b = 0; omega
    · have : sr_fib (0 + 3) = 2 := rfl
      by_cases h0 : b = 0
      · exact Or.inl h0
      · refine Or.inr ?_
        have h1 : b = 1 := by omega
        subst h1
        show a % 1 = 0
        exact Nat.mod_one a
  | succ k ih =>
    refine ⟨ih.2, fun a b h => ?_⟩
    by_cases h0 : b = 0
    · exact Or.inl h0
    refine Or.inr ?_
    by_cases h1 : a % b < sr_fib (k + 3)
    · exact ih.2 _ _ h1
    by_cases h2 : a % b = 0
    · exact Or.inl h2
    refine Or.inr (ih.1 _ _ ?_)
    have hb : a % b < b := Nat.mod_lt _ (by omega)
    have h3 : b % (a % b) ≤ b - a % b := by
      rw [Nat.mod_eq_sub_mod (by omega)]
      exact Nat.mod_le _ _
    have h4 : sr_fib (k + 1 + 3) = sr_fib (k + 2) + sr_fib (k + 3) := rfl
    omega
theorem sr_eu_100 {a b : Nat} (h : b < 2 ^ 63) : sr_eu 100 a b := (sr_eu_fib 100).1 a b (Nat.lt_of_lt_of_le h (by decide +kernel))
theorem sr_abs_n {v : Int64} (h : -(2 ^ 63 : Int) < v.toInt) : sr_abs v = lN v.toInt.natAbs := by
  rw [← sr_size_n h]
  unfold sr_abs sr_size
  have e0 : (0 : Int64).toInt = 0 := rfl
  by_cases e : 0 < v
  · rw [if_pos e, if_neg]
    rw [Int64.lt_iff_toInt_lt] at *; omega
  · rw [if_neg e]
    by_cases e2 : v < 0
    · rw [if_pos e2]
    · rw [if_neg e2]
      have : v = 0 := Int64.toInt_inj.mp (by rw [Int64.lt_iff_toInt_lt] at *; omega)
      rw [this]; rfl
set_option maxHeartbeats 4000000 in
set_option maxRecDepth 100000 in
theorem c_X2_commonDivisor (g : sr_G) (D : sr_St) (a b : Nat) (ha : a < 2 ^ 63) (hb : b < 2 ^ 63)  : Con g M_X2_commonDivisor [.long (lN a), .long (lN b)] D (sr_ret (some (.long (lN (Nat.gcd a b)))) D) := by
  refine Con.of pn_X2_commonDivisor (Nat.le_of_ble_eq_true rfl) ?_
  show WP g M_X2_commonDivisor 0 [(0, .long (lN a)), (2, .long (lN b))] [] D _
  generalize hG : Nat.gcd a b = G
  have hL : ∀ (k x y z : Nat), sr_eu k x y → z + k ≤ 100 → x < 2 ^ 63 → y < 2 ^ 63 → Nat.gcd x y = G → WP g M_X2_commonDivisor 9 [(0, .long (lN a)), (2, .long (lN b)), (4, .long (lN x)), (6, .long (lN y)), (8, .int (nI z))] [] D (sr_ret (some (.long (lN G))) D) := by
    intro k
    induction k with
    | zero =>
      intro x y z hk hz hx hy hg
      have hy0 : y = 0 := hk
      subst hy0
      refine wp_iload dX2_commonDivisor_9 rfl ?_
      refine wp_bipush (v := nI 100) dX2_commonDivisor_11 rfl ?_
      refine wp_icmp_ge_n (tgt := 44) dX2_commonDivisor_13 (by decide) (by first | omega | (split <;> omega)) (by first | omega | (split <;> omega)) (fun c118 => ?_) (fun c118 => ?_)
      · refine wp_lload dX2_commonDivisor_44 rfl ?_
        refine wp_lret dX2_commonDivisor_46 rfl ⟨?_, rfl⟩
        rw [← hg, Nat.gcd_zero_right]
      · refine wp_lload dX2_commonDivisor_16 rfl ?_
        refine wp_lconst (v := 0) dX2_commonDivisor_18 rfl ?_
        refine wp_lcmp_eq (tgt := 44) dX2_commonDivisor_19 dX2_commonDivisor_20 (by decide) (fun c119 => ?_) (fun c119 => ?_)
        · refine wp_lload dX2_commonDivisor_44 rfl ?_
          refine wp_lret dX2_commonDivisor_46 rfl ⟨?_, rfl⟩
          rw [← hg, Nat.gcd_zero_right]
        · exact absurd rfl c119
    | succ k ih =>
      intro x y z hk hz hx hy hg
      refine wp_iload dX2_commonDivisor_9 rfl ?_
      refine wp_bipush (v := nI 100) dX2_commonDivisor_11 rfl ?_
      refine wp_icmp_ge_n (tgt := 44) dX2_commonDivisor_13 (by decide) (by first | omega | (split <;> omega)) (by first | omega | (split <;> omega)) (fun c120 => ?_) (fun c120 => ?_)
      · exact absurd c120 (by omega)
      · refine wp_lload dX2_commonDivisor_16 rfl ?_
        refine wp_lconst (v := 0) dX2_commonDivisor_18 rfl ?_
        refine wp_lcmp_eq (tgt := 44) dX2_commonDivisor_19 dX2_commonDivisor_20 (by decide) (fun c121 => ?_) (fun c121 => ?_)
        · have hy0 := (sr_lz hy).mp c121
          refine wp_lload dX2_commonDivisor_44 rfl ?_
          refine wp_lret dX2_commonDivisor_46 rfl ⟨?_, rfl⟩
          rw [← hg, hy0, Nat.gcd_zero_right]
        · have hyn : ¬ y = 0 := fun z => c121 ((sr_lz hy).mpr z)
          refine wp_lload dX2_commonDivisor_23 rfl ?_
          refine wp_lload dX2_commonDivisor_25 rfl ?_
          refine wp_lrem dX2_commonDivisor_27 (fun z => hyn ((sr_lz hy).mp z)) ?_
          refine wp_topl (fun x122 ex122 => ?_)
          refine wp_lstore (lv' := [(0, .long (lN a)), (2, .long (lN b)), (4, .long (lN x)), (6, .long (lN y)), (8, .int (nI z)), (9, .long x122)]) dX2_commonDivisor_28 (by decide) rfl ?_
          refine wp_lload dX2_commonDivisor_30 rfl ?_
          refine wp_lstore (lv' := [(0, .long (lN a)), (2, .long (lN b)), (4, .long (lN y)), (6, .long (lN y)), (8, .int (nI z)), (9, .long x122)]) dX2_commonDivisor_32 (by decide) rfl ?_
          refine wp_lload dX2_commonDivisor_34 rfl ?_
          refine wp_lstore (lv' := [(0, .long (lN a)), (2, .long (lN b)), (4, .long (lN y)), (6, .long x122), (8, .int (nI z)), (9, .long x122)]) dX2_commonDivisor_36 (by decide) rfl ?_
          refine wp_iinc_n (b := 1) (lv' := [(0, .long (lN a)), (2, .long (lN b)), (4, .long (lN y)), (6, .long x122), (8, .int (nI (z + 1))), (9, .long x122)]) dX2_commonDivisor_38 rfl rfl (by decide) rfl ?_
          refine wp_goto (tgt := 9) dX2_commonDivisor_41 (by decide) ?_
          rw [pk_lRem hx (by omega) hy] at ex122
          subst ex122
          have hm := Nat.mod_lt x (show 0 < y by omega)
          exact wp_pick [0, 1, 2, 3, 4] rfl (ih y (x % y) (z + 1) (hk.resolve_left hyn) (by omega) hy (by omega) (by rw [← hg, Nat.gcd_comm x y, Nat.gcd_rec y x, Nat.gcd_comm]))
  refine wp_lload_n dX2_commonDivisor_0 rfl rfl ?_
  refine wp_lstore (lv' := [(0, .long (lN a)), (2, .long (lN b)), (4, .long (lN a))]) dX2_commonDivisor_1 (by decide) rfl ?_
  refine wp_lload_n dX2_commonDivisor_3 rfl rfl ?_
  refine wp_lstore (lv' := [(0, .long (lN a)), (2, .long (lN b)), (4, .long (lN a)), (6, .long (lN b))]) dX2_commonDivisor_4 (by decide) rfl ?_
  refine wp_iconst (v := nI 0) dX2_commonDivisor_6 rfl ?_
  refine wp_istore (lv' := [(0, .long (lN a)), (2, .long (lN b)), (4, .long (lN a)), (6, .long (lN b)), (8, .int (nI 0))]) dX2_commonDivisor_7 (by decide) rfl ?_
  exact hL 100 a b 0 (sr_eu_100 hb) (by decide) ha hb hG
def sr_setF (D : sr_St) (o : Nat) (up un : Int64) : sr_St := sr_sJ (sr_sJ D o 0 (sr_told up un (nI 0))) o 1 (sr_told up un (nI 1))
set_option maxHeartbeats 4000000 in
set_option maxRecDepth 100000 in
theorem c_X2_set56 (g : sr_G) (D : sr_St) (up un : Int64) (hu : -(2 ^ 63 : Int) < up.toInt) (hn : 0 < un)  : Con g M_X2_set [.ref 56, .long up, .long un] D (sr_ret (none) (sr_setF D 56 up un)) := by
  refine Con.of pn_X2_set (Nat.le_of_ble_eq_true rfl) ?_
  show WP g M_X2_set 0 [(0, .ref 56), (1, .long up), (3, .long un)] [] D _
  rw [Int64.lt_iff_toInt_lt] at hn
  have e0 : (0 : Int64).toInt = 0 := rfl
  have hu2 : up.toInt.natAbs < 2 ^ 63 := by have := Int64.toInt_lt up; omega
  have hn2 : un.toInt.natAbs < 2 ^ 63 := by have := Int64.toInt_lt un; omega
  have hgp : 0 < Nat.gcd up.toInt.natAbs un.toInt.natAbs := Nat.gcd_pos_of_pos_right _ (by omega)
  have hgl : Nat.gcd up.toInt.natAbs un.toInt.natAbs < 2 ^ 63 := Nat.lt_of_le_of_lt (Nat.le_of_dvd (by omega) (Nat.gcd_dvd_right _ _)) hn2
  have hun : un = lN un.toInt.natAbs := by apply Int64.toInt_inj.mp; rw [pk_lT hn2]; omega
  refine wp_lload_n dX2_set_0 rfl rfl ?_
  refine wp_abs dX2_set_1 ab_X2_16 (by decide) (Nat.le_of_ble_eq_true rfl) ?_
  refine wp_lload_n dX2_set_4 rfl rfl ?_
  rw [sr_abs_n hu]
  refine wp_callS (M2 := M_X2_commonDivisor) (n := 2) (As := [.long (lN up.toInt.natAbs), .long un]) (st := []) dX2_set_5 (by have h := c_X2_commonDivisor g D up.toInt.natAbs un.toInt.natAbs hu2 hn2; rw [← hun] at h; exact h) ca_X2_22 ⟨nm_X2_commonDivisor, by decide, by decide⟩ rfl rfl (Nat.le_of_ble_eq_true rfl) (fun r123 E124 q125 => ?_)
  obtain ⟨rfl, rfl⟩ := q125
  show WP g _ _ _ (.long (lN (Nat.gcd up.toInt.natAbs un.toInt.natAbs)) :: _) _ _
  refine wp_lstore (lv' := [(0, .ref 56), (1, .long up), (3, .long un), (5, .long (lN (Nat.gcd up.toInt.natAbs un.toInt.natAbs)))]) dX2_set_8 (by decide) rfl ?_
  refine wp_lload_n dX2_set_10 rfl rfl ?_
  refine wp_lconst (v := 0) dX2_set_11 rfl ?_
  refine wp_lcmp_le (tgt := 23) dX2_set_12 dX2_set_13 (by decide) (fun c126 => ?_) (fun c126 => ?_)
  · exact absurd c126 (by rw [Int64.le_iff_toInt_le]; omega)
  · refine wp_lload dX2_set_16 rfl ?_
    refine wp_lconst (v := 0) dX2_set_18 rfl ?_
    refine wp_lcmp_gt (tgt := 34) dX2_set_19 dX2_set_20 (by decide) (fun c127 => ?_) (fun c127 => ?_)
    · refine wp_aload_n dX2_set_34 rfl rfl ?_
      refine wp_lload_n dX2_set_35 rfl rfl ?_
      refine wp_lload dX2_set_36 rfl ?_
      refine wp_ldiv dX2_set_38 (fun z => by rw [sr_lz hgl] at z; omega) ?_
      refine wp_putJ dX2_set_39 fl_X2_7 (by decide) rfl rfl ?_
      refine wp_D (fun D128 eD128 => ?_)
      refine wp_aload_n dX2_set_42 rfl rfl ?_
      refine wp_lload_n dX2_set_43 rfl rfl ?_
      refine wp_lload dX2_set_44 rfl ?_
      refine wp_ldiv dX2_set_46 (fun z => by rw [sr_lz hgl] at z; omega) ?_
      refine wp_putJ dX2_set_47 fl_X2_13 (by decide) rfl rfl ?_
      refine wp_D (fun D129 eD129 => ?_)
      refine wp_vret dX2_set_50 rfl ⟨rfl, ?_⟩
      subst eD128 eD129
      rfl
    · exact absurd (show (0 : Int64) < _ by rw [Int64.lt_iff_toInt_lt, pk_lT hgl]; omega) c127
set_option maxHeartbeats 4000000 in
set_option maxRecDepth 100000 in
theorem c_X2_set57 (g : sr_G) (D : sr_St) (up un : Int64) (hu : -(2 ^ 63 : Int) < up.toInt) (hn : 0 < un)  : Con g M_X2_set [.ref 57, .long up, .long un] D (sr_ret (none) (sr_setF D 57 up un)) := by
  refine Con.of pn_X2_set (Nat.le_of_ble_eq_true rfl) ?_
  show WP g M_X2_set 0 [(0, .ref 57), (1, .long up), (3, .long un)] [] D _
  rw [Int64.lt_iff_toInt_lt] at hn
  have e0 : (0 : Int64).toInt = 0 := rfl
  have hu2 : up.toInt.natAbs < 2 ^ 63 := by have := Int64.toInt_lt up; omega
  have hn2 : un.toInt.natAbs < 2 ^ 63 := by have := Int64.toInt_lt un; omega
  have hgp : 0 < Nat.gcd up.toInt.natAbs un.toInt.natAbs := Nat.gcd_pos_of_pos_right _ (by omega)
  have hgl : Nat.gcd up.toInt.natAbs un.toInt.natAbs < 2 ^ 63 := Nat.lt_of_le_of_lt (Nat.le_of_dvd (by omega) (Nat.gcd_dvd_right _ _)) hn2
  have hun : un = lN un.toInt.natAbs := by apply Int64.toInt_inj.mp; rw [pk_lT hn2]; omega
  refine wp_lload_n dX2_set_0 rfl rfl ?_
  refine wp_abs dX2_set_1 ab_X2_16 (by decide) (Nat.le_of_ble_eq_true rfl) ?_
  refine wp_lload_n dX2_set_4 rfl rfl ?_
  rw [sr_abs_n hu]
  refine wp_callS (M2 := M_X2_commonDivisor) (n := 2) (As := [.long (lN up.toInt.natAbs), .long un]) (st := []) dX2_set_5 (by have h := c_X2_commonDivisor g D up.toInt.natAbs un.toInt.natAbs hu2 hn2; rw [← hun] at h; exact h) ca_X2_22 ⟨nm_X2_commonDivisor, by decide, by decide⟩ rfl rfl (Nat.le_of_ble_eq_true rfl) (fun r130 E131 q132 => ?_)
  obtain ⟨rfl, rfl⟩ := q132
  show WP g _ _ _ (.long (lN (Nat.gcd up.toInt.natAbs un.toInt.natAbs)) :: _) _ _
  refine wp_lstore (lv' := [(0, .ref 57), (1, .long up), (3, .long un), (5, .long (lN (Nat.gcd up.toInt.natAbs un.toInt.natAbs)))]) dX2_set_8 (by decide) rfl ?_
  refine wp_lload_n dX2_set_10 rfl rfl ?_
  refine wp_lconst (v := 0) dX2_set_11 rfl ?_
  refine wp_lcmp_le (tgt := 23) dX2_set_12 dX2_set_13 (by decide) (fun c133 => ?_) (fun c133 => ?_)
  · exact absurd c133 (by rw [Int64.le_iff_toInt_le]; omega)
  · refine wp_lload dX2_set_16 rfl ?_
    refine wp_lconst (v := 0) dX2_set_18 rfl ?_
    refine wp_lcmp_gt (tgt := 34) dX2_set_19 dX2_set_20 (by decide) (fun c134 => ?_) (fun c134 => ?_)
    · refine wp_aload_n dX2_set_34 rfl rfl ?_
      refine wp_lload_n dX2_set_35 rfl rfl ?_
      refine wp_lload dX2_set_36 rfl ?_
      refine wp_ldiv dX2_set_38 (fun z => by rw [sr_lz hgl] at z; omega) ?_
      refine wp_putJ dX2_set_39 fl_X2_7 (by decide) rfl rfl ?_
      refine wp_D (fun D135 eD135 => ?_)
      refine wp_aload_n dX2_set_42 rfl rfl ?_
      refine wp_lload_n dX2_set_43 rfl rfl ?_
      refine wp_lload dX2_set_44 rfl ?_
      refine wp_ldiv dX2_set_46 (fun z => by rw [sr_lz hgl] at z; omega) ?_
      refine wp_putJ dX2_set_47 fl_X2_13 (by decide) rfl rfl ?_
      refine wp_D (fun D136 eD136 => ?_)
      refine wp_vret dX2_set_50 rfl ⟨rfl, ?_⟩
      subst eD135 eD136
      rfl
    · exact absurd (show (0 : Int64) < _ by rw [Int64.lt_iff_toInt_lt, pk_lT hgl]; omega) c134
set_option maxHeartbeats 4000000 in
set_option maxRecDepth 100000 in
theorem c_X2_copyFrom58 (g : sr_G) (D : sr_St)   : Con g M_X2_copyFrom [.ref 58, .ref 57] D (sr_ret (none) (sr_sJ (sr_sJ D 58 0 (D.2 57 0)) 58 1 (D.2 57 1))) := by
  refine Con.of pn_X2_copyFrom (Nat.le_of_ble_eq_true rfl) ?_
  show WP g M_X2_copyFrom 0 [(0, .ref 58), (1, .ref 57)] [] D _
  refine wp_aload_n dX2_copyFrom_0 rfl rfl ?_
  refine wp_aload_n dX2_copyFrom_1 rfl rfl ?_
  refine wp_getJ dX2_copyFrom_2 fl_X2_7 (by decide) rfl rfl ?_
  refine wp_putJ dX2_copyFrom_5 fl_X2_7 (by decide) rfl rfl ?_
  refine wp_D (fun D137 eD137 => ?_)
  refine wp_aload_n dX2_copyFrom_8 rfl rfl ?_
  refine wp_aload_n dX2_copyFrom_9 rfl rfl ?_
  refine wp_getJ dX2_copyFrom_10 fl_X2_13 (by decide) rfl rfl ?_
  refine wp_putJ dX2_copyFrom_13 fl_X2_13 (by decide) rfl rfl ?_
  refine wp_D (fun D138 eD138 => ?_)
  refine wp_vret dX2_copyFrom_16 rfl ⟨rfl, ?_⟩
  subst eD137 eD138
  rfl
set_option maxHeartbeats 4000000 in
set_option maxRecDepth 100000 in
theorem c_X2_copyFrom60 (g : sr_G) (D : sr_St)   : Con g M_X2_copyFrom [.ref 60, .ref 57] D (sr_ret (none) (sr_sJ (sr_sJ D 60 0 (D.2 57 0)) 60 1 (D.2 57 1))) := by
  refine Con.of pn_X2_copyFrom (Nat.le_of_ble_eq_true rfl) ?_
  show WP g M_X2_copyFrom 0 [(0, .ref 60), (1, .ref 57)] [] D _
  refine wp_aload_n dX2_copyFrom_0 rfl rfl ?_
  refine wp_aload_n dX2_copyFrom_1 rfl rfl ?_
  refine wp_getJ dX2_copyFrom_2 fl_X2_7 (by decide) rfl rfl ?_
  refine wp_putJ dX2_copyFrom_5 fl_X2_7 (by decide) rfl rfl ?_
  refine wp_D (fun D139 eD139 => ?_)
  refine wp_aload_n dX2_copyFrom_8 rfl rfl ?_
  refine wp_aload_n dX2_copyFrom_9 rfl rfl ?_
  refine wp_getJ dX2_copyFrom_10 fl_X2_13 (by decide) rfl rfl ?_
  refine wp_putJ dX2_copyFrom_13 fl_X2_13 (by decide) rfl rfl ?_
  refine wp_D (fun D140 eD140 => ?_)
  refine wp_vret dX2_copyFrom_16 rfl ⟨rfl, ?_⟩
  subst eD139 eD140
  rfl
theorem sr_lmul {a b : Nat} (h : a * b < 2 ^ 63) : lN a * lN b = lN (a * b) := by
  apply Int64.toInt_inj.mp
  by_cases ha : a = 0
  · subst ha; rw [Nat.zero_mul, show lN 0 = 0 from rfl, Int64.zero_mul]
  by_cases hb : b = 0
  · subst hb; rw [Nat.mul_zero, show lN 0 = 0 from rfl, Int64.mul_zero]
  have h1 : a < 2 ^ 63 := Nat.lt_of_le_of_lt (Nat.le_mul_of_pos_right a (by omega)) h
  have h2 : b < 2 ^ 63 := Nat.lt_of_le_of_lt (Nat.le_mul_of_pos_left b (by omega)) h
  rw [Int64.toInt_mul, pk_lT h1, pk_lT h2, pk_lT h]
  have : ((a : Int) * (b : Int)) = ((a * b : Nat) : Int) := by rw [Int.natCast_mul]
  rw [this]
  exact Int.bmod_eq_of_le (by omega) (by omega)
theorem sr_below {p q r s : Nat} (hq : 0 < q) (hs : 0 < s) : (if p / q = r / s then (p % q) * s < (r % s) * q else p / q < r / s) ↔ p * s < r * q := by
  have h1 := Nat.div_add_mod p q
  have h2 := Nat.div_add_mod r s
  have h3 := Nat.mod_lt p hq
  have h4 := Nat.mod_lt r hs
  generalize p / q = a at *; generalize p % q = b at *; generalize r / s = c at *; generalize r % s = d at *
  subst h1; subst h2
  have e1 : (q * a + b) * s = q * s * a + b * s := by rw [Nat.add_mul, Nat.mul_right_comm]
  have e2 : (s * c + d) * q = q * s * c + d * q := by rw [Nat.add_mul, Nat.mul_right_comm, Nat.mul_comm s q]
  rw [e1, e2]
  have hqs : 0 < q * s := Nat.mul_pos hq hs
  have h5 : b * s < q * s := Nat.mul_lt_mul_of_pos_right h3 hs
  have h6 : d * q < q * s := by rw [Nat.mul_comm q s]; exact Nat.mul_lt_mul_of_pos_right h4 hq
  split
  · next e => subst e; omega
  · next e =>
    constructor
    · intro h
      have : q * s * (a + 1) ≤ q * s * c := Nat.mul_le_mul_left _ h
      rw [Nat.mul_add] at this; omega
    · intro h
      refine Nat.lt_of_not_le (fun h7 => ?_)
      have : q * s * (c + 1) ≤ q * s * a := Nat.mul_le_mul_left _ (by omega)
      rw [Nat.mul_add] at this; omega
set_option maxHeartbeats 4000000 in
set_option maxRecDepth 100000 in
theorem c_X2_isBelow58 (g : sr_G) (D : sr_St) (p q r s : Nat) (hp : D.2 57 0 = lN p) (hq : D.2 57 1 = lN q) (hr : D.2 58 0 = lN r) (hs : D.2 58 1 = lN s) (p63 : p < 2 ^ 63) (q63 : q < 2 ^ 63) (r63 : r < 2 ^ 63) (s63 : s < 2 ^ 63) (q0 : 0 < q) (s0 : 0 < s) (hqs : q * s < 2 ^ 63)  : Con g M_X2_isBelow [.ref 57, .ref 58] D (sr_ret (some (.int (sr_b (decide (p * s < r * q))))) D) := by
  refine Con.of pn_X2_isBelow (Nat.le_of_ble_eq_true rfl) ?_
  show WP g M_X2_isBelow 0 [(0, .ref 57), (1, .ref 58)] [] D _
  have hb := sr_below (p := p) (r := r) q0 s0
  have m1 := Nat.mod_lt p q0
  have m2 := Nat.mod_lt r s0
  have m3 : p % q * s < 2 ^ 63 := Nat.lt_of_le_of_lt (Nat.mul_le_mul_right s (Nat.le_of_lt m1)) hqs
  have m4 : r % s * q < 2 ^ 63 := Nat.lt_of_le_of_lt (Nat.mul_le_mul_right q (Nat.le_of_lt m2)) (by rw [Nat.mul_comm]; exact hqs)
  have d1 := Nat.div_le_self p q
  have d2 := Nat.div_le_self r s
  refine wp_aload_n dX2_isBelow_0 rfl rfl ?_
  refine wp_getJ dX2_isBelow_1 fl_X2_13 (by decide) rfl rfl ?_
  rw [hq]
  refine wp_lconst (v := 0) dX2_isBelow_4 rfl ?_
  refine wp_lcmp_le (tgt := 18) dX2_isBelow_5 dX2_isBelow_6 (by decide) (fun c141 => ?_) (fun c141 => ?_)
  · exact absurd c141 (by rw [show (0 : Int64) = lN 0 from rfl, pk_lLE q63 (by decide)]; omega)
  · refine wp_aload_n dX2_isBelow_9 rfl rfl ?_
    refine wp_getJ dX2_isBelow_10 fl_X2_13 (by decide) rfl rfl ?_
    rw [hs]
    refine wp_lconst (v := 0) dX2_isBelow_13 rfl ?_
    refine wp_lcmp_gt (tgt := 20) dX2_isBelow_14 dX2_isBelow_15 (by decide) (fun c142 => ?_) (fun c142 => ?_)
    · refine wp_aload_n dX2_isBelow_20 rfl rfl ?_
      refine wp_getJ dX2_isBelow_21 fl_X2_7 (by decide) rfl rfl ?_
      rw [hp]
      refine wp_aload_n dX2_isBelow_24 rfl rfl ?_
      refine wp_getJ dX2_isBelow_25 fl_X2_13 (by decide) rfl rfl ?_
      rw [hq]
      refine wp_ldiv dX2_isBelow_28 (fun z => by rw [sr_lz q63] at z; omega) ?_
      rw [pk_lDiv p63 q0 q63]
      refine wp_lstore_n (lv' := [(0, .ref 57), (1, .ref 58), (2, .long (lN (p / q)))]) dX2_isBelow_29 rfl (by decide) rfl ?_
      refine wp_aload_n dX2_isBelow_30 rfl rfl ?_
      refine wp_getJ dX2_isBelow_31 fl_X2_7 (by decide) rfl rfl ?_
      rw [hr]
      refine wp_aload_n dX2_isBelow_34 rfl rfl ?_
      refine wp_getJ dX2_isBelow_35 fl_X2_13 (by decide) rfl rfl ?_
      rw [hs]
      refine wp_ldiv dX2_isBelow_38 (fun z => by rw [sr_lz s63] at z; omega) ?_
      rw [pk_lDiv r63 s0 s63]
      refine wp_lstore (lv' := [(0, .ref 57), (1, .ref 58), (2, .long (lN (p / q))), (4, .long (lN (r / s)))]) dX2_isBelow_39 (by decide) rfl ?_
      refine wp_lload_n dX2_isBelow_41 rfl rfl ?_
      refine wp_lload dX2_isBelow_42 rfl ?_
      refine wp_lcmp_eq (tgt := 61) dX2_isBelow_44 dX2_isBelow_45 (by decide) (fun c143 => ?_) (fun c143 => ?_)
      · have he := (pk_lEQ (by omega) (by omega)).mp c143
        rw [if_pos he] at hb
        refine wp_aload_n dX2_isBelow_61 rfl rfl ?_
        refine wp_getJ dX2_isBelow_62 fl_X2_7 (by decide) rfl rfl ?_
        rw [hp]
        refine wp_lload_n dX2_isBelow_65 rfl rfl ?_
        refine wp_aload_n dX2_isBelow_66 rfl rfl ?_
        refine wp_getJ dX2_isBelow_67 fl_X2_13 (by decide) rfl rfl ?_
        rw [hq]
        refine wp_lmul dX2_isBelow_70 ?_
        refine wp_lsub dX2_isBelow_71 ?_
        rw [show lN p - lN (p / q) * lN q = lN (p % q) by rw [← pk_lDiv p63 q0 q63, pk_lRem p63 q0 q63]]
        refine wp_lstore (lv' := [(0, .ref 57), (1, .ref 58), (2, .long (lN (p / q))), (4, .long (lN (r / s))), (6, .long (lN (p % q)))]) dX2_isBelow_72 (by decide) rfl ?_
        refine wp_aload_n dX2_isBelow_74 rfl rfl ?_
        refine wp_getJ dX2_isBelow_75 fl_X2_7 (by decide) rfl rfl ?_
        rw [hr]
        refine wp_lload dX2_isBelow_78 rfl ?_
        refine wp_aload_n dX2_isBelow_80 rfl rfl ?_
        refine wp_getJ dX2_isBelow_81 fl_X2_13 (by decide) rfl rfl ?_
        rw [hs]
        refine wp_lmul dX2_isBelow_84 ?_
        refine wp_lsub dX2_isBelow_85 ?_
        rw [show lN r - lN (r / s) * lN s = lN (r % s) by rw [← pk_lDiv r63 s0 s63, pk_lRem r63 s0 s63]]
        refine wp_lstore (lv' := [(0, .ref 57), (1, .ref 58), (2, .long (lN (p / q))), (4, .long (lN (r / s))), (6, .long (lN (p % q))), (8, .long (lN (r % s)))]) dX2_isBelow_86 (by decide) rfl ?_
        refine wp_lload dX2_isBelow_88 rfl ?_
        refine wp_aload_n dX2_isBelow_90 rfl rfl ?_
        refine wp_getJ dX2_isBelow_91 fl_X2_13 (by decide) rfl rfl ?_
        rw [hs]
        refine wp_lmul dX2_isBelow_94 ?_
        rw [sr_lmul m3]
        refine wp_lload dX2_isBelow_95 rfl ?_
        refine wp_aload_n dX2_isBelow_97 rfl rfl ?_
        refine wp_getJ dX2_isBelow_98 fl_X2_13 (by decide) rfl rfl ?_
        rw [hq]
        refine wp_lmul dX2_isBelow_101 ?_
        rw [sr_lmul m4]
        refine wp_lcmp_ge (tgt := 110) dX2_isBelow_102 dX2_isBelow_103 (by decide) (fun c144 => ?_) (fun c144 => ?_)
        · have h9 := (pk_lLE m4 m3).mp c144
          refine wp_iconst (v := nI 0) dX2_isBelow_110 rfl ?_
          refine wp_zret dX2_isBelow_111 rfl (Or.inl rfl) ⟨?_, rfl⟩
          exact sr_bf (decide_eq_false (fun z => by have := hb.mpr z; omega))
        · have h9 : ¬ r % s * q ≤ p % q * s := fun z => c144 ((pk_lLE m4 m3).mpr z)
          refine wp_iconst (v := nI 1) dX2_isBelow_106 rfl ?_
          refine wp_goto (tgt := 111) dX2_isBelow_107 (by decide) ?_
          refine wp_zret dX2_isBelow_111 rfl (Or.inr rfl) ⟨?_, rfl⟩
          exact sr_bt (decide_eq_true (hb.mp (by omega)))
      · have he : ¬ p / q = r / s := fun z => c143 ((pk_lEQ (by omega) (by omega)).mpr z)
        rw [if_neg he] at hb
        refine wp_lload_n dX2_isBelow_48 rfl rfl ?_
        refine wp_lload dX2_isBelow_49 rfl ?_
        refine wp_lcmp_ge (tgt := 59) dX2_isBelow_51 dX2_isBelow_52 (by decide) (fun c145 => ?_) (fun c145 => ?_)
        · have h9 := (pk_lLE (by omega) (by omega)).mp c145
          refine wp_iconst (v := nI 0) dX2_isBelow_59 rfl ?_
          refine wp_zret dX2_isBelow_60 rfl (Or.inl rfl) ⟨?_, rfl⟩
          exact sr_bf (decide_eq_false (fun z => by have := hb.mpr z; omega))
        · have h9 : ¬ r / s ≤ p / q := fun z => c145 ((pk_lLE (by omega) (by omega)).mpr z)
          refine wp_iconst (v := nI 1) dX2_isBelow_55 rfl ?_
          refine wp_goto (tgt := 60) dX2_isBelow_56 (by decide) ?_
          refine wp_zret dX2_isBelow_60 rfl (Or.inr rfl) ⟨?_, rfl⟩
          exact sr_bt (decide_eq_true (hb.mp (by omega)))
    · exact absurd (show (0 : Int64) < lN s by rw [show (0 : Int64) = lN 0 from rfl, pk_lLT (by decide) s63]; exact s0) c142
set_option maxHeartbeats 4000000 in
set_option maxRecDepth 100000 in
theorem c_X2_isBelow60 (g : sr_G) (D : sr_St) (p q r s : Nat) (hp : D.2 57 0 = lN p) (hq : D.2 57 1 = lN q) (hr : D.2 60 0 = lN r) (hs : D.2 60 1 = lN s) (p63 : p < 2 ^ 63) (q63 : q < 2 ^ 63) (r63 : r < 2 ^ 63) (s63 : s < 2 ^ 63) (q0 : 0 < q) (s0 : 0 < s) (hqs : q * s < 2 ^ 63)  : Con g M_X2_isBelow [.ref 57, .ref 60] D (sr_ret (some (.int (sr_b (decide (p * s < r * q))))) D) := by
  refine Con.of pn_X2_isBelow (Nat.le_of_ble_eq_true rfl) ?_
  show WP g M_X2_isBelow 0 [(0, .ref 57), (1, .ref 60)] [] D _
  have hb := sr_below (p := p) (r := r) q0 s0
  have m1 := Nat.mod_lt p q0
  have m2 := Nat.mod_lt r s0
  have m3 : p % q * s < 2 ^ 63 := Nat.lt_of_le_of_lt (Nat.mul_le_mul_right s (Nat.le_of_lt m1)) hqs
  have m4 : r % s * q < 2 ^ 63 := Nat.lt_of_le_of_lt (Nat.mul_le_mul_right q (Nat.le_of_lt m2)) (by rw [Nat.mul_comm]; exact hqs)
  have d1 := Nat.div_le_self p q
  have d2 := Nat.div_le_self r s
  refine wp_aload_n dX2_isBelow_0 rfl rfl ?_
  refine wp_getJ dX2_isBelow_1 fl_X2_13 (by decide) rfl rfl ?_
  rw [hq]
  refine wp_lconst (v := 0) dX2_isBelow_4 rfl ?_
  refine wp_lcmp_le (tgt := 18) dX2_isBelow_5 dX2_isBelow_6 (by decide) (fun c146 => ?_) (fun c146 => ?_)
  · exact absurd c146 (by rw [show (0 : Int64) = lN 0 from rfl, pk_lLE q63 (by decide)]; omega)
  · refine wp_aload_n dX2_isBelow_9 rfl rfl ?_
    refine wp_getJ dX2_isBelow_10 fl_X2_13 (by decide) rfl rfl ?_
    rw [hs]
    refine wp_lconst (v := 0) dX2_isBelow_13 rfl ?_
    refine wp_lcmp_gt (tgt := 20) dX2_isBelow_14 dX2_isBelow_15 (by decide) (fun c147 => ?_) (fun c147 => ?_)
    · refine wp_aload_n dX2_isBelow_20 rfl rfl ?_
      refine wp_getJ dX2_isBelow_21 fl_X2_7 (by decide) rfl rfl ?_
      rw [hp]
      refine wp_aload_n dX2_isBelow_24 rfl rfl ?_
      refine wp_getJ dX2_isBelow_25 fl_X2_13 (by decide) rfl rfl ?_
      rw [hq]
      refine wp_ldiv dX2_isBelow_28 (fun z => by rw [sr_lz q63] at z; omega) ?_
      rw [pk_lDiv p63 q0 q63]
      refine wp_lstore_n (lv' := [(0, .ref 57), (1, .ref 60), (2, .long (lN (p / q)))]) dX2_isBelow_29 rfl (by decide) rfl ?_
      refine wp_aload_n dX2_isBelow_30 rfl rfl ?_
      refine wp_getJ dX2_isBelow_31 fl_X2_7 (by decide) rfl rfl ?_
      rw [hr]
      refine wp_aload_n dX2_isBelow_34 rfl rfl ?_
      refine wp_getJ dX2_isBelow_35 fl_X2_13 (by decide) rfl rfl ?_
      rw [hs]
      refine wp_ldiv dX2_isBelow_38 (fun z => by rw [sr_lz s63] at z; omega) ?_
      rw [pk_lDiv r63 s0 s63]
      refine wp_lstore (lv' := [(0, .ref 57), (1, .ref 60), (2, .long (lN (p / q))), (4, .long (lN (r / s)))]) dX2_isBelow_39 (by decide) rfl ?_
      refine wp_lload_n dX2_isBelow_41 rfl rfl ?_
      refine wp_lload dX2_isBelow_42 rfl ?_
      refine wp_lcmp_eq (tgt := 61) dX2_isBelow_44 dX2_isBelow_45 (by decide) (fun c148 => ?_) (fun c148 => ?_)
      · have he := (pk_lEQ (by omega) (by omega)).mp c148
        rw [if_pos he] at hb
        refine wp_aload_n dX2_isBelow_61 rfl rfl ?_
        refine wp_getJ dX2_isBelow_62 fl_X2_7 (by decide) rfl rfl ?_
        rw [hp]
        refine wp_lload_n dX2_isBelow_65 rfl rfl ?_
        refine wp_aload_n dX2_isBelow_66 rfl rfl ?_
        refine wp_getJ dX2_isBelow_67 fl_X2_13 (by decide) rfl rfl ?_
        rw [hq]
        refine wp_lmul dX2_isBelow_70 ?_
        refine wp_lsub dX2_isBelow_71 ?_
        rw [show lN p - lN (p / q) * lN q = lN (p % q) by rw [← pk_lDiv p63 q0 q63, pk_lRem p63 q0 q63]]
        refine wp_lstore (lv' := [(0, .ref 57), (1, .ref 60), (2, .long (lN (p / q))), (4, .long (lN (r / s))), (6, .long (lN (p % q)))]) dX2_isBelow_72 (by decide) rfl ?_
        refine wp_aload_n dX2_isBelow_74 rfl rfl ?_
        refine wp_getJ dX2_isBelow_75 fl_X2_7 (by decide) rfl rfl ?_
        rw [hr]
        refine wp_lload dX2_isBelow_78 rfl ?_
        refine wp_aload_n dX2_isBelow_80 rfl rfl ?_
        refine wp_getJ dX2_isBelow_81 fl_X2_13 (by decide) rfl rfl ?_
        rw [hs]
        refine wp_lmul dX2_isBelow_84 ?_
        refine wp_lsub dX2_isBelow_85 ?_
        rw [show lN r - lN (r / s) * lN s = lN (r % s) by rw [← pk_lDiv r63 s0 s63, pk_lRem r63 s0 s63]]
        refine wp_lstore (lv' := [(0, .ref 57), (1, .ref 60), (2, .long (lN (p / q))), (4, .long (lN (r / s))), (6, .long (lN (p % q))), (8, .long (lN (r % s)))]) dX2_isBelow_86 (by decide) rfl ?_
        refine wp_lload dX2_isBelow_88 rfl ?_
        refine wp_aload_n dX2_isBelow_90 rfl rfl ?_
        refine wp_getJ dX2_isBelow_91 fl_X2_13 (by decide) rfl rfl ?_
        rw [hs]
        refine wp_lmul dX2_isBelow_94 ?_
        rw [sr_lmul m3]
        refine wp_lload dX2_isBelow_95 rfl ?_
        refine wp_aload_n dX2_isBelow_97 rfl rfl ?_
        refine wp_getJ dX2_isBelow_98 fl_X2_13 (by decide) rfl rfl ?_
        rw [hq]
        refine wp_lmul dX2_isBelow_101 ?_
        rw [sr_lmul m4]
        refine wp_lcmp_ge (tgt := 110) dX2_isBelow_102 dX2_isBelow_103 (by decide) (fun c149 => ?_) (fun c149 => ?_)
        · have h9 := (pk_lLE m4 m3).mp c149
          refine wp_iconst (v := nI 0) dX2_isBelow_110 rfl ?_
          refine wp_zret dX2_isBelow_111 rfl (Or.inl rfl) ⟨?_, rfl⟩
          exact sr_bf (decide_eq_false (fun z => by have := hb.mpr z; omega))
        · have h9 : ¬ r % s * q ≤ p % q * s := fun z => c149 ((pk_lLE m4 m3).mpr z)
          refine wp_iconst (v := nI 1) dX2_isBelow_106 rfl ?_
          refine wp_goto (tgt := 111) dX2_isBelow_107 (by decide) ?_
          refine wp_zret dX2_isBelow_111 rfl (Or.inr rfl) ⟨?_, rfl⟩
          exact sr_bt (decide_eq_true (hb.mp (by omega)))
      · have he : ¬ p / q = r / s := fun z => c148 ((pk_lEQ (by omega) (by omega)).mpr z)
        rw [if_neg he] at hb
        refine wp_lload_n dX2_isBelow_48 rfl rfl ?_
        refine wp_lload dX2_isBelow_49 rfl ?_
        refine wp_lcmp_ge (tgt := 59) dX2_isBelow_51 dX2_isBelow_52 (by decide) (fun c150 => ?_) (fun c150 => ?_)
        · have h9 := (pk_lLE (by omega) (by omega)).mp c150
          refine wp_iconst (v := nI 0) dX2_isBelow_59 rfl ?_
          refine wp_zret dX2_isBelow_60 rfl (Or.inl rfl) ⟨?_, rfl⟩
          exact sr_bf (decide_eq_false (fun z => by have := hb.mpr z; omega))
        · have h9 : ¬ r / s ≤ p / q := fun z => c150 ((pk_lLE (by omega) (by omega)).mpr z)
          refine wp_iconst (v := nI 1) dX2_isBelow_55 rfl ?_
          refine wp_goto (tgt := 60) dX2_isBelow_56 (by decide) ?_
          refine wp_zret dX2_isBelow_60 rfl (Or.inr rfl) ⟨?_, rfl⟩
          exact sr_bt (decide_eq_true (hb.mp (by omega)))
    · exact absurd (show (0 : Int64) < lN s by rw [show (0 : Int64) = lN 0 from rfl, pk_lLT (by decide) s63]; exact s0) c147
