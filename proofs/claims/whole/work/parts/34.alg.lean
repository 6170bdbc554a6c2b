theorem sr_size_n {v : Int64} (h : -(2 ^ 63 : Int) < v.toInt) : sr_size v = lN v.toInt.natAbs := by
  apply Int64.toInt_inj.mp
  have hlt : v.toInt < 2 ^ 63 := Int64.toInt_lt v
  have hna : v.toInt.natAbs < 2 ^ 63 := by omega
  rw [pk_lT hna]
  unfold sr_size
  by_cases e : v < 0
  · rw [if_pos e]
    rw [Int64.lt_iff_toInt_lt] at e
    have e0 : (0 : Int64).toInt = 0 := rfl
    rw [e0] at e
    have : (-v).toInt = -v.toInt := by
      rw [Int64.toInt_neg]
      exact Int.bmod_eq_of_le (by omega) (by omega)
    rw [this]; omega
  · rw [if_neg e]
    rw [Int64.lt_iff_toInt_lt] at e
    have e0 : (0 : Int64).toInt = 0 := rfl
    rw [e0] at e
    omega
theorem sr_lz {n : Nat} (h : n < 2 ^ 63) : lN n = 0 ↔ n = 0 := by
  rw [show (0 : Int64) = lN 0 from rfl]; exact pk_lEQ h (by decide)
set_option maxHeartbeats 4000000 in
set_option maxRecDepth 100000 in
theorem c_X7_common (g : sr_G) (D : sr_St) (a b : Int64) (ha : -(2 ^ 63 : Int) < a.toInt) (hb : -(2 ^ 63 : Int) < b.toInt)  : Con g M_X7_common [.long a, .long b] D (sr_ret (some (.long (lN (Nat.gcd a.toInt.natAbs b.toInt.natAbs)))) D) := by
  refine Con.of pn_X7_common (Nat.le_of_ble_eq_true rfl) ?_
  show WP g M_X7_common 0 [(0, .long a), (2, .long b)] [] D _
  have ha2 : a.toInt.natAbs < 2 ^ 63 := by have := Int64.toInt_lt a; omega
  have hb2 : b.toInt.natAbs < 2 ^ 63 := by have := Int64.toInt_lt b; omega
  generalize hG : Nat.gcd a.toInt.natAbs b.toInt.natAbs = G
  have hL : ∀ (k x y : Nat), y ≤ k → x < 2 ^ 63 → y < 2 ^ 63 → Nat.gcd x y = G → WP g M_X7_common 12 [(0, .long a), (2, .long b), (4, .long (lN x)), (6, .long (lN y))] [] D (sr_ret (some (.long (lN G))) D) := by
    intro k
    induction k with
    | zero =>
      intro x y hk hx hy hg
      have hy0 : y = 0 := by omega
      subst hy0
      refine wp_lload dX7_common_12 rfl ?_
      refine wp_lconst (v := 0) dX7_common_14 rfl ?_
      refine wp_lcmp_eq (tgt := 37) dX7_common_15 dX7_common_16 (by decide) (fun c1 => ?_) (fun c1 => ?_)
      · refine wp_lload dX7_common_37 rfl ?_
        refine wp_lret dX7_common_39 rfl ⟨?_, rfl⟩
        rw [← hg, Nat.gcd_zero_right]
      · exact absurd rfl c1
    | succ k ih =>
      intro x y hk hx hy hg
      refine wp_lload dX7_common_12 rfl ?_
      refine wp_lconst (v := 0) dX7_common_14 rfl ?_
      refine wp_lcmp_eq (tgt := 37) dX7_common_15 dX7_common_16 (by decide) (fun c2 => ?_) (fun c2 => ?_)
      · have hy0 := (sr_lz hy).mp c2
        refine wp_lload dX7_common_37 rfl ?_
        refine wp_lret dX7_common_39 rfl ⟨?_, rfl⟩
        rw [← hg, hy0, Nat.gcd_zero_right]
      · have hyn : ¬ y = 0 := fun z => c2 ((sr_lz hy).mpr z)
        refine wp_lload dX7_common_19 rfl ?_
        refine wp_lload dX7_common_21 rfl ?_
        refine wp_lrem dX7_common_23 (fun z => hyn ((sr_lz hy).mp z)) ?_
        refine wp_topl (fun x3 ex3 => ?_)
        refine wp_lstore (lv' := [(0, .long a), (2, .long b), (4, .long (lN x)), (6, .long (lN y)), (8, .long x3)]) dX7_common_24 (by decide) rfl ?_
        refine wp_lload dX7_common_26 rfl ?_
        refine wp_topl (fun x4 ex4 => ?_)
        refine wp_lstore (lv' := [(0, .long a), (2, .long b), (4, .long x4), (6, .long (lN y)), (8, .long x3)]) dX7_common_28 (by decide) rfl ?_
        refine wp_lload dX7_common_30 rfl ?_
        refine wp_lstore (lv' := [(0, .long a), (2, .long b), (4, .long x4), (6, .long x3), (8, .long x3)]) dX7_common_32 (by decide) rfl ?_
        refine wp_goto (tgt := 12) dX7_common_34 (by decide) ?_
        rw [pk_lRem hx (by omega) hy] at ex3
        subst ex3
        subst ex4
        have hm := Nat.mod_lt x (show 0 < y by omega)
        exact wp_pick [0, 1, 2, 3] rfl (ih y (x % y) (by omega) hy (by omega) (by rw [← hg, Nat.gcd_comm x y, Nat.gcd_rec y x, Nat.gcd_comm]))
  refine wp_lload_n dX7_common_0 rfl rfl ?_
  refine wp_callS (M2 := M_X7_size) (n := 1) (As := [.long a]) (st := []) dX7_common_1 (c_X7_size g D a) ca_X7_173 ⟨nm_X7_size, by decide, by decide⟩ rfl rfl (Nat.le_of_ble_eq_true rfl) (fun r5 E6 q7 => ?_)
  rw [sr_size_n ha] at q7
  obtain ⟨rfl, rfl⟩ := q7
  show WP g _ _ _ (.long (lN a.toInt.natAbs) :: _) _ _
  refine wp_lstore (lv' := [(0, .long a), (2, .long b), (4, .long (lN a.toInt.natAbs))]) dX7_common_4 (by decide) rfl ?_
  refine wp_lload_n dX7_common_6 rfl rfl ?_
  refine wp_callS (M2 := M_X7_size) (n := 1) (As := [.long b]) (st := []) dX7_common_7 (c_X7_size g D b) ca_X7_173 ⟨nm_X7_size, by decide, by decide⟩ rfl rfl (Nat.le_of_ble_eq_true rfl) (fun r8 E9 q10 => ?_)
  rw [sr_size_n hb] at q10
  obtain ⟨rfl, rfl⟩ := q10
  show WP g _ _ _ (.long (lN b.toInt.natAbs) :: _) _ _
  refine wp_lstore (lv' := [(0, .long a), (2, .long b), (4, .long (lN a.toInt.natAbs)), (6, .long (lN b.toInt.natAbs))]) dX7_common_10 (by decide) rfl ?_
  exact hL _ _ _ (Nat.le_refl _) ha2 hb2 hG
/-- a fraction told: its upper or its lower number, in least terms -/
def sr_told (up un : Int64) (b : Int32) : Int64 := (if b = 0 then up else un) / lN (Nat.gcd up.toInt.natAbs un.toInt.natAbs)
theorem sr_gcd_ne {a b : Int64} (ha : -(2 ^ 63 : Int) < a.toInt) (hb : -(2 ^ 63 : Int) < b.toInt) (h : ¬ b = 0) : ¬ lN (Nat.gcd a.toInt.natAbs b.toInt.natAbs) = 0 := by
  have hb2 : b.toInt.natAbs < 2 ^ 63 := by have := Int64.toInt_lt b; omega
  have h0 : ¬ b.toInt.natAbs = 0 := by
    intro z
    apply h
    apply Int64.toInt_inj.mp
    show b.toInt = 0
    omega
  have hle := Nat.le_of_dvd (by omega) (Nat.gcd_dvd_right a.toInt.natAbs b.toInt.natAbs)
  have hp := Nat.gcd_pos_of_pos_right a.toInt.natAbs (show 0 < b.toInt.natAbs by omega)
  intro z
  rw [sr_lz (by omega)] at z
  omega
set_option maxHeartbeats 4000000 in
set_option maxRecDepth 100000 in
theorem c_X7_told_ (g : sr_G) (D : sr_St) (up un : Int64) (b : Int32) (hup : -(2 ^ 63 : Int) < up.toInt) (hun : -(2 ^ 63 : Int) < un.toInt) (h0 : ¬ un = 0)  : Con g M_X7_told_ [.long up, .long un, .int b] D (sr_ret (some (.long (sr_told up un b))) D) := by
  refine Con.of pn_X7_told_ (Nat.le_of_ble_eq_true rfl) ?_
  show WP g M_X7_told_ 0 [(0, .long up), (2, .long un), (4, .int b)] [] D _
  refine wp_iload dX7_told__0 rfl ?_
  refine wp_if_eq (tgt := 9) dX7_told__2 (by decide) (fun c11 => ?_) (fun c11 => ?_)
  · refine wp_lload_n dX7_told__9 rfl rfl ?_
    refine wp_lload_n dX7_told__10 rfl rfl ?_
    refine wp_lload_n dX7_told__11 rfl rfl ?_
    refine wp_callS (M2 := M_X7_common) (n := 2) (As := [.long up, .long un]) (st := [.long up]) dX7_told__12 (c_X7_common g D up un hup hun) ca_X7_177 ⟨nm_X7_common, by decide, by decide⟩ rfl rfl (Nat.le_of_ble_eq_true rfl) (fun r12 E13 q14 => ?_)
    obtain ⟨rfl, rfl⟩ := q14
    show WP g _ _ _ (.long (lN (Nat.gcd up.toInt.natAbs un.toInt.natAbs)) :: _) _ _
    refine wp_ldiv dX7_told__15 (sr_gcd_ne hup hun h0) ?_
    refine wp_lret dX7_told__16 rfl ⟨?_, rfl⟩
    unfold sr_told
    first | rw [if_pos c11] | rw [if_neg c11]
  · refine wp_lload_n dX7_told__5 rfl rfl ?_
    refine wp_goto (tgt := 10) dX7_told__6 (by decide) ?_
    refine wp_lload_n dX7_told__10 rfl rfl ?_
    refine wp_lload_n dX7_told__11 rfl rfl ?_
    refine wp_callS (M2 := M_X7_common) (n := 2) (As := [.long up, .long un]) (st := [.long un]) dX7_told__12 (c_X7_common g D up un hup hun) ca_X7_177 ⟨nm_X7_common, by decide, by decide⟩ rfl rfl (Nat.le_of_ble_eq_true rfl) (fun r15 E16 q17 => ?_)
    obtain ⟨rfl, rfl⟩ := q17
    show WP g _ _ _ (.long (lN (Nat.gcd up.toInt.natAbs un.toInt.natAbs)) :: _) _ _
    refine wp_ldiv dX7_told__15 (sr_gcd_ne hup hun h0) ?_
    refine wp_lret dX7_told__16 rfl ⟨?_, rfl⟩
    unfold sr_told
    first | rw [if_pos c11] | rw [if_neg c11]
/-- fractions compared, times a sign -/
def sr_cmp (p q r s : Nat) (sg : Int32) : Int32 := if p * s < r * q then -sg else if p * s = r * q then 0 else sg
theorem sr_cmp_eqn {p q r s : Nat} (hq : 0 < q) (hs : 0 < s) (h : p / q = r / s) : (p * s < r * q ↔ (p % q) * s < (r % s) * q) ∧ (p * s = r * q ↔ (p % q) * s = (r % s) * q) := by
  have h1 := Nat.div_add_mod p q
  have h2 := Nat.div_add_mod r s
  have e1 : p * s = (p / q) * (q * s) + (p % q) * s := by
    conv => lhs; rw [← h1]
    rw [Nat.add_mul, Nat.mul_comm q (p / q), Nat.mul_assoc]
  have e2 : r * q = (p / q) * (q * s) + (r % s) * q := by
    conv => lhs; rw [← h2]
    rw [Nat.add_mul, Nat.mul_comm s (r / s), Nat.mul_assoc, h, Nat.mul_comm s q]
  rw [e1, e2]
  constructor <;> omega
theorem sr_cmp_lt1 {p q r s : Nat} (hq : 0 < q) (hs : 0 < s) (h : p / q < r / s) : p * s < r * q := by
  have h1 := Nat.div_add_mod p q
  have h3 := Nat.mod_lt p hq
  have h2 : (r / s) * s ≤ r := Nat.div_mul_le_self r s
  have e1 : p < (r / s) * q := by
    have : (p / q + 1) * q ≤ (r / s) * q := Nat.mul_le_mul_right q h
    rw [Nat.add_mul, Nat.one_mul, Nat.mul_comm (p / q) q] at this
    omega
  have e2 : p * s < (r / s) * q * s := Nat.mul_lt_mul_of_pos_right e1 hs
  have e3 : (r / s) * q * s = (r / s) * s * q := by rw [Nat.mul_assoc, Nat.mul_comm q s, ← Nat.mul_assoc]
  have e4 : (r / s) * s * q ≤ r * q := Nat.mul_le_mul_right q h2
  omega
theorem sr_cmp_gt1 {p q r s : Nat} (hq : 0 < q) (hs : 0 < s) (h : r / s < p / q) : r * q < p * s := sr_cmp_lt1 hs hq h
set_option maxHeartbeats 4000000 in
set_option maxRecDepth 100000 in
theorem c_X7_compared (g : sr_G) (D : sr_St) (p q r s : Nat) (hp : p < 2 ^ 63) (hq : q < 2 ^ 63) (hr : r < 2 ^ 63) (hs : s < 2 ^ 63) (hq0 : 0 < q) (hs0 : 0 < s)  : Con g M_X7_compared [.long (lN p), .long (lN q), .long (lN r), .long (lN s)] D (sr_ret (some (.int (sr_cmp p q r s 1))) D) := by
  refine Con.of pn_X7_compared (Nat.le_of_ble_eq_true rfl) ?_
  show WP g M_X7_compared 0 [(0, .long (lN p)), (2, .long (lN q)), (4, .long (lN r)), (6, .long (lN s))] [] D _
  generalize hR : sr_cmp p q r s 1 = R
  generalize hA : lN p = A
  generalize hB : lN q = B
  generalize hC : lN r = C
  generalize hDD : lN s = DD
  have hL : ∀ (k p q r s : Nat) (sg : Int32), q ≤ k → p < 2 ^ 63 → q < 2 ^ 63 → r < 2 ^ 63 → s < 2 ^ 63 → 0 < q → 0 < s → sr_cmp p q r s sg = R → WP g M_X7_compared 17 [(0, .long A), (2, .long B), (4, .long C), (6, .long DD), (8, .long (lN p)), (10, .long (lN q)), (12, .long (lN r)), (14, .long (lN s)), (16, .int sg)] [] D (sr_ret (some (.int R)) D) := by
    intro k
    induction k with
    | zero => intro p q r s sg h; omega
    | succ k ih =>
      intro p q r s sg hk hp hq hr hs hq0 hs0 hR
      have hqn : ¬ lN q = 0 := fun z => by rw [sr_lz hq] at z; omega
      have hsn : ¬ lN s = 0 := fun z => by rw [sr_lz hs] at z; omega
      have ed1 := pk_lDiv hp hq0 hq
      have ed2 := pk_lDiv hr hs0 hs
      have er1 := pk_lRem hp hq0 hq
      have er2 := pk_lRem hr hs0 hs
      have hd1 := Nat.div_le_self p q
      have hd2 := Nat.div_le_self r s
      have hm1 := Nat.mod_lt p hq0
      have hm2 := Nat.mod_lt r hs0
      refine wp_lload dX7_compared_17 rfl ?_
      refine wp_lload dX7_compared_19 rfl ?_
      refine wp_ldiv dX7_compared_21 (hqn) ?_
      refine wp_lload dX7_compared_22 rfl ?_
      refine wp_lload dX7_compared_24 rfl ?_
      refine wp_ldiv dX7_compared_26 (hsn) ?_
      refine wp_lcmp_eq (tgt := 54) dX7_compared_27 dX7_compared_28 (by decide) (fun c18 => ?_) (fun c18 => ?_)
      · rw [ed1, ed2] at c18
        have hqe := (pk_lEQ (by omega) (by omega)).mp c18
        have hce := sr_cmp_eqn hq0 hs0 hqe
        refine wp_lload dX7_compared_54 rfl ?_
        refine wp_lload dX7_compared_56 rfl ?_
        refine wp_lrem dX7_compared_58 (hqn) ?_
        rw [er1]
        refine wp_lstore (lv' := [(0, .long A), (2, .long B), (4, .long C), (6, .long DD), (8, .long (lN p)), (10, .long (lN q)), (12, .long (lN r)), (14, .long (lN s)), (16, .int sg), (17, .long (lN (p % q)))]) dX7_compared_59 (by decide) rfl ?_
        refine wp_lload dX7_compared_61 rfl ?_
        refine wp_lload dX7_compared_63 rfl ?_
        refine wp_lrem dX7_compared_65 (hsn) ?_
        rw [er2]
        refine wp_lstore (lv' := [(0, .long A), (2, .long B), (4, .long C), (6, .long DD), (8, .long (lN p)), (10, .long (lN q)), (12, .long (lN r)), (14, .long (lN s)), (16, .int sg), (17, .long (lN (p % q))), (19, .long (lN (r % s)))]) dX7_compared_66 (by decide) rfl ?_
        refine wp_lload dX7_compared_68 rfl ?_
        refine wp_lconst (v := 0) dX7_compared_70 rfl ?_
        refine wp_lcmp_eq (tgt := 82) dX7_compared_71 dX7_compared_72 (by decide) (fun c19 => ?_) (fun c19 => ?_)
        · have hz1 : p % q = 0 := (sr_lz (by omega)).mp c19
          refine wp_lload dX7_compared_82 rfl ?_
          refine wp_lload dX7_compared_84 rfl ?_
          refine wp_lcmp_ne (tgt := 94) dX7_compared_86 dX7_compared_87 (by decide) (fun c20 => ?_) (fun c20 => ?_)
          · have hre : ¬ p % q = r % s := fun z => c20 (by rw [z])
            refine wp_lload dX7_compared_94 rfl ?_
            refine wp_lconst (v := 0) dX7_compared_96 rfl ?_
            refine wp_lcmp_ne (tgt := 107) dX7_compared_97 dX7_compared_98 (by decide) (fun c21 => ?_) (fun c21 => ?_)
            · have hz3 : ¬ p % q = 0 := fun z => c21 ((sr_lz (by omega)).mpr z)
              refine wp_iload dX7_compared_107 rfl ?_
              refine wp_iret dX7_compared_109 rfl ⟨?_, rfl⟩
              rw [← hR]
              unfold sr_cmp
              have hr0 : r % s = 0 := by omega
              have e1 : ¬ p * s < r * q := fun z => by have := hce.1.mp z; rw [hr0, Nat.zero_mul] at this; omega
              have e2 : ¬ p * s = r * q := fun z => by have := hce.2.mp z; rw [hr0, Nat.zero_mul] at this; have := Nat.mul_pos (show 0 < p % q by omega) hs0; omega
              rw [if_neg e1, if_neg e2]
            · have hz3 : p % q = 0 := (sr_lz (by omega)).mp c21
              refine wp_iload dX7_compared_101 rfl ?_
              refine wp_ineg dX7_compared_103 ?_
              refine wp_goto (tgt := 109) dX7_compared_104 (by decide) ?_
              refine wp_iret dX7_compared_109 rfl ⟨?_, rfl⟩
              rw [← hR]
              unfold sr_cmp
              have e : p * s < r * q := hce.1.mpr (by rw [hz3, Nat.zero_mul]; exact Nat.mul_pos (by omega) hq0)
              rw [if_pos e]
          · have hre : p % q = r % s := (pk_lEQ (by omega) (by omega)).mp c20
            refine wp_iconst (v := nI 0) dX7_compared_90 rfl ?_
            refine wp_goto (tgt := 109) dX7_compared_91 (by decide) ?_
            refine wp_iret dX7_compared_109 rfl ⟨?_, rfl⟩
            rw [← hR]
            unfold sr_cmp
            have hr0 : r % s = 0 := by omega
            have hp0 : p % q = 0 := by omega
            have e : p * s = r * q := hce.2.mpr (by rw [hr0, hp0]; simp)
            rw [if_neg (by omega), if_pos e]; rfl
        · have hz1 : ¬ p % q = 0 := fun z => c19 ((sr_lz (by omega)).mpr z)
          refine wp_lload dX7_compared_75 rfl ?_
          refine wp_lconst (v := 0) dX7_compared_77 rfl ?_
          refine wp_lcmp_ne (tgt := 110) dX7_compared_78 dX7_compared_79 (by decide) (fun c22 => ?_) (fun c22 => ?_)
          · have hz2 : ¬ r % s = 0 := fun z => c22 ((sr_lz (by omega)).mpr z)
            refine wp_lload dX7_compared_110 rfl ?_
            refine wp_lstore (lv' := [(0, .long A), (2, .long B), (4, .long C), (6, .long DD), (8, .long (lN q)), (10, .long (lN q)), (12, .long (lN r)), (14, .long (lN s)), (16, .int sg), (17, .long (lN (p % q))), (19, .long (lN (r % s)))]) dX7_compared_112 (by decide) rfl ?_
            refine wp_lload dX7_compared_114 rfl ?_
            refine wp_lstore (lv' := [(0, .long A), (2, .long B), (4, .long C), (6, .long DD), (8, .long (lN q)), (10, .long (lN (p % q))), (12, .long (lN r)), (14, .long (lN s)), (16, .int sg), (17, .long (lN (p % q))), (19, .long (lN (r % s)))]) dX7_compared_116 (by decide) rfl ?_
            refine wp_lload dX7_compared_118 rfl ?_
            refine wp_lstore (lv' := [(0, .long A), (2, .long B), (4, .long C), (6, .long DD), (8, .long (lN q)), (10, .long (lN (p % q))), (12, .long (lN s)), (14, .long (lN s)), (16, .int sg), (17, .long (lN (p % q))), (19, .long (lN (r % s)))]) dX7_compared_120 (by decide) rfl ?_
            refine wp_lload dX7_compared_122 rfl ?_
            refine wp_lstore (lv' := [(0, .long A), (2, .long B), (4, .long C), (6, .long DD), (8, .long (lN q)), (10, .long (lN (p % q))), (12, .long (lN s)), (14, .long (lN (r % s))), (16, .int sg), (17, .long (lN (p % q))), (19, .long (lN (r % s)))]) dX7_compared_124 (by decide) rfl ?_
            refine wp_iload dX7_compared_126 rfl ?_
            refine wp_ineg dX7_compared_128 ?_
            refine wp_istore (lv' := [(0, .long A), (2, .long B), (4, .long C), (6, .long DD), (8, .long (lN q)), (10, .long (lN (p % q))), (12, .long (lN s)), (14, .long (lN (r % s))), (16, .int (-sg)), (17, .long (lN (p % q))), (19, .long (lN (r % s)))]) dX7_compared_129 (by decide) rfl ?_
            refine wp_goto (tgt := 17) dX7_compared_131 (by decide) ?_
            refine wp_pick [0, 1, 2, 3, 4, 5, 6, 7, 8] rfl (ih q (p % q) s (r % s) (-sg) (by omega) hq (by omega) hs (by omega) (by omega) (by omega) ?_)
            rw [← hR]
            unfold sr_cmp
            rw [Int32.neg_neg]
            have c1 := hce.1
            have c2 := hce.2
            rw [Nat.mul_comm q (r % s), Nat.mul_comm s (p % q)]
            by_cases e1 : p * s < r * q
            · rw [if_pos e1]; have := c1.mp e1; rw [if_neg (by omega), if_neg (by omega)]
            · rw [if_neg e1]; by_cases e2 : p * s = r * q
              · rw [if_pos e2]; have := c2.mp e2; rw [if_neg (by omega), if_pos (by omega)]
              · rw [if_neg e2]; have h3 : ¬ p % q * s < r % s * q := fun z => e1 (c1.mpr z); have h4 : ¬ p % q * s = r % s * q := fun z => e2 (c2.mpr z); rw [if_pos (by omega)]
          · have hz2 : r % s = 0 := (sr_lz (by omega)).mp c22
            refine wp_lload dX7_compared_82 rfl ?_
            refine wp_lload dX7_compared_84 rfl ?_
            refine wp_lcmp_ne (tgt := 94) dX7_compared_86 dX7_compared_87 (by decide) (fun c23 => ?_) (fun c23 => ?_)
            · have hre : ¬ p % q = r % s := fun z => c23 (by rw [z])
              refine wp_lload dX7_compared_94 rfl ?_
              refine wp_lconst (v := 0) dX7_compared_96 rfl ?_
              refine wp_lcmp_ne (tgt := 107) dX7_compared_97 dX7_compared_98 (by decide) (fun c24 => ?_) (fun c24 => ?_)
              · have hz3 : ¬ p % q = 0 := fun z => c24 ((sr_lz (by omega)).mpr z)
                refine wp_iload dX7_compared_107 rfl ?_
                refine wp_iret dX7_compared_109 rfl ⟨?_, rfl⟩
                rw [← hR]
                unfold sr_cmp
                have hr0 : r % s = 0 := by omega
                have e1 : ¬ p * s < r * q := fun z => by have := hce.1.mp z; rw [hr0, Nat.zero_mul] at this; omega
                have e2 : ¬ p * s = r * q := fun z => by have := hce.2.mp z; rw [hr0, Nat.zero_mul] at this; have := Nat.mul_pos (show 0 < p % q by omega) hs0; omega
                rw [if_neg e1, if_neg e2]
              · have hz3 : p % q = 0 := (sr_lz (by omega)).mp c24
                refine wp_iload dX7_compared_101 rfl ?_
                refine wp_ineg dX7_compared_103 ?_
                refine wp_goto (tgt := 109) dX7_compared_104 (by decide) ?_
                refine wp_iret dX7_compared_109 rfl ⟨?_, rfl⟩
                rw [← hR]
                unfold sr_cmp
                have e : p * s < r * q := hce.1.mpr (by rw [hz3, Nat.zero_mul]; exact Nat.mul_pos (by omega) hq0)
                rw [if_pos e]
            · have hre : p % q = r % s := (pk_lEQ (by omega) (by omega)).mp c23
              refine wp_iconst (v := nI 0) dX7_compared_90 rfl ?_
              refine wp_goto (tgt := 109) dX7_compared_91 (by decide) ?_
              refine wp_iret dX7_compared_109 rfl ⟨?_, rfl⟩
              rw [← hR]
              unfold sr_cmp
              have hr0 : r % s = 0 := by omega
              have hp0 : p % q = 0 := by omega
              have e : p * s = r * q := hce.2.mpr (by rw [hr0, hp0]; simp)
              rw [if_neg (by omega), if_pos e]; rfl
      · rw [ed1, ed2] at c18
        have hqe : ¬ p / q = r / s := fun z => c18 ((pk_lEQ (by omega) (by omega)).mpr z)
        refine wp_lload dX7_compared_31 rfl ?_
        refine wp_lload dX7_compared_33 rfl ?_
        refine wp_ldiv dX7_compared_35 (hqn) ?_
        refine wp_lload dX7_compared_36 rfl ?_
        refine wp_lload dX7_compared_38 rfl ?_
        refine wp_ldiv dX7_compared_40 (hsn) ?_
        refine wp_lcmp_ge (tgt := 51) dX7_compared_41 dX7_compared_42 (by decide) (fun c25 => ?_) (fun c25 => ?_)
        · rw [ed1, ed2] at c25
          have hge : ¬ p / q < r / s := fun z => by rw [pk_lLE (by omega) (by omega)] at c25; omega
          refine wp_iload dX7_compared_51 rfl ?_
          refine wp_iret dX7_compared_53 rfl ⟨?_, rfl⟩
          rw [← hR]
          unfold sr_cmp
          have hgt := sr_cmp_gt1 hq0 hs0 (show r / s < p / q by omega)
          rw [if_neg (by omega), if_neg (by omega)]
        · rw [ed1, ed2] at c25
          have hge : p / q < r / s := Decidable.not_not.mp (fun z => c25 ((pk_lLE (by omega) (by omega)).mpr (by omega)))
          refine wp_iload dX7_compared_45 rfl ?_
          refine wp_ineg dX7_compared_47 ?_
          refine wp_goto (tgt := 53) dX7_compared_48 (by decide) ?_
          refine wp_iret dX7_compared_53 rfl ⟨?_, rfl⟩
          rw [← hR]
          unfold sr_cmp
          rw [if_pos (sr_cmp_lt1 hq0 hs0 hge)]
  refine wp_lload_n dX7_compared_0 rfl rfl ?_
  refine wp_lstore (lv' := [(0, .long A), (2, .long B), (4, .long C), (6, .long DD), (8, .long A)]) dX7_compared_1 (by decide) rfl ?_
  refine wp_lload_n dX7_compared_3 rfl rfl ?_
  refine wp_lstore (lv' := [(0, .long A), (2, .long B), (4, .long C), (6, .long DD), (8, .long A), (10, .long B)]) dX7_compared_4 (by decide) rfl ?_
  refine wp_lload dX7_compared_6 rfl ?_
  refine wp_lstore (lv' := [(0, .long A), (2, .long B), (4, .long C), (6, .long DD), (8, .long A), (10, .long B), (12, .long C)]) dX7_compared_8 (by decide) rfl ?_
  refine wp_lload dX7_compared_10 rfl ?_
  refine wp_lstore (lv' := [(0, .long A), (2, .long B), (4, .long C), (6, .long DD), (8, .long A), (10, .long B), (12, .long C), (14, .long DD)]) dX7_compared_12 (by decide) rfl ?_
  refine wp_iconst (v := nI 1) dX7_compared_14 rfl ?_
  refine wp_istore (lv' := [(0, .long A), (2, .long B), (4, .long C), (6, .long DD), (8, .long A), (10, .long B), (12, .long C), (14, .long DD), (16, .int (nI 1))]) dX7_compared_15 (by decide) rfl ?_
  subst hA hB hC hDD
  exact hL q p q r s 1 (Nat.le_refl _) hp hq hr hs hq0 hs0 hR
