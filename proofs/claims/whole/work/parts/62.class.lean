/-! ===== odd ===== -/
theorem sr_told_n {u b : Nat} (hu : u < 2 ^ 63) (hb : b < 2 ^ 63) (h0 : 0 < b) : sr_told (lN u) (lN b) (nI 0) = lN (u / Nat.gcd u b) ∧ sr_told (lN u) (lN b) (nI 1) = lN (b / Nat.gcd u b) := by
  have hg : 0 < Nat.gcd u b := Nat.gcd_pos_of_pos_right _ h0
  have hl : Nat.gcd u b < 2 ^ 63 := Nat.lt_of_le_of_lt (Nat.le_of_dvd h0 (Nat.gcd_dvd_right _ _)) hb
  unfold sr_told
  rw [pk_lT hu, pk_lT hb, Int.natAbs_natCast, Int.natAbs_natCast, if_pos (show nI 0 = 0 from rfl), if_neg (show ¬ nI 1 = 0 by decide)]
  exact ⟨pk_lDiv hu hg hl, pk_lDiv hb hg hl⟩
/-- a fraction's numbers in least terms -/
def cl_fu (up un : Int64) : Nat := up.toInt.toNat / Nat.gcd up.toInt.toNat un.toInt.toNat
def cl_fd (up un : Int64) : Nat := un.toInt.toNat / Nat.gcd up.toInt.toNat un.toInt.toNat
def cl_sm (up un : Int64) : Prop := 0 ≤ up.toInt ∧ un.toInt < 2 ^ 31
theorem cl_sm_n {up un : Int64} (h : cl_sm up un) (h0 : 0 < un) : sr_told up un (nI 0) = lN (cl_fu up un) ∧ sr_told up un (nI 1) = lN (cl_fd up un) ∧ cl_fu up un < 2 ^ 63 ∧ cl_fd up un < 2 ^ 31 ∧ 0 < cl_fd up un := by
  rw [Int64.lt_iff_toInt_lt] at h0
  have e0 : (0 : Int64).toInt = 0 := rfl
  have h1 := sr_lN_of h.1
  have h2 := sr_lN_of (x := un) (by omega)
  have hun : un.toInt.toNat < 2 ^ 31 := by have := h.2; omega
  have ht := sr_told_n h1.2 h2.2 (by omega)
  rw [← h1.1, ← h2.1] at ht
  have hg : 0 < Nat.gcd up.toInt.toNat un.toInt.toNat := Nat.gcd_pos_of_pos_right _ (by omega)
  refine ⟨ht.1, ht.2, Nat.lt_of_le_of_lt (Nat.div_le_self _ _) h1.2, Nat.lt_of_le_of_lt (Nat.div_le_self _ _) hun, ?_⟩
  exact Nat.div_pos (Nat.le_of_dvd (by omega) (Nat.gcd_dvd_right _ _)) hg
theorem cl_q31 {q s : Nat} (hq : q < 2 ^ 31) (hs : s < 2 ^ 31) : q * s < 2 ^ 63 := Nat.lt_of_le_of_lt (Nat.mul_le_mul (Nat.le_of_lt hq) (Nat.le_of_lt hs)) (by decide)
def cl_oY (now : Nat → Int32) (r q : Nat) : cl_T := cl_inc (-1) (cl_rf now q) (cl_G now r)
def cl_ou (now : Nat → Int32) (r q : Nat) : Nat := cl_fu (cl_sum (cl_oY now r q)) (cl_by (cl_oY now r q))
def cl_ob (now : Nat → Int32) (r q : Nat) : Nat := cl_fd (cl_sum (cl_oY now r q)) (cl_by (cl_oY now r q))
def cl_od (now : Nat → Int32) (r : Nat) : Nat → Nat × Nat × Nat
  | 0 => (0, 0, 1)
  | q + 1 => if q = 0 ∨ cl_ou now r q * (cl_od now r q).2.2 < (cl_od now r q).2.1 * cl_ob now r q then (q, cl_ou now r q, cl_ob now r q) else cl_od now r q
def cl_odok (now : Nat → Int32) (r : Nat) : Prop := ∀ q, q < r → cl_sm (cl_sum (cl_oY now r q)) (cl_by (cl_oY now r q))
theorem cl_od_ok {now : Nat → Int32} {r : Nat} (hr : r ≤ 12) (h : cl_odok now r) : ∀ q, q ≤ r → (cl_od now r q).1 < 12 ∧ (cl_od now r q).2.1 < 2 ^ 63 ∧ (cl_od now r q).2.2 < 2 ^ 31 ∧ 0 < (cl_od now r q).2.2 := by
  intro q
  induction q with
  | zero => intro _; exact ⟨(show 0 < 12 by decide), (show 0 < 2 ^ 63 by decide), (show 1 < 2 ^ 31 by decide), (show 0 < 1 by decide)⟩
  | succ q ih =>
    intro hq
    have hb := cl_sm_n (h q (by omega)) (cl_go_pos 7).1
    unfold cl_od
    split
    · exact ⟨by show q < 12; omega, hb.2.2.1, hb.2.2.2.1, hb.2.2.2.2⟩
    · exact ih (by omega)
def cl_oda (now : Nat → Int32) (r w : Nat) : Int64 := if w = 0 then (nI (cl_od now r r).1).toInt64 else if w = 1 then lN (cl_od now r r).2.1 else lN (cl_od now r r).2.2
def cl_le (E : sr_St) (s : Nat × Nat × Nat) : Prop := E.2 58 0 = lN s.2.1 ∧ E.2 58 1 = lN s.2.2
set_option maxHeartbeats 400000 in
set_option maxRecDepth 100000 in
theorem c_X6_odd (g : sr_G) (D : sr_St) (now : Nat → Int32) (n r : Nat) (hci : CI now n r D) (w : Int32) (hod : cl_odok now r) : Con g M_X6_odd [.ref 0, .int w] D (fun qa D' => qa = some (.long (if (decide (¬ r = 0) && sr_isIn w (nI 0) (nI 2)) = true then cl_oda now r w.toNatClampNeg else -1)) ∧ cl_pr D D') := by
  refine Con.of pn_X6_odd (Nat.le_of_ble_eq_true rfl) ?_
  show WP g M_X6_odd 0 [(0, .ref 0), (1, .int w)] [] D _
  have hn6 := hci.n6
  have hr12 := hci.r12
  by_cases hok : (decide (¬ r = 0) && sr_isIn w (nI 0) (nI 2)) = true
  · obtain ⟨h1, h2⟩ := Bool.and_eq_true_iff.mp hok
    have hr0 := of_decide_eq_true h1
    obtain ⟨z, hz, rfl⟩ := (sr_in_n (n := 3) (by decide)).mp h2
    have hbo := cl_od_ok hr12 hod
    have hL : ∀ q, q ≤ r → ∀ E : sr_St, cl_pr D E → (¬ q = 0 → cl_le E (cl_od now r q)) → WP g M_X6_odd 27 [(0, .ref 0), (1, .int (nI z)), (2, .int (nI ((cl_od now r q).1))), (3, .int (nI q))] [] E (fun qa D' => qa = some (.long (if (decide (¬ r = 0) && sr_isIn (nI z) (nI 0) (nI 2)) = true then cl_oda now r (nI z).toNatClampNeg else -1)) ∧ cl_pr D D') := by
      refine sr_up (fun q hq ih E hpr hle => ?_)
      obtain ⟨b1, b2, b3, b4⟩ := hbo q hq
      have h64 := fun h : q < r => sr_lo64 hci.1 h
      have h139 : q < r → ∀ F : sr_St, cl_pr D F → F.2 57 0 = lN (cl_ou now r q) → F.2 57 1 = lN (cl_ob now r q) → (¬ q = 0 → cl_le F (cl_od now r q)) → WP g M_X6_odd 139 [(0, .ref 0), (1, .int (nI z)), (2, .int (nI ((cl_od now r q).1))), (3, .int (nI q))] [] F (fun qa D' => qa = some (.long (if (decide (¬ r = 0) && sr_isIn (nI z) (nI 0) (nI 2)) = true then cl_oda now r (nI z).toNatClampNeg else -1)) ∧ cl_pr D D') := by
        intro hqr F hpr k1 k2 hle
        obtain ⟨_, _, c1, c2, c3⟩ := cl_sm_n (hod q hqr) (cl_go_pos 7).1
        refine wp_iload_n dX6_odd_139 rfl rfl ?_
        refine wp_if_eq_n (tgt := 157) dX6_odd_140 (by decide) (by first | omega | (split <;> omega)) (fun c732 => ?_) (fun c732 => ?_)
        · have hc : q = 0 ∨ cl_ou now r q * (cl_od now r q).2.2 < (cl_od now r q).2.1 * cl_ob now r q := Or.inl c732
          refine wp_iload_n dX6_odd_157 rfl rfl ?_
          refine wp_istore_n (lv' := [(0, .ref 0), (1, .int (nI z)), (2, .int (nI q)), (3, .int (nI q))]) dX6_odd_158 rfl (by decide) rfl ?_
          refine wp_aload_n dX6_odd_159 rfl rfl ?_
          refine wp_getR (r := 58) dX6_odd_160 fl_X6_43 (by decide) rfl rfl rfl ?_
          refine wp_aload_n dX6_odd_163 rfl rfl ?_
          refine wp_getR (r := 57) dX6_odd_164 fl_X6_40 (by decide) rfl rfl rfl ?_
          refine wp_callV (M2 := M_X2_copyFrom) (n := 1) (As := [.ref 57]) (st := []) dX6_odd_167 (c_X2_copyFrom58 g F) ca_X6_270 ⟨nm_X2_copyFrom, by decide, by decide⟩ rfl (by decide) rfl rfl rfl (Nat.le_of_ble_eq_true rfl) (fun r733 E734 q735 => ?_)
          obtain ⟨rfl, eE734⟩ := q735
          have eE734 := eE734.symm
          show WP g _ _ _ _ _ _
          refine wp_iinc_n (b := 1) (lv' := [(0, .ref 0), (1, .int (nI z)), (2, .int (nI q)), (3, .int (nI (q + 1)))]) dX6_odd_170 rfl rfl (by decide) rfl ?_
          refine wp_goto (tgt := 27) dX6_odd_173 (by decide) ?_
          have hS : cl_od now r (q + 1) = _ := if_pos hc
          have h := ih (by omega) E734 (hpr.tr (by rw [eE734]; exact ⟨fun _ _ _ => rfl, fun o ho => by funext y; rw [sr_sJ_2, if_neg (by omega), sr_sJ_2, if_neg (by omega)]⟩)) (fun _ => by rw [hS, eE734]; exact ⟨by rw [sr_sJ_2, if_neg (by decide), sr_sJ_2, if_pos ⟨rfl, rfl⟩]; exact k1, by rw [sr_sJ_2, if_pos ⟨rfl, rfl⟩]; exact k2⟩)
          rw [hS] at h
          try dsimp only at h
          exact h
        · have hq0 := c732
          refine wp_aload_n dX6_odd_143 rfl rfl ?_
          refine wp_getR (r := 57) dX6_odd_144 fl_X6_40 (by decide) rfl rfl rfl ?_
          refine wp_aload_n dX6_odd_147 rfl rfl ?_
          refine wp_getR (r := 58) dX6_odd_148 fl_X6_43 (by decide) rfl rfl rfl ?_
          refine wp_callV (M2 := M_X2_isBelow) (n := 1) (As := [.ref 58]) (st := []) dX6_odd_151 (c_X2_isBelow58 g F (cl_ou now r q) (cl_ob now r q) (cl_od now r q).2.1 (cl_od now r q).2.2 k1 k2 (hle hq0).1 (hle hq0).2 c1 (by unfold cl_ob; omega) b2 (by omega) (by unfold cl_ob; omega) b4 (cl_q31 c2 b3)) ca_X6_266 ⟨nm_X2_isBelow, by decide, by decide⟩ rfl (by decide) rfl rfl rfl (Nat.le_of_ble_eq_true rfl) (fun r736 E737 q738 => ?_)
          obtain ⟨rfl, rfl⟩ := q738
          show WP g _ _ _ (.int (sr_b (decide (cl_ou now r q * (cl_od now r q).2.2 < (cl_od now r q).2.1 * cl_ob now r q))) :: _) _ _
          refine wp_if_eq_b (tgt := 170) dX6_odd_154 (by decide) (fun c739 => ?_) (fun c739 => ?_)
          · have hc : ¬ (q = 0 ∨ cl_ou now r q * (cl_od now r q).2.2 < (cl_od now r q).2.1 * cl_ob now r q) := fun zz => zz.elim hq0 (of_decide_eq_false c739)
            refine wp_iinc_n (b := 1) (lv' := [(0, .ref 0), (1, .int (nI z)), (2, .int (nI ((cl_od now r q).1))), (3, .int (nI (q + 1)))]) dX6_odd_170 rfl rfl (by decide) rfl ?_
            refine wp_goto (tgt := 27) dX6_odd_173 (by decide) ?_
            have hS : cl_od now r (q + 1) = cl_od now r q := if_neg hc
            have h := ih (by omega) F hpr (fun _ => by rw [hS]; exact hle hq0)
            rw [hS] at h
            exact h
          · have hc : q = 0 ∨ cl_ou now r q * (cl_od now r q).2.2 < (cl_od now r q).2.1 * cl_ob now r q := Or.inr (of_decide_eq_true c739)
            refine wp_iload_n dX6_odd_157 rfl rfl ?_
            refine wp_istore_n (lv' := [(0, .ref 0), (1, .int (nI z)), (2, .int (nI q)), (3, .int (nI q))]) dX6_odd_158 rfl (by decide) rfl ?_
            refine wp_aload_n dX6_odd_159 rfl rfl ?_
            refine wp_getR (r := 58) dX6_odd_160 fl_X6_43 (by decide) rfl rfl rfl ?_
            refine wp_aload_n dX6_odd_163 rfl rfl ?_
            refine wp_getR (r := 57) dX6_odd_164 fl_X6_40 (by decide) rfl rfl rfl ?_
            refine wp_callV (M2 := M_X2_copyFrom) (n := 1) (As := [.ref 57]) (st := []) dX6_odd_167 (c_X2_copyFrom58 g F) ca_X6_270 ⟨nm_X2_copyFrom, by decide, by decide⟩ rfl (by decide) rfl rfl rfl (Nat.le_of_ble_eq_true rfl) (fun r740 E741 q742 => ?_)
            obtain ⟨rfl, eE741⟩ := q742
            have eE741 := eE741.symm
            show WP g _ _ _ _ _ _
            refine wp_iinc_n (b := 1) (lv' := [(0, .ref 0), (1, .int (nI z)), (2, .int (nI q)), (3, .int (nI (q + 1)))]) dX6_odd_170 rfl rfl (by decide) rfl ?_
            refine wp_goto (tgt := 27) dX6_odd_173 (by decide) ?_
            have hS : cl_od now r (q + 1) = _ := if_pos hc
            have h := ih (by omega) E741 (hpr.tr (by rw [eE741]; exact ⟨fun _ _ _ => rfl, fun o ho => by funext y; rw [sr_sJ_2, if_neg (by omega), sr_sJ_2, if_neg (by omega)]⟩)) (fun _ => by rw [hS, eE741]; exact ⟨by rw [sr_sJ_2, if_neg (by decide), sr_sJ_2, if_pos ⟨rfl, rfl⟩]; exact k1, by rw [sr_sJ_2, if_pos ⟨rfl, rfl⟩]; exact k2⟩)
            rw [hS] at h
            try dsimp only at h
            exact h
      refine wp_iload_n dX6_odd_27 rfl rfl ?_
      refine wp_aload_n dX6_odd_28 rfl rfl ?_
      refine wp_getR (r := 1) dX6_odd_29 fl_X6_10 (by decide) rfl rfl rfl ?_
      refine wp_getI_n (n := r) dX6_odd_32 fl_X6_123 (by decide) rfl rfl ((hci.pr hpr).2.1.2.2.1) ?_
      refine wp_icmp_ge_n (tgt := 176) dX6_odd_35 (by decide) (by first | omega | (split <;> omega)) (by first | omega | (split <;> omega)) (fun c743 => ?_) (fun c743 => ?_)
      · refine wp_iload_n dX6_odd_176 rfl rfl ?_
        refine wp_if_ne_n (tgt := 183) dX6_odd_177 (by decide) (by first | omega | (split <;> omega)) (fun c744 => ?_) (fun c744 => ?_)
        · have hz0 := c744
          refine wp_iload_n dX6_odd_183 rfl rfl ?_
          refine wp_iconst (v := nI 1) dX6_odd_184 rfl ?_
          refine wp_icmp_ne_n (tgt := 198) dX6_odd_185 (by decide) (by first | omega | (split <;> omega)) (by first | omega | (split <;> omega)) (fun c745 => ?_) (fun c745 => ?_)
          · have hz1 := c745
            refine wp_aload_n dX6_odd_198 rfl rfl ?_
            refine wp_getR (r := 58) dX6_odd_199 fl_X6_43 (by decide) rfl rfl rfl ?_
            refine wp_getJ dX6_odd_202 fl_X6_237 (by decide) rfl rfl ?_
            refine wp_lret dX6_odd_205 rfl ⟨?_, hpr⟩
            have hqe : q = r := by omega
            subst hqe
            rw [if_pos hok, nI_clamp (by omega)]
            unfold cl_oda
            rw [if_neg hz0, if_neg hz1, (hle hr0).2]
          · have hz1 := c745
            refine wp_aload_n dX6_odd_188 rfl rfl ?_
            refine wp_getR (r := 58) dX6_odd_189 fl_X6_43 (by decide) rfl rfl rfl ?_
            refine wp_getJ dX6_odd_192 fl_X6_234 (by decide) rfl rfl ?_
            refine wp_goto (tgt := 205) dX6_odd_195 (by decide) ?_
            refine wp_lret dX6_odd_205 rfl ⟨?_, hpr⟩
            have hqe : q = r := by omega
            subst hqe
            rw [if_pos hok, nI_clamp (by omega)]
            unfold cl_oda
            rw [if_neg hz0, if_pos hz1, (hle hr0).1]
        · have hz0 := c744
          refine wp_iload_n dX6_odd_180 rfl rfl ?_
          refine wp_i2l dX6_odd_181 ?_
          refine wp_lret dX6_odd_182 rfl ⟨?_, hpr⟩
          have hqe : q = r := by omega
          subst hqe
          rw [if_pos hok, nI_clamp (by omega)]
          unfold cl_oda
          rw [if_pos hz0]
      · refine wp_aload_n dX6_odd_38 rfl rfl ?_
        refine wp_getR (r := 35) dX6_odd_39 fl_X6_30 (by decide) rfl rfl rfl ?_
        refine wp_aload_n dX6_odd_42 rfl rfl ?_
        refine wp_getR (r := 14) dX6_odd_43 fl_X6_26 (by decide) rfl rfl rfl ?_
        refine wp_callV (M2 := M_X1_copyForms) (n := 1) (As := [.ref 14]) (st := []) dX6_odd_46 (c_X1_copyForms g E (cl_G now r) (hci.pr hpr).2.2.1) ca_X6_240 ⟨nm_X1_copyForms, by decide, by decide⟩ rfl (by decide) rfl rfl rfl (Nat.le_of_ble_eq_true rfl) (fun r746 E747 q748 => ?_)
        obtain ⟨rfl, g749, f750⟩ := q748
        show WP g _ _ _ _ _ _
        have pr751 : cl_pr D E747 := (hpr).tr f750.pr
        have kc752 := (cl_kc.rf).tr f750.kc
        refine wp_aload_n dX6_odd_49 rfl rfl ?_
        refine wp_getR (r := 35) dX6_odd_50 fl_X6_30 (by decide) rfl rfl rfl ?_
        refine wp_aload_n dX6_odd_53 rfl rfl ?_
        refine wp_getR (r := 14) dX6_odd_54 fl_X6_26 (by decide) rfl rfl rfl ?_
        refine wp_callV (M2 := M_X1_copyMargins) (n := 1) (As := [.ref 14]) (st := []) dX6_odd_57 (c_X1_copyMargins g E747 (cl_G now r) (cl_f0 (cl_G now r)) (hci.pr pr751).2.2.1 g749) ca_X6_259 ⟨nm_X1_copyMargins, by decide, by decide⟩ rfl (by decide) rfl rfl rfl (Nat.le_of_ble_eq_true rfl) (fun r753 E754 q755 => ?_)
        obtain ⟨rfl, g756, f757⟩ := q755
        show WP g _ _ _ _ _ _
        have g758 : mx 36 E754 (cl_G now r) := mx_ext g756 (fun i j hi hj => by show (if i = 7 ∨ j = 7 then (cl_G now r) i j else cl_f0 (cl_G now r) i j) = (cl_G now r) i j; unfold cl_f0; split; rfl; rw [if_pos (by omega)])
        have pr759 : cl_pr D E754 := (pr751).tr f757.pr
        have kc760 := (kc752).tr f757.kc
        refine wp_aload_n dX6_odd_60 rfl rfl ?_
        refine wp_getR (r := 35) dX6_odd_61 fl_X6_30 (by decide) rfl rfl rfl ?_
        refine wp_aload_n dX6_odd_64 rfl rfl ?_
        refine wp_getR (r := 1) dX6_odd_65 fl_X6_10 (by decide) rfl rfl rfl ?_
        refine wp_getR (r := 2) dX6_odd_68 fl_X6_153 (by decide) rfl rfl rfl ?_
        refine wp_iload_n dX6_odd_71 rfl rfl ?_
        refine wp_iald dX6_odd_72 (by decide) rfl (show _ < 12 by omega) (by first | omega | (split <;> omega)) ?_
        rw [(hci.pr pr759).a (by omega)]
        refine wp_aload_n dX6_odd_73 rfl rfl ?_
        refine wp_getR (r := 1) dX6_odd_74 fl_X6_10 (by decide) rfl rfl rfl ?_
        refine wp_getR (r := 3) dX6_odd_77 fl_X6_156 (by decide) rfl rfl rfl ?_
        refine wp_iload_n dX6_odd_80 rfl rfl ?_
        refine wp_iald dX6_odd_81 (by decide) rfl (show _ < 12 by omega) (by first | omega | (split <;> omega)) ?_
        rw [(hci.pr pr759).b (by omega)]
        refine wp_aload_n dX6_odd_82 rfl rfl ?_
        refine wp_getR (r := 1) dX6_odd_83 fl_X6_10 (by decide) rfl rfl rfl ?_
        refine wp_getR (r := 5) dX6_odd_86 fl_X6_162 (by decide) rfl rfl rfl ?_
        refine wp_iload_n dX6_odd_89 rfl rfl ?_
        refine wp_iald dX6_odd_90 (by decide) rfl (show _ < 12 by omega) (by first | omega | (split <;> omega)) ?_
        rw [(hci.pr pr759).s (by omega)]
        refine wp_aload_n dX6_odd_91 rfl rfl ?_
        refine wp_getR (r := 1) dX6_odd_92 fl_X6_10 (by decide) rfl rfl rfl ?_
        refine wp_getR (r := 4) dX6_odd_95 fl_X6_159 (by decide) rfl rfl rfl ?_
        refine wp_iload_n dX6_odd_98 rfl rfl ?_
        refine wp_iald dX6_odd_99 (by decide) rfl (show _ < 12 by omega) (by first | omega | (split <;> omega)) ?_
        rw [(hci.pr pr759).m (by omega)]
        refine wp_callV (M2 := M_X1_load) (n := 4) (As := [.int (nI (sr_ra now q)), .int (nI (sr_rb now q)), .int (now (3 + 4 * q + 3)), .int (now (3 + 4 * q + 2))]) (st := []) dX6_odd_100 (c_X1_load35 g E754 (sr_ra now q) (sr_rb now q) (by omega) (by omega) (now (3 + 4 * q + 3)) (now (3 + 4 * q + 2))) ca_X6_250 ⟨nm_X1_load, by decide, by decide⟩ rfl (by decide) rfl rfl rfl (Nat.le_of_ble_eq_true rfl) (fun r761 E762 q763 => ?_)
        obtain ⟨rfl, hf764, fa765⟩ := q763
        show WP g _ _ _ _ _ _
        have hf766 : ∀ z, z < 8 → E762.1 55 z = (cl_rf now q) z := hf764
        have g767 : mx 36 E762 ((cl_G now r)) := fun i j hi hj => by rw [fa765.1]; exact g758 i j hi hj
        have pr768 : cl_pr D E762 := (pr759).tr fa765.pr2
        have kc769 := (kc760).tr fa765.kc
        refine wp_aload_n dX6_odd_103 rfl rfl ?_
        refine wp_getR (r := 35) dX6_odd_104 fl_X6_30 (by decide) rfl rfl rfl ?_
        refine wp_iconst (v := -1) dX6_odd_107 rfl ?_
        refine wp_callV (M2 := M_X1_include) (n := 1) (As := [.int ((-1))]) (st := []) dX6_odd_108 (c_X1_include35 g E762 ((-1)) ((cl_G now r)) g767) ca_X6_256 ⟨nm_X1_include, by decide, by decide⟩ rfl (by decide) rfl rfl rfl (Nat.le_of_ble_eq_true rfl) (fun r770 E771 q772 => ?_)
        obtain ⟨rfl, g773, f774⟩ := q772
        show WP g _ _ _ _ _ _
        have g775 : mx 36 E771 (cl_inc ((-1)) (cl_rf now q) ((cl_G now r))) := mx_ext g773 (fun i j hi hj => by rw [hf766 i hi, hf766 j hj]; rfl)
        have pr776 : cl_pr D E771 := (pr768).tr f774.pr
        have kc777 := (kc769).tr f774.kc
        have g778 : mx 36 E771 (cl_oY now r q) := g775
        refine wp_aload_n dX6_odd_111 rfl rfl ?_
        refine wp_getR (r := 35) dX6_odd_112 fl_X6_30 (by decide) rfl rfl rfl ?_
        refine wp_callV (M2 := M_X1_solve) (n := 0) (As := []) (st := []) dX6_odd_115 (c_X1_solve35 g E771 (cl_oY now r q) g778) ca_X6_244 ⟨nm_X1_solve, by decide, by decide⟩ rfl (by decide) rfl rfl rfl (Nat.le_of_ble_eq_true rfl) (fun r779 E780 q781 => ?_)
        obtain ⟨rfl, ok782, f783⟩ := q781
        show WP g _ _ _ _ _ _
        have g784 : mx 36 E780 (cl_oY now r q) := mx_cong g778 (fun o _ _ => f783.2 o (by omega) (by omega))
        have pr785 : cl_pr D E780 := (pr776).tr f783.pr
        have kc786 := (kc777).tr f783.kc
        refine wp_aload_n dX6_odd_118 rfl rfl ?_
        refine wp_getR (r := 57) dX6_odd_119 fl_X6_40 (by decide) rfl rfl rfl ?_
        refine wp_aload_n dX6_odd_122 rfl rfl ?_
        refine wp_getR (r := 35) dX6_odd_123 fl_X6_30 (by decide) rfl rfl rfl ?_
        refine wp_callV (M2 := M_X1_scaledSum) (n := 0) (As := []) (st := [.ref 57]) dX6_odd_126 (c_X1_scaledSum35 g E780 (cl_oY now r q) ok782) ca_X6_188 ⟨nm_X1_scaledSum, by decide, by decide⟩ rfl (by decide) rfl rfl rfl (Nat.le_of_ble_eq_true rfl) (fun r787 E788 q789 => ?_)
        obtain ⟨rfl, rfl⟩ := q789
        show WP g _ _ _ (.long (cl_sum (cl_oY now r q)) :: _) _ _
        refine wp_aload_n dX6_odd_129 rfl rfl ?_
        refine wp_getR (r := 35) dX6_odd_130 fl_X6_30 (by decide) rfl rfl rfl ?_
        refine wp_getJ dX6_odd_133 fl_X6_180 (by decide) rfl rfl ?_
        rw [ok782.2.1]
        show WP g _ _ _ (.long (cl_by (cl_oY now r q)) :: _) _ _
        refine wp_callV (M2 := M_X2_set) (n := 2) (As := [.long (cl_sum (cl_oY now r q)), .long (cl_by (cl_oY now r q))]) (st := []) dX6_odd_136 (c_X2_set57 g E780 (cl_sum (cl_oY now r q)) (cl_by (cl_oY now r q)) (by have := (hod q (by omega)).1; omega) (cl_go_pos 7).1) ca_X6_262 ⟨nm_X2_set, by decide, by decide⟩ rfl (by decide) rfl rfl rfl (Nat.le_of_ble_eq_true rfl) (fun r790 E791 q792 => ?_)
        obtain ⟨rfl, eE791⟩ := q792
        have eE791 := eE791.symm
        show WP g _ _ _ _ _ _
        have hqr : q < r := by omega
        obtain ⟨t1, t2, _, _, _⟩ := cl_sm_n (hod q hqr) (cl_go_pos 7).1
        refine h139 hqr E791 ((pr785).tr (by rw [eE791]; exact sr_setF_pr (by decide))) ?_ ?_ (fun h0 => ?_)
        · rw [eE791]; unfold sr_setF; rw [sr_sJ_2, if_neg (by decide), sr_sJ_2, if_pos ⟨rfl, rfl⟩]; exact t1
        · rw [eE791]; unfold sr_setF; rw [sr_sJ_2, if_pos ⟨rfl, rfl⟩]; exact t2
        · rw [eE791]; unfold cl_le sr_setF; rw [sr_sJ_2, if_neg (by decide), sr_sJ_2, if_neg (by decide), sr_sJ_2, if_neg (by decide), sr_sJ_2, if_neg (by decide), kc786.2.2.2.2.1]; exact hle h0
    refine wp_iload_n dX6_odd_0 rfl rfl ?_
    refine wp_if_lt_n (tgt := 19) dX6_odd_1 (by decide) (by first | omega | (split <;> omega)) ?_
    refine wp_iload_n dX6_odd_4 rfl rfl ?_
    refine wp_iconst (v := nI 2) dX6_odd_5 rfl ?_
    refine wp_icmp_gt_n (tgt := 19) dX6_odd_6 (by decide) (by first | omega | (split <;> omega)) (by first | omega | (split <;> omega)) (fun c793 => ?_) (fun c793 => ?_)
    · exact absurd c793 (by omega)
    · refine wp_aload_n dX6_odd_9 rfl rfl ?_
      refine wp_getR (r := 1) dX6_odd_10 fl_X6_10 (by decide) rfl rfl rfl ?_
      refine wp_getI_n (n := r) dX6_odd_13 fl_X6_123 (by decide) rfl rfl (hci.2.1.2.2.1) ?_
      refine wp_if_ne_n (tgt := 23) dX6_odd_16 (by decide) (by first | omega | (split <;> omega)) (fun c794 => ?_) (fun c794 => ?_)
      · refine wp_iconst (v := nI 0) dX6_odd_23 rfl ?_
        refine wp_istore_n (lv' := [(0, .ref 0), (1, .int (nI z)), (2, .int (nI 0))]) dX6_odd_24 rfl (by decide) rfl ?_
        refine wp_iconst (v := nI 0) dX6_odd_25 rfl ?_
        refine wp_istore_n (lv' := [(0, .ref 0), (1, .int (nI z)), (2, .int (nI 0)), (3, .int (nI 0))]) dX6_odd_26 rfl (by decide) rfl ?_
        exact hL 0 (by omega) D cl_pr.rf (fun h => absurd rfl h)
      · exact absurd c794 hr0
  · refine wp_iload_n dX6_odd_0 rfl rfl ?_
    refine wp_if_lt (tgt := 19) dX6_odd_1 (by decide) (fun c795 => ?_) (fun c795 => ?_)
    · refine wp_ldc2 (v := -1) dX6_odd_19 ct_X6_220 ?_
      refine wp_lret dX6_odd_22 rfl ⟨?_, cl_pr.rf⟩
      rw [if_neg hok]
    · have hw0 := c795
      refine wp_iload_n dX6_odd_4 rfl rfl ?_
      refine wp_iconst (v := nI 2) dX6_odd_5 rfl ?_
      refine wp_icmp_gt (tgt := 19) dX6_odd_6 (by decide) (fun c796 => ?_) (fun c796 => ?_)
      · refine wp_ldc2 (v := -1) dX6_odd_19 ct_X6_220 ?_
        refine wp_lret dX6_odd_22 rfl ⟨?_, cl_pr.rf⟩
        rw [if_neg hok]
      · have hw1 := c796
        refine wp_aload_n dX6_odd_9 rfl rfl ?_
        refine wp_getR (r := 1) dX6_odd_10 fl_X6_10 (by decide) rfl rfl rfl ?_
        refine wp_getI_n (n := r) dX6_odd_13 fl_X6_123 (by decide) rfl rfl (hci.2.1.2.2.1) ?_
        refine wp_if_ne_n (tgt := 23) dX6_odd_16 (by decide) (by first | omega | (split <;> omega)) (fun c797 => ?_) (fun c797 => ?_)
        · exact absurd (by rw [decide_eq_true c797]; exact sr_in_t hw0 hw1) hok
        · refine wp_ldc2 (v := -1) dX6_odd_19 ct_X6_220 ?_
          refine wp_lret dX6_odd_22 rfl ⟨?_, cl_pr.rf⟩
          rw [if_neg hok]
