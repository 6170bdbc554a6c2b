/-- a rower told at s: the fault, the crew with him -/
def sr_rowX (b : Nat → Int32) (L s : Nat) : Nat := (sr_numR b L s).toNatClampNeg
def sr_rowF (b : Nat → Int32) (L s n crew other sc : Nat) : Nat :=
  if ¬ sr_numF b L s = 0 then sr_numF b L s
  else if ¬ sr_isIn (sr_numR b L s) (nI 0) (nI n - nI 1) = true then 2 + 8 * s
  else if (crew ||| other).testBit (sr_rowX b L s) = true then 3 + 8 * s
  else if sr_bits crew = (if sc = 0 then 3 else sr_bits other) then 4 + 8 * s else 0
def sr_rowC (b : Nat → Int32) (L s n crew other sc : Nat) : Nat := if sr_rowF b L s n crew other sc = 0 then crew ||| 1 * 2 ^ sr_rowX b L s else crew
theorem sr_rowF_le {b : Nat → Int32} {L s n crew other sc : Nat} (h : s ≤ 302) : sr_rowF b L s n crew other sc ≤ 2500 := by
  have := sr_numF_le (b := b) (L := L) h
  unfold sr_rowF
  repeat' split
  all_goals omega
theorem sr_or_lt {x y n : Nat} (hx : x < 2 ^ n) (hy : y < 2 ^ n) : x ||| y < 2 ^ n := Nat.or_lt_two_pow hx hy
theorem sr_rowX_lt {b : Nat → Int32} {L s n : Nat} (hn : n ≤ 6) (h : sr_isIn (sr_numR b L s) (nI 0) (nI n - nI 1) = true) : sr_rowX b L s < n := by
  obtain ⟨x, hx, e⟩ := (sr_in_n (by omega)).mp h
  unfold sr_rowX
  rw [e, nI_clamp (by omega)]
  exact hx
theorem sr_rowC_lt {b : Nat → Int32} {L s n crew other sc : Nat} (hn : n ≤ 6) (hc : crew < 2 ^ 6) : sr_rowC b L s n crew other sc < 2 ^ 6 := by
  unfold sr_rowC
  by_cases h : sr_rowF b L s n crew other sc = 0
  · rw [if_pos h]
    have hi : sr_isIn (sr_numR b L s) (nI 0) (nI n - nI 1) = true := by
      unfold sr_rowF at h
      by_cases h1 : ¬ sr_numF b L s = 0
      · rw [if_pos h1] at h; exact absurd h h1
      · rw [if_neg h1] at h
        by_cases h2 : ¬ sr_isIn (sr_numR b L s) (nI 0) (nI n - nI 1) = true
        · rw [if_pos h2] at h; omega
        · exact Decidable.not_not.mp h2
    have hx := sr_rowX_lt hn hi
    refine sr_or_lt hc ?_
    rw [Nat.one_mul]
    exact Nat.pow_lt_pow_right (by decide) (by omega)
  · rw [if_neg h]; exact hc
set_option maxHeartbeats 4000000 in
set_option maxRecDepth 100000 in
theorem c_X7_rower_f (g : sr_G) (D : sr_St) (L f a r : Nat) (now : Nat → Int32) (n crew other sc : Nat) (hn : now 0 = nI n) (hn6 : n ≤ 6) (hcr : crew < 2 ^ 6) (hot : other < 2 ^ 6) (hsc : sc ≤ 1) (hb : sr_bytes (D.1 66)) (h0 : ¬ f = 0) (hL : D.1 63 7 = nI L) (h300 : L ≤ 300) (ha : a ≤ L + 1) (hf : f ≤ 8000) (hr : r ≤ 400)  : Con g M_X7_rower [.ref 63, .int (nI crew), .int (nI other), .int (nI sc)] (sr_T D f a r now) (sr_ret (some (.int (nI crew))) (sr_T D f a r now)) := by
  refine Con.of pn_X7_rower (Nat.le_of_ble_eq_true rfl) ?_
  show WP g M_X7_rower 0 [(0, .ref 63), (1, .int (nI crew)), (2, .int (nI other)), (3, .int (nI sc))] [] (sr_T D f a r now) _
  refine wp_aload_n dX7_rower_0 rfl rfl ?_
  refine wp_callV (M2 := M_X7_number) (n := 0) (As := []) (st := []) dX7_rower_1 (c_X7_number_f g D L f a r now hb h0 hL h300 (by omega) (by omega) (by omega)) ca_X7_110 ⟨nm_X7_number, by decide, by decide⟩ rfl (by decide) rfl rfl rfl (Nat.le_of_ble_eq_true rfl) (fun r71 E72 q73 => ?_)
  obtain ⟨rfl, rfl⟩ := q73
  show WP g _ _ _ (.int (nI 0) :: _) _ _
  refine wp_istore (lv' := [(0, .ref 63), (1, .int (nI crew)), (2, .int (nI other)), (3, .int (nI sc)), (4, .int (nI 0))]) dX7_rower_4 (by decide) rfl ?_
  refine wp_aload_n dX7_rower_6 rfl rfl ?_
  refine wp_getI_n (n := f) dX7_rower_7 fl_X7_89 (by decide) rfl rfl (sr_T_5) ?_
  refine wp_if_eq_n (tgt := 15) dX7_rower_10 (by decide) (by first | omega | (split <;> omega)) (fun c74 => ?_) (fun c74 => ?_)
  · exact absurd c74 h0
  · refine wp_iload_n dX7_rower_13 rfl rfl ?_
    exact wp_iret dX7_rower_14 rfl ⟨rfl, rfl⟩
set_option maxHeartbeats 4000000 in
set_option maxRecDepth 100000 in
theorem c_X7_rower (g : sr_G) (D : sr_St) (L a r : Nat) (now : Nat → Int32) (n crew other sc : Nat) (hn : now 0 = nI n) (hn6 : n ≤ 6) (hcr : crew < 2 ^ 6) (hot : other < 2 ^ 6) (hsc : sc ≤ 1) (hb : sr_bytes (D.1 66)) (hL : D.1 63 7 = nI L) (h300 : L ≤ 300) (ha : a ≤ L + 1) (hr : r ≤ 400)  : Con g M_X7_rower [.ref 63, .int (nI crew), .int (nI other), .int (nI sc)] (sr_T D 0 a r now) (sr_ret (some (.int (nI (sr_rowC (D.1 66) L (sr_skip (D.1 66) L a) n crew other sc)))) (sr_T D (sr_rowF (D.1 66) L (sr_skip (D.1 66) L a) n crew other sc) (sr_numA (D.1 66) L (sr_skip (D.1 66) L a)) (sr_skip (D.1 66) L a) now)) := by
  refine Con.of pn_X7_rower (Nat.le_of_ble_eq_true rfl) ?_
  show WP g M_X7_rower 0 [(0, .ref 63), (1, .int (nI crew)), (2, .int (nI other)), (3, .int (nI sc))] [] (sr_T D 0 a r now) _
  have hs1 := sr_skip_ge (D.1 66) L a
  have hs2 := sr_skip_le1 (D.1 66) ha
  have hA := sr_numA_le (b := D.1 66) (L := L) hs2
  have hF := sr_numF_le (b := D.1 66) (L := L) (s := sr_skip (D.1 66) L a) (by omega)
  have hbc := sr_bits_le crew
  have hbo := sr_bits_le other
  refine wp_aload_n dX7_rower_0 rfl rfl ?_
  refine wp_callV (M2 := M_X7_number) (n := 0) (As := []) (st := []) dX7_rower_1 (c_X7_number g D L a r now hb hL h300 (by omega) (by omega)) ca_X7_110 ⟨nm_X7_number, by decide, by decide⟩ rfl (by decide) rfl rfl rfl (Nat.le_of_ble_eq_true rfl) (fun r75 E76 q77 => ?_)
  obtain ⟨rfl, rfl⟩ := q77
  show WP g _ _ _ (.int (sr_numR (D.1 66) L (sr_skip (D.1 66) L a)) :: _) _ _
  refine wp_istore (lv' := [(0, .ref 63), (1, .int (nI crew)), (2, .int (nI other)), (3, .int (nI sc)), (4, .int (sr_numR (D.1 66) L (sr_skip (D.1 66) L a)))]) dX7_rower_4 (by decide) rfl ?_
  refine wp_aload_n dX7_rower_6 rfl rfl ?_
  refine wp_getI_n (n := sr_numF (D.1 66) L (sr_skip (D.1 66) L a)) dX7_rower_7 fl_X7_89 (by decide) rfl rfl (sr_T_5) ?_
  refine wp_if_eq_n (tgt := 15) dX7_rower_10 (by decide) (by first | omega | (split <;> omega)) (fun c78 => ?_) (fun c78 => ?_)
  · have hnf := c78
    refine wp_aload_n dX7_rower_15 rfl rfl ?_
    refine wp_iload dX7_rower_16 rfl ?_
    refine wp_callV (M2 := M_X7_isRower) (n := 1) (As := [.int (sr_numR (D.1 66) L (sr_skip (D.1 66) L a))]) (st := []) dX7_rower_18 (c_X7_isRower g (sr_T D (sr_numF (D.1 66) L (sr_skip (D.1 66) L a)) (sr_numA (D.1 66) L (sr_skip (D.1 66) L a)) (sr_skip (D.1 66) L a) now) (sr_numR (D.1 66) L (sr_skip (D.1 66) L a))) ca_X7_113 ⟨nm_X7_isRower, by decide, by decide⟩ rfl (by decide) rfl rfl rfl (Nat.le_of_ble_eq_true rfl) (fun r79 E80 q81 => ?_)
    rw [sr_T_n hn] at q81
    obtain ⟨rfl, rfl⟩ := q81
    show WP g _ _ _ (.int (sr_b (sr_isIn (sr_numR (D.1 66) L (sr_skip (D.1 66) L a)) (nI 0) (nI n - nI 1))) :: _) _ _
    refine wp_if_ne_b (tgt := 36) dX7_rower_21 (by decide) (fun c82 => ?_) (fun c82 => ?_)
    · obtain ⟨x, hx, ex⟩ := (sr_in_n (by omega)).mp c82
      have hri := c82
      have hxx : sr_rowX (D.1 66) L (sr_skip (D.1 66) L a) = x := by unfold sr_rowX; rw [ex, nI_clamp (by omega)]
      rw [ex]
      refine wp_iload_n dX7_rower_36 rfl rfl ?_
      refine wp_iload_n dX7_rower_37 rfl rfl ?_
      refine wp_ior_n dX7_rower_38 ?_
      refine wp_iload dX7_rower_39 rfl ?_
      refine wp_callS (M2 := M_X7_has) (n := 2) (As := [.int (nI (crew ||| other)), .int (nI x)]) (st := []) dX7_rower_41 (c_X7_has g (sr_T D (sr_numF (D.1 66) L (sr_skip (D.1 66) L a)) (sr_numA (D.1 66) L (sr_skip (D.1 66) L a)) (sr_skip (D.1 66) L a) now) (crew ||| other) x (Nat.lt_trans (sr_or_lt hcr hot) (by decide)) (by omega)) ca_X7_116 ⟨nm_X7_has, by decide, by decide⟩ rfl rfl (Nat.le_of_ble_eq_true rfl) (fun r83 E84 q85 => ?_)
      obtain ⟨rfl, rfl⟩ := q85
      show WP g _ _ _ (.int (sr_b ((crew ||| other).testBit x)) :: _) _ _
      refine wp_if_eq_b (tgt := 59) dX7_rower_44 (by decide) (fun c86 => ?_) (fun c86 => ?_)
      · have htb := c86
        refine wp_iload_n dX7_rower_59 rfl rfl ?_
        refine wp_callS (M2 := M_X7_bits) (n := 1) (As := [.int (nI crew)]) (st := []) dX7_rower_60 (c_X7_bits g (sr_T D (sr_numF (D.1 66) L (sr_skip (D.1 66) L a)) (sr_numA (D.1 66) L (sr_skip (D.1 66) L a)) (sr_skip (D.1 66) L a) now) crew (by omega)) ca_X7_54 ⟨nm_X7_bits, by decide, by decide⟩ rfl rfl (Nat.le_of_ble_eq_true rfl) (fun r87 E88 q89 => ?_)
        obtain ⟨rfl, rfl⟩ := q89
        show WP g _ _ _ (.int (nI (sr_bits crew)) :: _) _ _
        refine wp_iload_n dX7_rower_63 rfl rfl ?_
        refine wp_if_eq_n (tgt := 74) dX7_rower_64 (by decide) (by first | omega | (split <;> omega)) (fun c90 => ?_) (fun c90 => ?_)
        · have hss := c90
          refine wp_iconst (v := nI 3) dX7_rower_74 rfl ?_
          refine wp_icmp_ne_n (tgt := 87) dX7_rower_75 (by decide) (by first | omega | (split <;> omega)) (by first | omega | (split <;> omega)) (fun c91 => ?_) (fun c91 => ?_)
          · have hbt := c91
            refine wp_aload_n dX7_rower_87 rfl rfl ?_
            refine wp_getI_n (n := sr_numF (D.1 66) L (sr_skip (D.1 66) L a)) dX7_rower_88 fl_X7_89 (by decide) rfl rfl (sr_T_5) ?_
            refine wp_if_ne_n (tgt := 103) dX7_rower_91 (by decide) (by first | omega | (split <;> omega)) (fun c92 => ?_) (fun c92 => ?_)
            · refine wp_iload_n dX7_rower_103 rfl rfl ?_
              refine wp_iret dX7_rower_104 rfl ⟨?_, ?_⟩
              skip
              · simp_all [sr_rowC, sr_rowF]
              · simp_all [sr_rowF]
            · refine wp_iload_n dX7_rower_94 rfl rfl ?_
              refine wp_iconst (v := nI 1) dX7_rower_95 rfl ?_
              refine wp_iload dX7_rower_96 rfl ?_
              refine wp_ishl_n dX7_rower_98 (by omega) (sr_pw1 (by omega)) ?_
              refine wp_ior_n dX7_rower_99 ?_
              refine wp_goto (tgt := 104) dX7_rower_100 (by decide) ?_
              refine wp_iret dX7_rower_104 rfl ⟨?_, ?_⟩
              skip
              · simp_all [sr_rowC, sr_rowF]
              · simp_all [sr_rowF]
          · have hbt := c91
            refine wp_aload_n dX7_rower_78 rfl rfl ?_
            refine wp_iconst (v := nI 4) dX7_rower_79 rfl ?_
            refine wp_aload_n dX7_rower_80 rfl rfl ?_
            refine wp_getI_n (n := sr_skip (D.1 66) L a) dX7_rower_81 fl_X7_103 (by decide) rfl rfl (sr_T_9) ?_
            refine wp_callV (M2 := M_X7_fails) (n := 2) (As := [.int (nI 4), .int (nI (sr_skip (D.1 66) L a))]) (st := []) dX7_rower_84 (c_X7_fails g D L (sr_numF (D.1 66) L (sr_skip (D.1 66) L a)) (sr_numA (D.1 66) L (sr_skip (D.1 66) L a)) (sr_skip (D.1 66) L a) now 4 (sr_skip (D.1 66) L a) (by omega) (by omega) hL h300 (by omega) (by omega) (by omega)) ca_X7_106 ⟨nm_X7_fails, by decide, by decide⟩ rfl (by decide) rfl rfl rfl (Nat.le_of_ble_eq_true rfl) (fun r93 E94 q95 => ?_)
            obtain ⟨rfl, rfl⟩ := q95
            show WP g _ _ _ _ _ _
            refine wp_aload_n dX7_rower_87 rfl rfl ?_
            refine wp_getI_n (n := if sr_numF (D.1 66) L (sr_skip (D.1 66) L a) = 0 then 4 + 8 * (sr_skip (D.1 66) L a) else sr_numF (D.1 66) L (sr_skip (D.1 66) L a)) dX7_rower_88 fl_X7_89 (by decide) rfl rfl (sr_T_5) ?_
            refine wp_if_ne_n (tgt := 103) dX7_rower_91 (by decide) (by first | omega | (split <;> omega)) (fun c96 => ?_) (fun c96 => ?_)
            · refine wp_iload_n dX7_rower_103 rfl rfl ?_
              refine wp_iret dX7_rower_104 rfl ⟨?_, ?_⟩
              skip
              · simp_all [sr_rowC, sr_rowF]
              · simp_all [sr_rowF]
            · refine wp_iload_n dX7_rower_94 rfl rfl ?_
              refine wp_iconst (v := nI 1) dX7_rower_95 rfl ?_
              refine wp_iload dX7_rower_96 rfl ?_
              refine wp_ishl_n dX7_rower_98 (by omega) (sr_pw1 (by omega)) ?_
              refine wp_ior_n dX7_rower_99 ?_
              refine wp_goto (tgt := 104) dX7_rower_100 (by decide) ?_
              refine wp_iret dX7_rower_104 rfl ⟨?_, ?_⟩
              skip
              · simp_all [sr_rowC, sr_rowF]
              · simp_all [sr_rowF]
        · have hss := c90
          refine wp_iload_n dX7_rower_67 rfl rfl ?_
          refine wp_callS (M2 := M_X7_bits) (n := 1) (As := [.int (nI other)]) (st := [.int (nI (sr_bits crew))]) dX7_rower_68 (c_X7_bits g (sr_T D (sr_numF (D.1 66) L (sr_skip (D.1 66) L a)) (sr_numA (D.1 66) L (sr_skip (D.1 66) L a)) (sr_skip (D.1 66) L a) now) other (by omega)) ca_X7_54 ⟨nm_X7_bits, by decide, by decide⟩ rfl rfl (Nat.le_of_ble_eq_true rfl) (fun r97 E98 q99 => ?_)
          obtain ⟨rfl, rfl⟩ := q99
          show WP g _ _ _ (.int (nI (sr_bits other)) :: _) _ _
          refine wp_goto (tgt := 75) dX7_rower_71 (by decide) ?_
          refine wp_icmp_ne_n (tgt := 87) dX7_rower_75 (by decide) (by first | omega | (split <;> omega)) (by first | omega | (split <;> omega)) (fun c100 => ?_) (fun c100 => ?_)
          · have hbt := c100
            refine wp_aload_n dX7_rower_87 rfl rfl ?_
            refine wp_getI_n (n := sr_numF (D.1 66) L (sr_skip (D.1 66) L a)) dX7_rower_88 fl_X7_89 (by decide) rfl rfl (sr_T_5) ?_
            refine wp_if_ne_n (tgt := 103) dX7_rower_91 (by decide) (by first | omega | (split <;> omega)) (fun c101 => ?_) (fun c101 => ?_)
            · refine wp_iload_n dX7_rower_103 rfl rfl ?_
              refine wp_iret dX7_rower_104 rfl ⟨?_, ?_⟩
              skip
              · simp_all [sr_rowC, sr_rowF]
              · simp_all [sr_rowF]
            · refine wp_iload_n dX7_rower_94 rfl rfl ?_
              refine wp_iconst (v := nI 1) dX7_rower_95 rfl ?_
              refine wp_iload dX7_rower_96 rfl ?_
              refine wp_ishl_n dX7_rower_98 (by omega) (sr_pw1 (by omega)) ?_
              refine wp_ior_n dX7_rower_99 ?_
              refine wp_goto (tgt := 104) dX7_rower_100 (by decide) ?_
              refine wp_iret dX7_rower_104 rfl ⟨?_, ?_⟩
              skip
              · simp_all [sr_rowC, sr_rowF]
              · simp_all [sr_rowF]
          · have hbt := c100
            refine wp_aload_n dX7_rower_78 rfl rfl ?_
            refine wp_iconst (v := nI 4) dX7_rower_79 rfl ?_
            refine wp_aload_n dX7_rower_80 rfl rfl ?_
            refine wp_getI_n (n := sr_skip (D.1 66) L a) dX7_rower_81 fl_X7_103 (by decide) rfl rfl (sr_T_9) ?_
            refine wp_callV (M2 := M_X7_fails) (n := 2) (As := [.int (nI 4), .int (nI (sr_skip (D.1 66) L a))]) (st := []) dX7_rower_84 (c_X7_fails g D L (sr_numF (D.1 66) L (sr_skip (D.1 66) L a)) (sr_numA (D.1 66) L (sr_skip (D.1 66) L a)) (sr_skip (D.1 66) L a) now 4 (sr_skip (D.1 66) L a) (by omega) (by omega) hL h300 (by omega) (by omega) (by omega)) ca_X7_106 ⟨nm_X7_fails, by decide, by decide⟩ rfl (by decide) rfl rfl rfl (Nat.le_of_ble_eq_true rfl) (fun r102 E103 q104 => ?_)
            obtain ⟨rfl, rfl⟩ := q104
            show WP g _ _ _ _ _ _
            refine wp_aload_n dX7_rower_87 rfl rfl ?_
            refine wp_getI_n (n := if sr_numF (D.1 66) L (sr_skip (D.1 66) L a) = 0 then 4 + 8 * (sr_skip (D.1 66) L a) else sr_numF (D.1 66) L (sr_skip (D.1 66) L a)) dX7_rower_88 fl_X7_89 (by decide) rfl rfl (sr_T_5) ?_
            refine wp_if_ne_n (tgt := 103) dX7_rower_91 (by decide) (by first | omega | (split <;> omega)) (fun c105 => ?_) (fun c105 => ?_)
            · refine wp_iload_n dX7_rower_103 rfl rfl ?_
              refine wp_iret dX7_rower_104 rfl ⟨?_, ?_⟩
              skip
              · simp_all [sr_rowC, sr_rowF]
              · simp_all [sr_rowF]
            · refine wp_iload_n dX7_rower_94 rfl rfl ?_
              refine wp_iconst (v := nI 1) dX7_rower_95 rfl ?_
              refine wp_iload dX7_rower_96 rfl ?_
              refine wp_ishl_n dX7_rower_98 (by omega) (sr_pw1 (by omega)) ?_
              refine wp_ior_n dX7_rower_99 ?_
              refine wp_goto (tgt := 104) dX7_rower_100 (by decide) ?_
              refine wp_iret dX7_rower_104 rfl ⟨?_, ?_⟩
              skip
              · simp_all [sr_rowC, sr_rowF]
              · simp_all [sr_rowF]
      · have htb := c86
        refine wp_aload_n dX7_rower_47 rfl rfl ?_
        refine wp_iconst (v := nI 3) dX7_rower_48 rfl ?_
        refine wp_aload_n dX7_rower_49 rfl rfl ?_
        refine wp_getI_n (n := sr_skip (D.1 66) L a) dX7_rower_50 fl_X7_103 (by decide) rfl rfl (sr_T_9) ?_
        refine wp_callV (M2 := M_X7_fails) (n := 2) (As := [.int (nI 3), .int (nI (sr_skip (D.1 66) L a))]) (st := []) dX7_rower_53 (c_X7_fails g D L (sr_numF (D.1 66) L (sr_skip (D.1 66) L a)) (sr_numA (D.1 66) L (sr_skip (D.1 66) L a)) (sr_skip (D.1 66) L a) now 3 (sr_skip (D.1 66) L a) (by omega) (by omega) hL h300 (by omega) (by omega) (by omega)) ca_X7_106 ⟨nm_X7_fails, by decide, by decide⟩ rfl (by decide) rfl rfl rfl (Nat.le_of_ble_eq_true rfl) (fun r106 E107 q108 => ?_)
        obtain ⟨rfl, rfl⟩ := q108
        show WP g _ _ _ _ _ _
        refine wp_goto (tgt := 87) dX7_rower_56 (by decide) ?_
        refine wp_aload_n dX7_rower_87 rfl rfl ?_
        refine wp_getI_n (n := if sr_numF (D.1 66) L (sr_skip (D.1 66) L a) = 0 then 3 + 8 * (sr_skip (D.1 66) L a) else sr_numF (D.1 66) L (sr_skip (D.1 66) L a)) dX7_rower_88 fl_X7_89 (by decide) rfl rfl (sr_T_5) ?_
        refine wp_if_ne_n (tgt := 103) dX7_rower_91 (by decide) (by first | omega | (split <;> omega)) (fun c109 => ?_) (fun c109 => ?_)
        · refine wp_iload_n dX7_rower_103 rfl rfl ?_
          refine wp_iret dX7_rower_104 rfl ⟨?_, ?_⟩
          skip
          · simp_all [sr_rowC, sr_rowF]
          · simp_all [sr_rowF]
        · refine wp_iload_n dX7_rower_94 rfl rfl ?_
          refine wp_iconst (v := nI 1) dX7_rower_95 rfl ?_
          refine wp_iload dX7_rower_96 rfl ?_
          refine wp_ishl_n dX7_rower_98 (by omega) (sr_pw1 (by omega)) ?_
          refine wp_ior_n dX7_rower_99 ?_
          refine wp_goto (tgt := 104) dX7_rower_100 (by decide) ?_
          refine wp_iret dX7_rower_104 rfl ⟨?_, ?_⟩
          skip
          · simp_all [sr_rowC, sr_rowF]
          · simp_all [sr_rowF]
    · have hri := c82
      refine wp_aload_n dX7_rower_24 rfl rfl ?_
      refine wp_iconst (v := nI 2) dX7_rower_25 rfl ?_
      refine wp_aload_n dX7_rower_26 rfl rfl ?_
      refine wp_getI_n (n := sr_skip (D.1 66) L a) dX7_rower_27 fl_X7_103 (by decide) rfl rfl (sr_T_9) ?_
      refine wp_callV (M2 := M_X7_fails) (n := 2) (As := [.int (nI 2), .int (nI (sr_skip (D.1 66) L a))]) (st := []) dX7_rower_30 (c_X7_fails g D L (sr_numF (D.1 66) L (sr_skip (D.1 66) L a)) (sr_numA (D.1 66) L (sr_skip (D.1 66) L a)) (sr_skip (D.1 66) L a) now 2 (sr_skip (D.1 66) L a) (by omega) (by omega) hL h300 (by omega) (by omega) (by omega)) ca_X7_106 ⟨nm_X7_fails, by decide, by decide⟩ rfl (by decide) rfl rfl rfl (Nat.le_of_ble_eq_true rfl) (fun r110 E111 q112 => ?_)
      obtain ⟨rfl, rfl⟩ := q112
      show WP g _ _ _ _ _ _
      refine wp_goto (tgt := 87) dX7_rower_33 (by decide) ?_
      refine wp_aload_n dX7_rower_87 rfl rfl ?_
      refine wp_getI_n (n := if sr_numF (D.1 66) L (sr_skip (D.1 66) L a) = 0 then 2 + 8 * (sr_skip (D.1 66) L a) else sr_numF (D.1 66) L (sr_skip (D.1 66) L a)) dX7_rower_88 fl_X7_89 (by decide) rfl rfl (sr_T_5) ?_
      refine wp_if_ne_n (tgt := 103) dX7_rower_91 (by decide) (by first | omega | (split <;> omega)) (fun c113 => ?_) (fun c113 => ?_)
      · refine wp_iload_n dX7_rower_103 rfl rfl ?_
        refine wp_iret dX7_rower_104 rfl ⟨?_, ?_⟩
        skip
        · simp_all [sr_rowC, sr_rowF]
        · simp_all [sr_rowF]
      · refine wp_iload_n dX7_rower_94 rfl rfl ?_
        refine wp_iconst (v := nI 1) dX7_rower_95 rfl ?_
        refine wp_iload dX7_rower_96 rfl ?_
        refine wp_ishl dX7_rower_98 ?_
        refine wp_ior dX7_rower_99 ?_
        refine wp_goto (tgt := 104) dX7_rower_100 (by decide) ?_
        refine wp_iret dX7_rower_104 rfl ⟨?_, ?_⟩
        skip
        · simp_all [sr_rowC, sr_rowF]
        · simp_all [sr_rowF]
  · have hnf := c78
    refine wp_iload_n dX7_rower_13 rfl rfl ?_
    have hR : sr_rowF (D.1 66) L (sr_skip (D.1 66) L a) n crew other sc = sr_numF (D.1 66) L (sr_skip (D.1 66) L a) := by unfold sr_rowF; rw [if_pos hnf]
    have hR0 : ¬ sr_rowF (D.1 66) L (sr_skip (D.1 66) L a) n crew other sc = 0 := by rw [hR]; exact hnf
    refine wp_iret dX7_rower_14 rfl ⟨?_, ?_⟩
    skip
    · simp_all [sr_rowC, sr_rowF]
    · simp_all [sr_rowF]
