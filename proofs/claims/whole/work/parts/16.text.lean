/-- the value of the first j digits from p on (three at most count) -/
def sr_num (b : Nat → Int32) (p : Nat) : Nat → Int32
  | 0 => nI 0
  | j + 1 => if j < 3 then nI 10 * sr_num b p j + b (p + j) - nI 48 else sr_num b p j
def sr_numE (b : Nat → Int32) (L s : Nat) : Nat := sr_scan sr_digit b L (sr_dfst b L s)
def sr_numV (b : Nat → Int32) (L s : Nat) : Int32 := sr_num b (sr_dfst b L s) (sr_numE b L s - sr_dfst b L s)
/-- a number at s: its value (0 if there is none), its fault, the place behind it -/
def sr_numR (b : Nat → Int32) (L s : Nat) : Int32 := if sr_isnum b L s = true then (if b s = nI 45 then -sr_numV b L s else sr_numV b L s) else nI 0
def sr_numF (b : Nat → Int32) (L s : Nat) : Nat := if sr_isnum b L s = true then (if 3 < sr_numE b L s - sr_dfst b L s then 1 + 8 * s else 0) else 1 + 8 * s
def sr_numA (b : Nat → Int32) (L s : Nat) : Nat := if sr_isnum b L s = true then sr_numE b L s else s
theorem sr_dig_lt {b : Nat → Int32} {L s : Nat} (h : sr_dig b L s = true) : s < L := by simp [sr_dig] at h; exact h.1
theorem sr_numE_le {b : Nat → Int32} {L s : Nat} (h : sr_isnum b L s = true) : sr_dfst b L s < sr_numE b L s ∧ sr_numE b L s ≤ L := by
  have h1 := sr_dig_lt h
  have h2 : sr_digit (b (sr_dfst b L s)) = true := by simp [sr_isnum, sr_dig] at h; exact h.2
  unfold sr_numE
  rw [sr_scan_t h1 h2]
  exact ⟨sr_scan_ge _ _ _ _, sr_scan_le _ _ h1⟩
theorem sr_dfst_ge (b : Nat → Int32) (L s : Nat) : s ≤ sr_dfst b L s ∧ sr_dfst b L s ≤ s + 1 := by unfold sr_dfst; by_cases h : s < L ∧ b s = nI 45 <;> simp [h]
theorem sr_numA_le {b : Nat → Int32} {L s : Nat} (h : s ≤ L + 1) : sr_numA b L s ≤ L + 1 ∧ s ≤ sr_numA b L s := by
  unfold sr_numA
  by_cases e : sr_isnum b L s = true
  · rw [if_pos e]; have := sr_numE_le e; have := sr_dfst_ge b L s; omega
  · rw [if_neg e]; omega
theorem sr_numF_le {b : Nat → Int32} {L s : Nat} (h : s ≤ 302) : sr_numF b L s ≤ 2500 := by
  unfold sr_numF
  repeat' split
  all_goals omega
set_option maxHeartbeats 4000000 in
set_option maxRecDepth 100000 in
theorem c_X7_number_f (g : sr_G) (D : sr_St) (L f a r : Nat) (now : Nat → Int32) (hb : sr_bytes (D.1 66)) (h0 : ¬ f = 0) (hL : D.1 63 7 = nI L) (h300 : L ≤ 300) (ha : a ≤ L + 1) (hf : f ≤ 8000) (hr : r ≤ 400)  : Con g M_X7_number [.ref 63] (sr_T D f a r now) (sr_ret (some (.int (nI 0))) (sr_T D f a r now)) := by
  refine Con.of pn_X7_number (Nat.le_of_ble_eq_true rfl) ?_
  show WP g M_X7_number 0 [(0, .ref 63)] [] (sr_T D f a r now) _
  refine wp_aload_n dX7_number_0 rfl rfl ?_
  refine wp_getI_n (n := f) dX7_number_1 fl_X7_89 (by decide) rfl rfl (sr_T_5) ?_
  refine wp_if_eq_n (tgt := 9) dX7_number_4 (by decide) (by first | omega | (split <;> omega)) (fun c25 => ?_) (fun c25 => ?_)
  · exact absurd c25 h0
  · refine wp_iconst (v := nI 0) dX7_number_7 rfl ?_
    exact wp_iret dX7_number_8 rfl ⟨rfl, rfl⟩
set_option maxHeartbeats 4000000 in
set_option maxRecDepth 100000 in
theorem c_X7_number (g : sr_G) (D : sr_St) (L a r : Nat) (now : Nat → Int32) (hb : sr_bytes (D.1 66)) (hL : D.1 63 7 = nI L) (h300 : L ≤ 300) (ha : a ≤ L + 1) (hr : r ≤ 400)  : Con g M_X7_number [.ref 63] (sr_T D 0 a r now) (sr_ret (some (.int (sr_numR (D.1 66) L (sr_skip (D.1 66) L a)))) (sr_T D (sr_numF (D.1 66) L (sr_skip (D.1 66) L a)) (sr_numA (D.1 66) L (sr_skip (D.1 66) L a)) (sr_skip (D.1 66) L a) now)) := by
  refine Con.of pn_X7_number (Nat.le_of_ble_eq_true rfl) ?_
  show WP g M_X7_number 0 [(0, .ref 63)] [] (sr_T D 0 a r now) _
  have hs1 := sr_skip_ge (D.1 66) L a
  have hs2 := sr_skip_le1 (D.1 66) ha
  generalize hsk : sr_skip (D.1 66) L a = s at *
  generalize hbb : D.1 66 = b at *
  have hW : ∀ (mi : Nat) (x1 : Int32), mi ≤ 1 → sr_isnum b L s = true → ∀ k i, i + k = L + 1 → sr_dfst b L s ≤ i → sr_scan sr_digit b L i = sr_numE b L s → WP g M_X7_number 83 [(0, .ref 63), (1, .int x1), (2, .int (nI mi)), (3, .int (nI (sr_dfst b L s))), (4, .int (sr_num b (sr_dfst b L s) (i - sr_dfst b L s)))] [] (sr_T D 0 i s now) (sr_ret (some (.int (if mi = 1 then -sr_numV b L s else sr_numV b L s))) (sr_T D (if 3 < sr_numE b L s - sr_dfst b L s then 1 + 8 * s else 0) (sr_numE b L s) s now)) := by
    intro mi x1 hmi hnum
    have hE := sr_numE_le hnum
    have hdf := sr_dfst_ge b L s
    generalize hp0 : sr_dfst b L s = p0 at *
    intro k
    induction k with
    | zero =>
      intro i hi hp he
      have : i = L + 1 := by omega
      have : sr_scan sr_digit b L i = i := sr_scan_f (by omega)
      omega
    | succ k ih =>
      intro i hi hp he
      refine wp_aload_n dX7_number_83 rfl rfl ?_
      refine wp_aload_n dX7_number_84 rfl rfl ?_
      refine wp_getI_n (n := i) dX7_number_85 fl_X7_83 (by decide) rfl rfl (sr_T_8) ?_
      refine wp_callV (M2 := M_X7_isDigitAt) (n := 1) (As := [.int (nI i)]) (st := []) dX7_number_88 (c_X7_isDigitAt g D L 0 i s now i (by omega) hL h300 (by omega) (by omega) (by omega)) ca_X7_95 ⟨nm_X7_isDigitAt, by decide, by decide⟩ rfl (by decide) rfl rfl rfl (Nat.le_of_ble_eq_true rfl) (fun r26 E27 q28 => ?_)
      rw [hbb] at q28
      obtain ⟨rfl, rfl⟩ := q28
      show WP g _ _ _ (.int (sr_b (sr_dig b L i)) :: _) _ _
      refine wp_if_eq_b (tgt := 142) dX7_number_91 (by decide) (fun c29 => ?_) (fun c29 => ?_)
      · have hnodig := c29
        refine wp_aload_n dX7_number_142 rfl rfl ?_
        refine wp_getI_n (n := i) dX7_number_143 fl_X7_83 (by decide) rfl rfl (sr_T_8) ?_
        refine wp_iload_n dX7_number_146 rfl rfl ?_
        refine wp_isub_n dX7_number_147 (by omega) ?_
        refine wp_iconst (v := nI 3) dX7_number_148 rfl ?_
        refine wp_icmp_le_n (tgt := 161) dX7_number_149 (by decide) (by first | omega | (split <;> omega)) (by first | omega | (split <;> omega)) (fun c30 => ?_) (fun c30 => ?_)
        · refine wp_iload_n dX7_number_161 rfl rfl ?_
          refine wp_if_eq_n (tgt := 171) dX7_number_162 (by decide) (by first | omega | (split <;> omega)) (fun c31 => ?_) (fun c31 => ?_)
          · refine wp_iload dX7_number_171 rfl ?_
            have hei : sr_numE b L s = i := by rw [← he]; exact sr_scan_f (by simp [sr_dig] at hnodig; intro q; simp_all)
            refine wp_iret dX7_number_173 rfl ⟨?_, ?_⟩
            · unfold sr_numV; rw [hp0, hei]; rw [if_neg (by omega)]
            · rw [hei]; rw [if_neg (by omega)]
          · refine wp_iload dX7_number_165 rfl ?_
            refine wp_ineg dX7_number_167 ?_
            refine wp_goto (tgt := 173) dX7_number_168 (by decide) ?_
            have hei : sr_numE b L s = i := by rw [← he]; exact sr_scan_f (by simp [sr_dig] at hnodig; intro q; simp_all)
            refine wp_iret dX7_number_173 rfl ⟨?_, ?_⟩
            · unfold sr_numV; rw [hp0, hei]; rw [if_pos (by omega)]
            · rw [hei]; rw [if_neg (by omega)]
        · refine wp_aload_n dX7_number_152 rfl rfl ?_
          refine wp_iconst (v := nI 1) dX7_number_153 rfl ?_
          refine wp_aload_n dX7_number_154 rfl rfl ?_
          refine wp_getI_n (n := s) dX7_number_155 fl_X7_103 (by decide) rfl rfl (sr_T_9) ?_
          refine wp_callV (M2 := M_X7_fails) (n := 2) (As := [.int (nI 1), .int (nI s)]) (st := []) dX7_number_158 (c_X7_fails g D L 0 i s now 1 s (by omega) (by omega) hL h300 (by omega) (by omega) (by omega)) ca_X7_106 ⟨nm_X7_fails, by decide, by decide⟩ rfl (by decide) rfl rfl rfl (Nat.le_of_ble_eq_true rfl) (fun r32 E33 q34 => ?_)
          obtain ⟨rfl, rfl⟩ := q34
          show WP g _ _ _ _ _ _
          refine wp_iload_n dX7_number_161 rfl rfl ?_
          refine wp_if_eq_n (tgt := 171) dX7_number_162 (by decide) (by first | omega | (split <;> omega)) (fun c35 => ?_) (fun c35 => ?_)
          · refine wp_iload dX7_number_171 rfl ?_
            have hei : sr_numE b L s = i := by rw [← he]; exact sr_scan_f (by simp [sr_dig] at hnodig; intro q; simp_all)
            refine wp_iret dX7_number_173 rfl ⟨?_, ?_⟩
            · unfold sr_numV; rw [hp0, hei]; rw [if_neg (by omega)]
            · rw [hei]; rw [if_pos (by omega)]; rfl
          · refine wp_iload dX7_number_165 rfl ?_
            refine wp_ineg dX7_number_167 ?_
            refine wp_goto (tgt := 173) dX7_number_168 (by decide) ?_
            have hei : sr_numE b L s = i := by rw [← he]; exact sr_scan_f (by simp [sr_dig] at hnodig; intro q; simp_all)
            refine wp_iret dX7_number_173 rfl ⟨?_, ?_⟩
            · unfold sr_numV; rw [hp0, hei]; rw [if_pos (by omega)]
            · rw [hei]; rw [if_pos (by omega)]; rfl
      · have hdigit := c29
        refine wp_aload_n dX7_number_94 rfl rfl ?_
        refine wp_getI_n (n := i) dX7_number_95 fl_X7_83 (by decide) rfl rfl (sr_T_8) ?_
        refine wp_iload_n dX7_number_98 rfl rfl ?_
        refine wp_isub_n dX7_number_99 (by omega) ?_
        refine wp_iconst (v := nI 3) dX7_number_100 rfl ?_
        refine wp_icmp_ge_n (tgt := 125) dX7_number_101 (by decide) (by first | omega | (split <;> omega)) (by first | omega | (split <;> omega)) (fun c36 => ?_) (fun c36 => ?_)
        · refine wp_iload dX7_number_125 rfl ?_
          refine wp_istore (lv' := [(0, .ref 63), (1, .int x1), (2, .int (nI mi)), (3, .int (nI p0)), (4, .int (sr_num b p0 (i - p0)))]) dX7_number_127 (by decide) rfl ?_
          refine wp_aload_n dX7_number_129 rfl rfl ?_
          refine wp_dup dX7_number_130 rfl ?_
          refine wp_getI_n (n := i) dX7_number_131 fl_X7_83 (by decide) rfl rfl (sr_T_8) ?_
          refine wp_iconst (v := nI 1) dX7_number_134 rfl ?_
          refine wp_iadd_n dX7_number_135 ?_
          refine wp_putI dX7_number_136 fl_X7_83 (by decide) rfl rfl ?_
          rw [sr_T_s8]
          refine wp_goto (tgt := 83) dX7_number_139 (by decide) ?_
          have hdg : i < L ∧ sr_digit (b i) = true := by simpa [sr_dig] using hdigit
          have h := ih (i + 1) (by omega) (by omega) (by rw [← he]; exact (sr_scan_t hdg.1 hdg.2).symm)
          rw [show i + 1 - p0 = (i - p0) + 1 by omega] at h
          unfold sr_num at h
          rw [if_neg (by omega)] at h
          exact h
        · refine wp_bipush (v := nI 10) dX7_number_104 rfl ?_
          refine wp_iload dX7_number_106 rfl ?_
          refine wp_imul dX7_number_108 ?_
          refine wp_aload_n dX7_number_109 rfl rfl ?_
          refine wp_getR (r := 66) dX7_number_110 fl_X7_16 (by decide) rfl rfl rfl ?_
          refine wp_aload_n dX7_number_113 rfl rfl ?_
          refine wp_getI_n (n := i) dX7_number_114 fl_X7_83 (by decide) rfl rfl (sr_T_8) ?_
          refine wp_bald dX7_number_117 (by decide) rfl (show _ < 300 by have := sr_dig_lt hdigit; omega) (by first | omega | (split <;> omega)) ?_
          rw [sr_T_66, hbb]
          refine wp_iadd dX7_number_118 ?_
          refine wp_bipush (v := nI 48) dX7_number_119 rfl ?_
          refine wp_isub dX7_number_121 ?_
          refine wp_goto (tgt := 127) dX7_number_122 (by decide) ?_
          refine wp_topi (fun x37 ex37 => ?_)
          refine wp_istore (lv' := [(0, .ref 63), (1, .int x1), (2, .int (nI mi)), (3, .int (nI p0)), (4, .int x37)]) dX7_number_127 (by decide) rfl ?_
          refine wp_aload_n dX7_number_129 rfl rfl ?_
          refine wp_dup dX7_number_130 rfl ?_
          refine wp_getI_n (n := i) dX7_number_131 fl_X7_83 (by decide) rfl rfl (sr_T_8) ?_
          refine wp_iconst (v := nI 1) dX7_number_134 rfl ?_
          refine wp_iadd_n dX7_number_135 ?_
          refine wp_putI dX7_number_136 fl_X7_83 (by decide) rfl rfl ?_
          rw [sr_T_s8]
          refine wp_goto (tgt := 83) dX7_number_139 (by decide) ?_
          have hdg : i < L ∧ sr_digit (b i) = true := by simpa [sr_dig] using hdigit
          have h := ih (i + 1) (by omega) (by omega) (by rw [← he]; exact (sr_scan_t hdg.1 hdg.2).symm)
          rw [show i + 1 - p0 = (i - p0) + 1 by omega] at h
          unfold sr_num at h
          rw [if_pos (by omega), show p0 + (i - p0) = i by omega] at h
          rw [ex37]
          exact h
  refine wp_aload_n dX7_number_0 rfl rfl ?_
  refine wp_getI_n (n := 0) dX7_number_1 fl_X7_89 (by decide) rfl rfl (sr_T_5) ?_
  refine wp_if_eq (tgt := 9) dX7_number_4 (by decide) (fun _ => ?_) (fun c38 => absurd c38 (by decide))
  refine wp_aload_n dX7_number_9 rfl rfl ?_
  refine wp_callV (M2 := M_X7_isNumber) (n := 0) (As := []) (st := []) dX7_number_10 (c_X7_isNumber g D L 0 a r now (by rw [hbb]; exact hb) hL h300 (by omega) (by omega) (by omega)) ca_X7_99 ⟨nm_X7_isNumber, by decide, by decide⟩ rfl (by decide) rfl rfl rfl (Nat.le_of_ble_eq_true rfl) (fun r39 E40 q41 => ?_)
  rw [hbb, hsk] at q41
  obtain ⟨rfl, rfl⟩ := q41
  show WP g _ _ _ (.int (sr_b (sr_isnum b L s)) :: _) _ _
  refine wp_istore_n (lv' := [(0, .ref 63), (1, .int (sr_b (sr_isnum b L s)))]) dX7_number_13 rfl (by decide) rfl ?_
  refine wp_aload_n dX7_number_14 rfl rfl ?_
  refine wp_aload_n dX7_number_15 rfl rfl ?_
  refine wp_getI_n (n := s) dX7_number_16 fl_X7_83 (by decide) rfl rfl (sr_T_8) ?_
  refine wp_putI dX7_number_19 fl_X7_103 (by decide) rfl rfl ?_
  rw [sr_T_s9]
  refine wp_iload_n dX7_number_22 rfl rfl ?_
  refine wp_if_ne_b (tgt := 37) dX7_number_23 (by decide) (fun c42 => ?_) (fun c42 => ?_)
  · have hnum := c42
    refine wp_aload_n dX7_number_37 rfl rfl ?_
    refine wp_getR (r := 66) dX7_number_38 fl_X7_16 (by decide) rfl rfl rfl ?_
    refine wp_aload_n dX7_number_41 rfl rfl ?_
    refine wp_getI_n (n := s) dX7_number_42 fl_X7_83 (by decide) rfl rfl (sr_T_8) ?_
    refine wp_bald dX7_number_45 (by decide) rfl (show _ < 300 by have := sr_dig_lt hnum; have := sr_dfst_ge b L s; omega) (by first | omega | (split <;> omega)) ?_
    rw [sr_T_66, hbb]
    refine wp_bipush (v := nI 45) dX7_number_46 rfl ?_
    refine wp_icmp_ne (tgt := 55) dX7_number_48 (by decide) (fun c43 => ?_) (fun c43 => ?_)
    · have hmin := c43
      refine wp_iconst (v := nI 0) dX7_number_55 rfl ?_
      refine wp_istore_n (lv' := [(0, .ref 63), (1, .int (sr_b (sr_isnum b L s))), (2, .int (nI 0))]) dX7_number_56 rfl (by decide) rfl ?_
      refine wp_aload_n dX7_number_57 rfl rfl ?_
      refine wp_dup dX7_number_58 rfl ?_
      refine wp_getI_n (n := s) dX7_number_59 fl_X7_83 (by decide) rfl rfl (sr_T_8) ?_
      refine wp_iload_n dX7_number_62 rfl rfl ?_
      refine wp_if_eq (tgt := 70) dX7_number_63 (by decide) (fun _ => ?_) (fun c44 => absurd c44 (by decide))
      refine wp_iconst (v := nI 0) dX7_number_70 rfl ?_
      refine wp_iadd_n dX7_number_71 ?_
      refine wp_putI dX7_number_72 fl_X7_83 (by decide) rfl rfl ?_
      rw [sr_T_s8]
      refine wp_aload_n dX7_number_75 rfl rfl ?_
      refine wp_getI_n (n := s + 0) dX7_number_76 fl_X7_83 (by decide) rfl rfl (sr_T_8) ?_
      refine wp_istore_n (lv' := [(0, .ref 63), (1, .int (sr_b (sr_isnum b L s))), (2, .int (nI 0)), (3, .int (nI (s + 0)))]) dX7_number_79 rfl (by decide) rfl ?_
      refine wp_iconst (v := nI 0) dX7_number_80 rfl ?_
      refine wp_istore (lv' := [(0, .ref 63), (1, .int (sr_b (sr_isnum b L s))), (2, .int (nI 0)), (3, .int (nI (s + 0))), (4, .int (nI 0))]) dX7_number_81 (by decide) rfl ?_
      have hL1 : s < L := by have := sr_dig_lt hnum; have := sr_dfst_ge b L s; omega
      have hd : sr_dfst b L s = s := if_neg (fun q => hmin q.2)
      have h := hW 0 (sr_b (sr_isnum b L s)) (by decide) hnum (L + 1 - sr_dfst b L s) (sr_dfst b L s) (by have := sr_dig_lt hnum; omega) (Nat.le_refl _) rfl
      rw [Nat.sub_self, hd] at h
      simp only [sr_numR, sr_numF, sr_numA, if_pos hnum, if_neg hmin]
      rw [hd]
      exact h
    · have hmin := c43
      refine wp_iconst (v := nI 1) dX7_number_51 rfl ?_
      refine wp_goto (tgt := 56) dX7_number_52 (by decide) ?_
      refine wp_istore_n (lv' := [(0, .ref 63), (1, .int (sr_b (sr_isnum b L s))), (2, .int (nI 1))]) dX7_number_56 rfl (by decide) rfl ?_
      refine wp_aload_n dX7_number_57 rfl rfl ?_
      refine wp_dup dX7_number_58 rfl ?_
      refine wp_getI_n (n := s) dX7_number_59 fl_X7_83 (by decide) rfl rfl (sr_T_8) ?_
      refine wp_iload_n dX7_number_62 rfl rfl ?_
      refine wp_if_eq (tgt := 70) dX7_number_63 (by decide) (fun c45 => absurd c45 (by decide)) (fun _ => ?_)
      refine wp_iconst (v := nI 1) dX7_number_66 rfl ?_
      refine wp_goto (tgt := 71) dX7_number_67 (by decide) ?_
      refine wp_iadd_n dX7_number_71 ?_
      refine wp_putI dX7_number_72 fl_X7_83 (by decide) rfl rfl ?_
      rw [sr_T_s8]
      refine wp_aload_n dX7_number_75 rfl rfl ?_
      refine wp_getI_n (n := s + 1) dX7_number_76 fl_X7_83 (by decide) rfl rfl (sr_T_8) ?_
      refine wp_istore_n (lv' := [(0, .ref 63), (1, .int (sr_b (sr_isnum b L s))), (2, .int (nI 1)), (3, .int (nI (s + 1)))]) dX7_number_79 rfl (by decide) rfl ?_
      refine wp_iconst (v := nI 0) dX7_number_80 rfl ?_
      refine wp_istore (lv' := [(0, .ref 63), (1, .int (sr_b (sr_isnum b L s))), (2, .int (nI 1)), (3, .int (nI (s + 1))), (4, .int (nI 0))]) dX7_number_81 (by decide) rfl ?_
      have hL1 : s < L := by have := sr_dig_lt hnum; have := sr_dfst_ge b L s; omega
      have hd : sr_dfst b L s = s + 1 := if_pos ⟨hL1, hmin⟩
      have h := hW 1 (sr_b (sr_isnum b L s)) (by decide) hnum (L + 1 - sr_dfst b L s) (sr_dfst b L s) (by have := sr_dig_lt hnum; omega) (Nat.le_refl _) rfl
      rw [Nat.sub_self, hd] at h
      simp only [sr_numR, sr_numF, sr_numA, if_pos hnum, if_pos hmin]
      rw [hd]
      exact h
  · have hnum := c42
    refine wp_aload_n dX7_number_26 rfl rfl ?_
    refine wp_iconst (v := nI 1) dX7_number_27 rfl ?_
    refine wp_aload_n dX7_number_28 rfl rfl ?_
    refine wp_getI_n (n := s) dX7_number_29 fl_X7_103 (by decide) rfl rfl (sr_T_9) ?_
    refine wp_callV (M2 := M_X7_fails) (n := 2) (As := [.int (nI 1), .int (nI s)]) (st := []) dX7_number_32 (c_X7_fails g D L 0 s s now 1 s (by omega) (by omega) hL h300 (by omega) (by omega) (by omega)) ca_X7_106 ⟨nm_X7_fails, by decide, by decide⟩ rfl (by decide) rfl rfl rfl (Nat.le_of_ble_eq_true rfl) (fun r46 E47 q48 => ?_)
    obtain ⟨rfl, rfl⟩ := q48
    show WP g _ _ _ _ _ _
    refine wp_iconst (v := nI 0) dX7_number_35 rfl ?_
    refine wp_iret dX7_number_36 rfl ?_
    simp only [sr_numR, sr_numF, sr_numA, hnum]
    exact ⟨rfl, rfl⟩
