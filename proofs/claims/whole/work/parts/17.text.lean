/-- the fault of a number at s that must be from lo to hi -/
def sr_numInF (b : Nat → Int32) (L s : Nat) (lo hi : Int32) : Nat := if sr_numF b L s = 0 then (if sr_isIn (sr_numR b L s) lo hi = true then 0 else 2 + 8 * s) else sr_numF b L s
theorem sr_numInF_le {b : Nat → Int32} {L s : Nat} {lo hi : Int32} (h : s ≤ 302) : sr_numInF b L s lo hi ≤ 2500 := by
  have := sr_numF_le (b := b) (L := L) h
  unfold sr_numInF
  repeat' split
  all_goals omega
set_option maxHeartbeats 4000000 in
set_option maxRecDepth 100000 in
theorem c_X7_numberIn (g : sr_G) (D : sr_St) (L a r : Nat) (now : Nat → Int32) (hb : sr_bytes (D.1 66)) (lo hi : Int32) (hL : D.1 63 7 = nI L) (h300 : L ≤ 300) (ha : a ≤ L + 1) (hr : r ≤ 400)  : Con g M_X7_numberIn [.ref 63, .int lo, .int hi] (sr_T D 0 a r now) (sr_ret (some (.int (sr_numR (D.1 66) L (sr_skip (D.1 66) L a)))) (sr_T D (sr_numInF (D.1 66) L (sr_skip (D.1 66) L a) lo hi) (sr_numA (D.1 66) L (sr_skip (D.1 66) L a)) (sr_skip (D.1 66) L a) now)) := by
  refine Con.of pn_X7_numberIn (Nat.le_of_ble_eq_true rfl) ?_
  show WP g M_X7_numberIn 0 [(0, .ref 63), (1, .int lo), (2, .int hi)] [] (sr_T D 0 a r now) _
  have hs1 := sr_skip_ge (D.1 66) L a
  have hs2 := sr_skip_le1 (D.1 66) ha
  have hA := sr_numA_le (b := D.1 66) (L := L) hs2
  have hF := sr_numF_le (b := D.1 66) (L := L) (s := sr_skip (D.1 66) L a) (by omega)
  refine wp_aload_n dX7_numberIn_0 rfl rfl ?_
  refine wp_callV (M2 := M_X7_number) (n := 0) (As := []) (st := []) dX7_numberIn_1 (c_X7_number g D L a r now hb hL h300 (by omega) (by omega)) ca_X7_110 ⟨nm_X7_number, by decide, by decide⟩ rfl (by decide) rfl rfl rfl (Nat.le_of_ble_eq_true rfl) (fun r49 E50 q51 => ?_)
  obtain ⟨rfl, rfl⟩ := q51
  show WP g _ _ _ (.int (sr_numR (D.1 66) L (sr_skip (D.1 66) L a)) :: _) _ _
  refine wp_istore_n (lv' := [(0, .ref 63), (1, .int lo), (2, .int hi), (3, .int (sr_numR (D.1 66) L (sr_skip (D.1 66) L a)))]) dX7_numberIn_4 rfl (by decide) rfl ?_
  refine wp_aload_n dX7_numberIn_5 rfl rfl ?_
  refine wp_getI_n (n := sr_numF (D.1 66) L (sr_skip (D.1 66) L a)) dX7_numberIn_6 fl_X7_89 (by decide) rfl rfl (sr_T_5) ?_
  refine wp_if_ne_n (tgt := 30) dX7_numberIn_9 (by decide) (by first | omega | (split <;> omega)) (fun c52 => ?_) (fun c52 => ?_)
  · refine wp_iload_n dX7_numberIn_30 rfl rfl ?_
    refine wp_iret dX7_numberIn_31 rfl ⟨?_, ?_⟩
    · first | rfl | (congr 2)
    · simp_all [sr_numInF]
  · refine wp_iload_n dX7_numberIn_12 rfl rfl ?_
    refine wp_iload_n dX7_numberIn_13 rfl rfl ?_
    refine wp_iload_n dX7_numberIn_14 rfl rfl ?_
    refine wp_callS (M2 := M_X7_isIn) (n := 3) (As := [.int (sr_numR (D.1 66) L (sr_skip (D.1 66) L a)), .int lo, .int hi]) (st := []) dX7_numberIn_15 (c_X7_isIn g (sr_T D (sr_numF (D.1 66) L (sr_skip (D.1 66) L a)) (sr_numA (D.1 66) L (sr_skip (D.1 66) L a)) (sr_skip (D.1 66) L a) now) (sr_numR (D.1 66) L (sr_skip (D.1 66) L a)) lo hi) ca_X7_50 ⟨nm_X7_isIn, by decide, by decide⟩ rfl rfl (Nat.le_of_ble_eq_true rfl) (fun r53 E54 q55 => ?_)
    obtain ⟨rfl, rfl⟩ := q55
    show WP g _ _ _ (.int (sr_b (sr_isIn (sr_numR (D.1 66) L (sr_skip (D.1 66) L a)) lo hi)) :: _) _ _
    refine wp_if_ne_b (tgt := 30) dX7_numberIn_18 (by decide) (fun c56 => ?_) (fun c56 => ?_)
    · refine wp_iload_n dX7_numberIn_30 rfl rfl ?_
      refine wp_iret dX7_numberIn_31 rfl ⟨?_, ?_⟩
      · first | rfl | (congr 2)
      · simp_all [sr_numInF]
    · refine wp_aload_n dX7_numberIn_21 rfl rfl ?_
      refine wp_iconst (v := nI 2) dX7_numberIn_22 rfl ?_
      refine wp_aload_n dX7_numberIn_23 rfl rfl ?_
      refine wp_getI_n (n := sr_skip (D.1 66) L a) dX7_numberIn_24 fl_X7_103 (by decide) rfl rfl (sr_T_9) ?_
      refine wp_callV (M2 := M_X7_fails) (n := 2) (As := [.int (nI 2), .int (nI (sr_skip (D.1 66) L a))]) (st := []) dX7_numberIn_27 (c_X7_fails g D L (sr_numF (D.1 66) L (sr_skip (D.1 66) L a)) (sr_numA (D.1 66) L (sr_skip (D.1 66) L a)) (sr_skip (D.1 66) L a) now 2 (sr_skip (D.1 66) L a) (by omega) (by omega) hL h300 (by omega) (by omega) (by omega)) ca_X7_106 ⟨nm_X7_fails, by decide, by decide⟩ rfl (by decide) rfl rfl rfl (Nat.le_of_ble_eq_true rfl) (fun r57 E58 q59 => ?_)
      obtain ⟨rfl, rfl⟩ := q59
      show WP g _ _ _ _ _ _
      refine wp_iload_n dX7_numberIn_30 rfl rfl ?_
      refine wp_iret dX7_numberIn_31 rfl ⟨?_, ?_⟩
      · first | rfl | (congr 2)
      · simp_all [sr_numInF]
/-- the letters from p on as one number (none for more than five) -/
def sr_hash (b : Nat → Int32) (p : Nat) : Nat → Int32
  | 0 => nI 0
  | j + 1 => if j < 5 then nI 32 * sr_hash b p j + b (p + j) - nI 96 else nI 0
def sr_wend (b : Nat → Int32) (L s : Nat) : Nat := sr_scan sr_letter b L s
def sr_word (b : Nat → Int32) (L s : Nat) : Int32 := sr_hash b s (sr_wend b L s - s)
theorem sr_wend_ge (b : Nat → Int32) (L s : Nat) : s ≤ sr_wend b L s := sr_scan_ge _ _ _ _
theorem sr_wend_le1 {b : Nat → Int32} {L s : Nat} (h : s ≤ L + 1) : sr_wend b L s ≤ L + 1 := by
  by_cases h1 : s ≤ L
  · have := sr_scan_le sr_letter b h1; unfold sr_wend; omega
  · have : sr_wend b L s = s := sr_scan_f (by omega)
    omega
set_option maxHeartbeats 4000000 in
set_option maxRecDepth 100000 in
theorem c_X7_word (g : sr_G) (D : sr_St) (L f a r : Nat) (now : Nat → Int32)  (hL : D.1 63 7 = nI L) (h300 : L ≤ 300) (ha : a ≤ L + 1) (hf : f ≤ 8000) (hr : r ≤ 400)  : Con g M_X7_word [.ref 63] (sr_T D f a r now) (sr_ret (some (.int (sr_word (D.1 66) L (sr_skip (D.1 66) L a)))) (sr_T D f (sr_wend (D.1 66) L (sr_skip (D.1 66) L a)) (sr_skip (D.1 66) L a) now)) := by
  refine Con.of pn_X7_word (Nat.le_of_ble_eq_true rfl) ?_
  show WP g M_X7_word 0 [(0, .ref 63)] [] (sr_T D f a r now) _
  have hs1 := sr_skip_ge (D.1 66) L a
  have hs2 := sr_skip_le1 (D.1 66) ha
  generalize hsk : sr_skip (D.1 66) L a = s at *
  generalize hbb : D.1 66 = b at *
  have hW : ∀ k i, i + k = L + 1 → s ≤ i → sr_scan sr_letter b L i = sr_wend b L s → WP g M_X7_word 15 [(0, .ref 63), (1, .int (sr_hash b s (i - s)))] [] (sr_T D f i s now) (sr_ret (some (.int (sr_word b L s))) (sr_T D f (sr_wend b L s) s now)) := by
    intro k
    induction k with
    | zero =>
      intro i hi hp he
      have hi1 : i = L + 1 := by omega
      have hei : sr_wend b L s = i := by rw [← he]; exact sr_scan_f (by omega)
      refine wp_aload_n dX7_word_15 rfl rfl ?_
      refine wp_getI_n (n := i) dX7_word_16 fl_X7_83 (by decide) rfl rfl (sr_T_8) ?_
      refine wp_aload_n dX7_word_19 rfl rfl ?_
      refine wp_getI_n (n := L) dX7_word_20 fl_X7_86 (by decide) rfl rfl ((sr_T_7 hL)) ?_
      refine wp_icmp_ge_n (tgt := 93) dX7_word_23 (by decide) (by first | omega | (split <;> omega)) (by first | omega | (split <;> omega)) (fun c60 => ?_) (fun c60 => ?_)
      · refine wp_iload_n dX7_word_93 rfl rfl ?_
        refine wp_iret dX7_word_94 rfl ?_
        unfold sr_word
        rw [hei]
        exact ⟨rfl, rfl⟩
      · exact absurd c60 (by omega)
    | succ k ih =>
      intro i hi hp he
      refine wp_aload_n dX7_word_15 rfl rfl ?_
      refine wp_getI_n (n := i) dX7_word_16 fl_X7_83 (by decide) rfl rfl (sr_T_8) ?_
      refine wp_aload_n dX7_word_19 rfl rfl ?_
      refine wp_getI_n (n := L) dX7_word_20 fl_X7_86 (by decide) rfl rfl ((sr_T_7 hL)) ?_
      refine wp_icmp_ge_n (tgt := 93) dX7_word_23 (by decide) (by first | omega | (split <;> omega)) (by first | omega | (split <;> omega)) (fun c61 => ?_) (fun c61 => ?_)
      · refine wp_iload_n dX7_word_93 rfl rfl ?_
        have hei : sr_wend b L s = i := by rw [← he]; exact sr_scan_f (by first | omega | (rw [hlet]; simp))
        refine wp_iret dX7_word_94 rfl ?_
        unfold sr_word
        rw [hei]
        exact ⟨rfl, rfl⟩
      · refine wp_aload_n dX7_word_26 rfl rfl ?_
        refine wp_getR (r := 66) dX7_word_27 fl_X7_16 (by decide) rfl rfl rfl ?_
        refine wp_aload_n dX7_word_30 rfl rfl ?_
        refine wp_getI_n (n := i) dX7_word_31 fl_X7_83 (by decide) rfl rfl (sr_T_8) ?_
        refine wp_bald dX7_word_34 (by decide) rfl (show _ < 300 by omega) (by first | omega | (split <;> omega)) ?_
        rw [sr_T_66, hbb]
        refine wp_bipush (v := nI 97) dX7_word_35 rfl ?_
        refine wp_bipush (v := nI 122) dX7_word_37 rfl ?_
        refine wp_callS (M2 := M_X7_isIn) (n := 3) (As := [.int (b i), .int (nI 97), .int (nI 122)]) (st := []) dX7_word_39 (c_X7_isIn g (sr_T D f i s now) (b i) (nI 97) (nI 122)) ca_X7_50 ⟨nm_X7_isIn, by decide, by decide⟩ rfl rfl (Nat.le_of_ble_eq_true rfl) (fun r62 E63 q64 => ?_)
        obtain ⟨rfl, rfl⟩ := q64
        show WP g _ _ _ (.int (sr_b (sr_isIn (b i) (nI 97) (nI 122))) :: _) _ _
        refine wp_if_eq_b (tgt := 93) dX7_word_42 (by decide) (fun c65 => ?_) (fun c65 => ?_)
        · have hlet : sr_letter (b i) = false := c65
          refine wp_iload_n dX7_word_93 rfl rfl ?_
          have hei : sr_wend b L s = i := by rw [← he]; exact sr_scan_f (by first | omega | (rw [hlet]; simp))
          refine wp_iret dX7_word_94 rfl ?_
          unfold sr_word
          rw [hei]
          exact ⟨rfl, rfl⟩
        · have hlet : sr_letter (b i) = true := c65
          refine wp_aload_n dX7_word_45 rfl rfl ?_
          refine wp_getI_n (n := i) dX7_word_46 fl_X7_83 (by decide) rfl rfl (sr_T_8) ?_
          refine wp_aload_n dX7_word_49 rfl rfl ?_
          refine wp_getI_n (n := s) dX7_word_50 fl_X7_103 (by decide) rfl rfl (sr_T_9) ?_
          refine wp_isub_n dX7_word_53 (by omega) ?_
          refine wp_iconst (v := nI 5) dX7_word_54 rfl ?_
          refine wp_icmp_ge_n (tgt := 78) dX7_word_55 (by decide) (by first | omega | (split <;> omega)) (by first | omega | (split <;> omega)) (fun c66 => ?_) (fun c66 => ?_)
          · refine wp_iconst (v := nI 0) dX7_word_78 rfl ?_
            refine wp_istore_n (lv' := [(0, .ref 63), (1, .int (nI 0))]) dX7_word_79 rfl (by decide) rfl ?_
            refine wp_aload_n dX7_word_80 rfl rfl ?_
            refine wp_dup dX7_word_81 rfl ?_
            refine wp_getI_n (n := i) dX7_word_82 fl_X7_83 (by decide) rfl rfl (sr_T_8) ?_
            refine wp_iconst (v := nI 1) dX7_word_85 rfl ?_
            refine wp_iadd_n dX7_word_86 ?_
            refine wp_putI dX7_word_87 fl_X7_83 (by decide) rfl rfl ?_
            rw [sr_T_s8]
            refine wp_goto (tgt := 15) dX7_word_90 (by decide) ?_
            have h := ih (i + 1) (by omega) (by omega) (by rw [← he]; exact (sr_scan_t (by omega) hlet).symm)
            rw [show i + 1 - s = (i - s) + 1 by omega] at h
            unfold sr_hash at h
            rw [if_neg (by omega)] at h
            exact h
          · refine wp_bipush (v := nI 32) dX7_word_58 rfl ?_
            refine wp_iload_n dX7_word_60 rfl rfl ?_
            refine wp_imul dX7_word_61 ?_
            refine wp_aload_n dX7_word_62 rfl rfl ?_
            refine wp_getR (r := 66) dX7_word_63 fl_X7_16 (by decide) rfl rfl rfl ?_
            refine wp_aload_n dX7_word_66 rfl rfl ?_
            refine wp_getI_n (n := i) dX7_word_67 fl_X7_83 (by decide) rfl rfl (sr_T_8) ?_
            refine wp_bald dX7_word_70 (by decide) rfl (show _ < 300 by omega) (by first | omega | (split <;> omega)) ?_
            rw [sr_T_66, hbb]
            refine wp_iadd dX7_word_71 ?_
            refine wp_bipush (v := nI 96) dX7_word_72 rfl ?_
            refine wp_isub dX7_word_74 ?_
            refine wp_goto (tgt := 79) dX7_word_75 (by decide) ?_
            refine wp_topi (fun x67 ex67 => ?_)
            refine wp_istore_n (lv' := [(0, .ref 63), (1, .int x67)]) dX7_word_79 rfl (by decide) rfl ?_
            refine wp_aload_n dX7_word_80 rfl rfl ?_
            refine wp_dup dX7_word_81 rfl ?_
            refine wp_getI_n (n := i) dX7_word_82 fl_X7_83 (by decide) rfl rfl (sr_T_8) ?_
            refine wp_iconst (v := nI 1) dX7_word_85 rfl ?_
            refine wp_iadd_n dX7_word_86 ?_
            refine wp_putI dX7_word_87 fl_X7_83 (by decide) rfl rfl ?_
            rw [sr_T_s8]
            refine wp_goto (tgt := 15) dX7_word_90 (by decide) ?_
            have h := ih (i + 1) (by omega) (by omega) (by rw [← he]; exact (sr_scan_t (by omega) hlet).symm)
            rw [show i + 1 - s = (i - s) + 1 by omega] at h
            unfold sr_hash at h
            rw [if_pos (by omega), show s + (i - s) = i by omega] at h
            rw [ex67]
            exact h
  refine wp_aload_n dX7_word_0 rfl rfl ?_
  refine wp_callV (M2 := M_X7_here) (n := 0) (As := []) (st := []) dX7_word_1 (c_X7_here g D L f a r now hL h300 (by omega) (by omega) (by omega)) ca_X7_92 ⟨nm_X7_here, by decide, by decide⟩ rfl (by decide) rfl rfl rfl (Nat.le_of_ble_eq_true rfl) (fun r68 E69 q70 => ?_)
  rw [hbb, hsk] at q70
  obtain ⟨rfl, rfl⟩ := q70
  show WP g _ _ _ (.int (sr_at1 b L s) :: _) _ _
  refine wp_pop dX7_word_4 rfl ?_
  refine wp_aload_n dX7_word_5 rfl rfl ?_
  refine wp_aload_n dX7_word_6 rfl rfl ?_
  refine wp_getI_n (n := s) dX7_word_7 fl_X7_83 (by decide) rfl rfl (sr_T_8) ?_
  refine wp_putI dX7_word_10 fl_X7_103 (by decide) rfl rfl ?_
  rw [sr_T_s9]
  refine wp_iconst (v := nI 0) dX7_word_13 rfl ?_
  refine wp_istore_n (lv' := [(0, .ref 63), (1, .int (nI 0))]) dX7_word_14 rfl (by decide) rfl ?_
  have h := hW (L + 1 - s) s (by omega) (Nat.le_refl _) rfl
  rw [Nat.sub_self] at h
  exact h
set_option maxHeartbeats 4000000 in
set_option maxRecDepth 100000 in
theorem c_X7_letters (g : sr_G) (D : sr_St) (p q r s t : Nat)  : Con g M_X7_letters [.int (nI p), .int (nI q), .int (nI r), .int (nI s), .int (nI t)] D (sr_ret (some (.int (nI ((((p * 32 + q) * 32 + r) * 32 + s) * 32 + t)))) D) := by
  refine Con.of pn_X7_letters (Nat.le_of_ble_eq_true rfl) ?_
  show WP g M_X7_letters 0 [(0, .int (nI p)), (1, .int (nI q)), (2, .int (nI r)), (3, .int (nI s)), (4, .int (nI t))] [] D _
  refine wp_iload_n dX7_letters_0 rfl rfl ?_
  refine wp_bipush (v := nI 32) dX7_letters_1 rfl ?_
  refine wp_imul_n dX7_letters_3 ?_
  refine wp_iload_n dX7_letters_4 rfl rfl ?_
  refine wp_iadd_n dX7_letters_5 ?_
  refine wp_bipush (v := nI 32) dX7_letters_6 rfl ?_
  refine wp_imul_n dX7_letters_8 ?_
  refine wp_iload_n dX7_letters_9 rfl rfl ?_
  refine wp_iadd_n dX7_letters_10 ?_
  refine wp_bipush (v := nI 32) dX7_letters_11 rfl ?_
  refine wp_imul_n dX7_letters_13 ?_
  refine wp_iload_n dX7_letters_14 rfl rfl ?_
  refine wp_iadd_n dX7_letters_15 ?_
  refine wp_bipush (v := nI 32) dX7_letters_16 rfl ?_
  refine wp_imul_n dX7_letters_18 ?_
  refine wp_iload dX7_letters_19 rfl ?_
  refine wp_iadd_n dX7_letters_21 ?_
  exact wp_iret dX7_letters_22 rfl ⟨rfl, rfl⟩
