/-! a statement told, from a on: the fault, the place behind it, the races behind it -/
section ST
variable (b : Nat → Int32) (L : Nat) (now : Nat → Int32) (a : Nat)
def st_s : Nat := sr_skip b L a
def st_a : Nat := sr_wend b L (st_s b L a)
def st_n : Nat := sr_skip b L (st_a b L a)
def st_w : Int32 := sr_word b L (st_s b L a)
def sr_toldF (n rc : Nat) : Nat :=
  if st_w b L a = nI 116919 then sr_numInF b L (st_n b L a) (nI 0) (nI 6)
  else if st_w b L a = nI 12891444 then sr_numInF b L (st_n b L a) (nI 1) (nI 99)
  else if st_w b L a = nI 590949 then sr_raceF b L n (st_a b L a) rc (st_s b L a)
  else 1 + 8 * st_s b L a
def sr_toldA (n : Nat) : Nat := if st_w b L a = nI 116919 then sr_numA b L (st_n b L a) else if st_w b L a = nI 12891444 then sr_numA b L (st_n b L a) else sr_raceA b L n (st_a b L a)
def sr_toldN (n rc : Nat) : Nat → Int32 :=
  if st_w b L a = nI 116919 then upd (upd now 0 (sr_numR b L (st_n b L a))) 2 (nI 0)
  else if st_w b L a = nI 12891444 then upd now 1 (sr_numR b L (st_n b L a))
  else sr_raceN b L n (st_a b L a) now rc
end ST
def sr_toldP (g0 : sr_St) (b : Nat → Int32) (L n a rc : Nat) (now : Nat → Int32) : Option Value → sr_St → Prop := fun q D' => q = none ∧ ∃ (F a' r' : Nat) (now' : Nat → Int32), D' = sr_T g0 F a' r' now' ∧ F = sr_toldF b L a n rc ∧ F ≤ 2500 ∧ a' ≤ L + 1 ∧ r' ≤ L + 1 ∧ (F = 0 → a' = sr_toldA b L a n ∧ a' ≤ L ∧ now' = sr_toldN b L now a n rc) ∧ (¬ F = 0 → now' = now)
set_option maxHeartbeats 4000000 in
set_option maxRecDepth 100000 in
theorem c_X7_told (g : sr_G) (D : sr_St) (L a r : Nat) (now : Nat → Int32) (n rc : Nat) (hn : now 0 = nI n) (hn6 : n ≤ 6) (hrc : now 2 = nI rc) (hrc12 : rc ≤ 12) (hb : sr_bytes (D.1 66)) (hL : D.1 63 7 = nI L) (h300 : L ≤ 300) (ha : a ≤ L) (hr : r ≤ 400) : Con g M_X7_told [.ref 63] (sr_T D 0 a r now) (sr_toldP D (D.1 66) L n a rc now) := by
  refine Con.of pn_X7_told (Nat.le_of_ble_eq_true rfl) ?_
  show WP g M_X7_told 0 [(0, .ref 63)] [] (sr_T D 0 a r now) _
  have hss : st_s (D.1 66) L a ≤ L := sr_skip_le (D.1 66) ha
  have hsa : st_a (D.1 66) L a ≤ L := sr_wend_leL hss
  have hsn : st_n (D.1 66) L a ≤ L := sr_skip_le (D.1 66) hsa
  have hnA := sr_numA_leL (b := D.1 66) hsn
  have hI1 := sr_numInF_le (b := D.1 66) (L := L) (s := st_n (D.1 66) L a) (lo := nI 0) (hi := nI 6) (by omega)
  have hI2 := sr_numInF_le (b := D.1 66) (L := L) (s := st_n (D.1 66) L a) (lo := nI 1) (hi := nI 99) (by omega)
  refine wp_aload_n dX7_told_0 rfl rfl ?_
  refine wp_callV (M2 := M_X7_word) (n := 0) (As := []) (st := []) dX7_told_1 (c_X7_word g D L 0 a r now hL h300 (by omega) (by omega) (by omega)) ca_X7_127 ⟨nm_X7_word, by decide, by decide⟩ rfl (by decide) rfl rfl rfl (Nat.le_of_ble_eq_true rfl) (fun r222 E223 q224 => ?_)
  obtain ⟨rfl, rfl⟩ := q224
  show WP g _ _ _ (.int (st_w (D.1 66) L a) :: _) (sr_T D 0 (st_a (D.1 66) L a) (st_s (D.1 66) L a) now) _
  refine wp_istore_n (lv' := [(0, .ref 63), (1, .int (st_w (D.1 66) L a))]) dX7_told_4 rfl (by decide) rfl ?_
  refine wp_iload_n dX7_told_5 rfl rfl ?_
  refine wp_iconst (v := nI 0) dX7_told_6 rfl ?_
  refine wp_iconst (v := nI 3) dX7_told_7 rfl ?_
  refine wp_bipush (v := nI 18) dX7_told_8 rfl ?_
  refine wp_iconst (v := nI 5) dX7_told_10 rfl ?_
  refine wp_bipush (v := nI 23) dX7_told_11 rfl ?_
  refine wp_callS (M2 := M_X7_letters) (n := 5) (As := [.int (nI 0), .int (nI 3), .int (nI 18), .int (nI 5), .int (nI 23)]) (st := [.int (st_w (D.1 66) L a)]) dX7_told_13 (c_X7_letters g (sr_T D 0 (st_a (D.1 66) L a) (st_s (D.1 66) L a) now) 0 3 18 5 23) ca_X7_130 ⟨nm_X7_letters, by decide, by decide⟩ rfl rfl (Nat.le_of_ble_eq_true rfl) (fun r225 E226 q227 => ?_)
  obtain ⟨rfl, rfl⟩ := q227
  show WP g _ _ _ (.int (nI 116919) :: _) _ _
  refine wp_icmp_ne (tgt := 52) dX7_told_16 (by decide) (fun c228 => ?_) (fun c228 => ?_)
  · have hw1 := c228
    refine wp_iload_n dX7_told_52 rfl rfl ?_
    refine wp_bipush (v := nI 12) dX7_told_53 rfl ?_
    refine wp_bipush (v := nI 9) dX7_told_55 rfl ?_
    refine wp_bipush (v := nI 13) dX7_told_57 rfl ?_
    refine wp_bipush (v := nI 9) dX7_told_59 rfl ?_
    refine wp_bipush (v := nI 20) dX7_told_61 rfl ?_
    refine wp_callS (M2 := M_X7_letters) (n := 5) (As := [.int (nI 12), .int (nI 9), .int (nI 13), .int (nI 9), .int (nI 20)]) (st := [.int (st_w (D.1 66) L a)]) dX7_told_63 (c_X7_letters g (sr_T D 0 (st_a (D.1 66) L a) (st_s (D.1 66) L a) now) 12 9 13 9 20) ca_X7_130 ⟨nm_X7_letters, by decide, by decide⟩ rfl rfl (Nat.le_of_ble_eq_true rfl) (fun r229 E230 q231 => ?_)
    obtain ⟨rfl, rfl⟩ := q231
    show WP g _ _ _ (.int (nI 12891444) :: _) _ _
    refine wp_icmp_ne (tgt := 94) dX7_told_66 (by decide) (fun c232 => ?_) (fun c232 => ?_)
    · have hw2 := c232
      refine wp_iload_n dX7_told_94 rfl rfl ?_
      refine wp_iconst (v := nI 0) dX7_told_95 rfl ?_
      refine wp_bipush (v := nI 18) dX7_told_96 rfl ?_
      refine wp_iconst (v := nI 1) dX7_told_98 rfl ?_
      refine wp_iconst (v := nI 3) dX7_told_99 rfl ?_
      refine wp_iconst (v := nI 5) dX7_told_100 rfl ?_
      refine wp_callS (M2 := M_X7_letters) (n := 5) (As := [.int (nI 0), .int (nI 18), .int (nI 1), .int (nI 3), .int (nI 5)]) (st := [.int (st_w (D.1 66) L a)]) dX7_told_101 (c_X7_letters g (sr_T D 0 (st_a (D.1 66) L a) (st_s (D.1 66) L a) now) 0 18 1 3 5) ca_X7_130 ⟨nm_X7_letters, by decide, by decide⟩ rfl rfl (Nat.le_of_ble_eq_true rfl) (fun r233 E234 q235 => ?_)
      obtain ⟨rfl, rfl⟩ := q235
      show WP g _ _ _ (.int (nI 590949) :: _) _ _
      refine wp_icmp_ne (tgt := 114) dX7_told_104 (by decide) (fun c236 => ?_) (fun c236 => ?_)
      · have hw3 := c236
        refine wp_aload_n dX7_told_114 rfl rfl ?_
        refine wp_iconst (v := nI 1) dX7_told_115 rfl ?_
        refine wp_aload_n dX7_told_116 rfl rfl ?_
        refine wp_getI_n (n := st_s (D.1 66) L a) dX7_told_117 fl_X7_103 (by decide) rfl rfl (sr_T_9) ?_
        refine wp_callV (M2 := M_X7_fails) (n := 2) (As := [.int (nI 1), .int (nI (st_s (D.1 66) L a))]) (st := []) dX7_told_120 (c_X7_fails g D L 0 (st_a (D.1 66) L a) (st_s (D.1 66) L a) now 1 (st_s (D.1 66) L a) (by omega) (by omega) hL h300 (by omega) (by omega) (by omega)) ca_X7_106 ⟨nm_X7_fails, by decide, by decide⟩ rfl (by decide) rfl rfl rfl (Nat.le_of_ble_eq_true rfl) (fun r237 E238 q239 => ?_)
        rw [if_pos rfl] at q239
        obtain ⟨rfl, rfl⟩ := q239
        show WP g _ _ _ _ (sr_T D (1 + 8 * (st_s (D.1 66) L a)) (st_a (D.1 66) L a) (st_s (D.1 66) L a) now) _
        refine wp_vret dX7_told_123 rfl ⟨rfl, _, _, _, _, rfl, ?_, by omega, by omega, by omega, fun h => absurd h (by omega), fun _ => rfl⟩
        unfold sr_toldF; rw [if_neg hw1, if_neg hw2, if_neg hw3]
      · have hw3 := c236
        refine wp_aload_n dX7_told_107 rfl rfl ?_
        refine wp_callV (M2 := M_X7_raceTold) (n := 0) (As := []) (st := []) dX7_told_108 (c_X7_raceTold g D L (st_a (D.1 66) L a) (st_s (D.1 66) L a) now n rc hn hn6 hrc hrc12 hb hL h300 (by omega) (by omega)) ca_X7_137 ⟨nm_X7_raceTold, by decide, by decide⟩ rfl (by decide) rfl rfl rfl (Nat.le_of_ble_eq_true rfl) (fun r240 E241 q242 => ?_)
        obtain ⟨rfl, F, a1, r1, now1, rfl, hF, hF2, ha1, hr1, hF0, hF1⟩ := q242
        show WP g _ _ _ _ (sr_T D F a1 r1 now1) _
        refine wp_goto (tgt := 123) dX7_told_111 (by decide) ?_
        refine wp_vret dX7_told_123 rfl ⟨rfl, F, a1, r1, now1, rfl, ?_, hF2, ha1, hr1, fun h => ⟨?_, (hF0 h).2.1, ?_⟩, hF1⟩
        · unfold sr_toldF; rw [if_neg hw1, if_neg hw2, if_pos hw3]; exact hF
        · unfold sr_toldA; rw [if_neg hw1, if_neg hw2]; exact (hF0 h).1
        · unfold sr_toldN; rw [if_neg hw1, if_neg hw2]; exact (hF0 h).2.2
    · have hw2 := c232
      refine wp_aload_n dX7_told_69 rfl rfl ?_
      refine wp_iconst (v := nI 1) dX7_told_70 rfl ?_
      refine wp_bipush (v := nI 99) dX7_told_71 rfl ?_
      refine wp_callV (M2 := M_X7_numberIn) (n := 2) (As := [.int (nI 1), .int (nI 99)]) (st := []) dX7_told_73 (c_X7_numberIn g D L (st_a (D.1 66) L a) (st_s (D.1 66) L a) now hb (nI 1) (nI 99) hL h300 (by omega) (by omega)) ca_X7_134 ⟨nm_X7_numberIn, by decide, by decide⟩ rfl (by decide) rfl rfl rfl (Nat.le_of_ble_eq_true rfl) (fun r243 E244 q245 => ?_)
      obtain ⟨rfl, rfl⟩ := q245
      show WP g _ _ _ (.int (sr_numR (D.1 66) L (st_n (D.1 66) L a)) :: _) (sr_T D (sr_numInF (D.1 66) L (st_n (D.1 66) L a) (nI 1) (nI 99)) (sr_numA (D.1 66) L (st_n (D.1 66) L a)) (st_n (D.1 66) L a) now) _
      refine wp_istore_n (lv' := [(0, .ref 63), (1, .int (st_w (D.1 66) L a)), (2, .int (sr_numR (D.1 66) L (st_n (D.1 66) L a)))]) dX7_told_76 rfl (by decide) rfl ?_
      refine wp_aload_n dX7_told_77 rfl rfl ?_
      refine wp_getI_n (n := sr_numInF (D.1 66) L (st_n (D.1 66) L a) (nI 1) (nI 99)) dX7_told_78 fl_X7_89 (by decide) rfl rfl (sr_T_5) ?_
      refine wp_if_ne_n (tgt := 91) dX7_told_81 (by decide) (by first | omega | (split <;> omega)) (fun c246 => ?_) (fun c246 => ?_)
      · have hz := c246
        refine wp_goto (tgt := 123) dX7_told_91 (by decide) ?_
        refine wp_vret dX7_told_123 rfl ⟨rfl, _, _, _, _, rfl, ?_, by omega, by omega, by omega, fun h => absurd h hz, fun _ => rfl⟩
        unfold sr_toldF; rw [if_neg hw1, if_pos hw2]
      · have hz := c246
        rw [hz]
        show WP g _ _ _ _ (sr_T D 0 (sr_numA (D.1 66) L (st_n (D.1 66) L a)) (st_n (D.1 66) L a) now) _
        refine wp_aload_n dX7_told_84 rfl rfl ?_
        refine wp_getR (r := 64) dX7_told_85 fl_X7_7 (by decide) rfl rfl rfl ?_
        refine wp_iconst (v := nI 1) dX7_told_88 rfl ?_
        refine wp_iload_n dX7_told_89 rfl rfl ?_
        refine wp_iast dX7_told_90 (by decide) rfl (by decide) (by first | omega | (split <;> omega)) ?_
        rw [sr_T_s64]
        refine wp_goto (tgt := 123) dX7_told_91 (by decide) ?_
        refine wp_vret dX7_told_123 rfl ⟨rfl, 0, _, _, _, rfl, ?_, by omega, by omega, by omega, fun _ => ⟨?_, by omega, ?_⟩, fun h => absurd rfl h⟩
        · unfold sr_toldF; rw [if_neg hw1, if_pos hw2]; exact hz.symm
        · unfold sr_toldA; rw [if_neg hw1, if_pos hw2]
        · unfold sr_toldN; rw [if_neg hw1, if_pos hw2]
  · have hw1 := c228
    refine wp_aload_n dX7_told_19 rfl rfl ?_
    refine wp_iconst (v := nI 0) dX7_told_20 rfl ?_
    refine wp_bipush (v := nI 6) dX7_told_21 rfl ?_
    refine wp_callV (M2 := M_X7_numberIn) (n := 2) (As := [.int (nI 0), .int (nI 6)]) (st := []) dX7_told_23 (c_X7_numberIn g D L (st_a (D.1 66) L a) (st_s (D.1 66) L a) now hb (nI 0) (nI 6) hL h300 (by omega) (by omega)) ca_X7_134 ⟨nm_X7_numberIn, by decide, by decide⟩ rfl (by decide) rfl rfl rfl (Nat.le_of_ble_eq_true rfl) (fun r247 E248 q249 => ?_)
    obtain ⟨rfl, rfl⟩ := q249
    show WP g _ _ _ (.int (sr_numR (D.1 66) L (st_n (D.1 66) L a)) :: _) (sr_T D (sr_numInF (D.1 66) L (st_n (D.1 66) L a) (nI 0) (nI 6)) (sr_numA (D.1 66) L (st_n (D.1 66) L a)) (st_n (D.1 66) L a) now) _
    refine wp_istore_n (lv' := [(0, .ref 63), (1, .int (st_w (D.1 66) L a)), (2, .int (sr_numR (D.1 66) L (st_n (D.1 66) L a)))]) dX7_told_26 rfl (by decide) rfl ?_
    refine wp_aload_n dX7_told_27 rfl rfl ?_
    refine wp_getI_n (n := sr_numInF (D.1 66) L (st_n (D.1 66) L a) (nI 0) (nI 6)) dX7_told_28 fl_X7_89 (by decide) rfl rfl (sr_T_5) ?_
    refine wp_if_eq_n (tgt := 35) dX7_told_31 (by decide) (by first | omega | (split <;> omega)) (fun c250 => ?_) (fun c250 => ?_)
    · have hz := c250
      rw [hz]
      show WP g _ _ _ _ (sr_T D 0 (sr_numA (D.1 66) L (st_n (D.1 66) L a)) (st_n (D.1 66) L a) now) _
      refine wp_aload_n dX7_told_35 rfl rfl ?_
      refine wp_getR (r := 64) dX7_told_36 fl_X7_7 (by decide) rfl rfl rfl ?_
      refine wp_iconst (v := nI 0) dX7_told_39 rfl ?_
      refine wp_iload_n dX7_told_40 rfl rfl ?_
      refine wp_iast dX7_told_41 (by decide) rfl (by decide) (by first | omega | (split <;> omega)) ?_
      rw [sr_T_s64]
      refine wp_aload_n dX7_told_42 rfl rfl ?_
      refine wp_getR (r := 64) dX7_told_43 fl_X7_7 (by decide) rfl rfl rfl ?_
      refine wp_iconst (v := nI 2) dX7_told_46 rfl ?_
      refine wp_iconst (v := nI 0) dX7_told_47 rfl ?_
      refine wp_iast dX7_told_48 (by decide) rfl (by decide) (by first | omega | (split <;> omega)) ?_
      rw [sr_T_s64]
      refine wp_goto (tgt := 123) dX7_told_49 (by decide) ?_
      refine wp_vret dX7_told_123 rfl ⟨rfl, 0, _, _, _, rfl, ?_, by omega, by omega, by omega, fun _ => ⟨?_, by omega, ?_⟩, fun h => absurd rfl h⟩
      · unfold sr_toldF; rw [if_pos hw1]; exact hz.symm
      · unfold sr_toldA; rw [if_pos hw1]
      · unfold sr_toldN; rw [if_pos hw1]
    · have hz := c250
      refine wp_vret dX7_told_34 rfl ⟨rfl, _, _, _, _, rfl, ?_, by omega, by omega, by omega, fun h => absurd h hz, fun _ => rfl⟩
      unfold sr_toldF; rw [if_pos hw1]
