theorem sr_skip_ge (b : Nat → Int32) (L a : Nat) : a ≤ sr_skip b L a := sr_scan_ge sr_blank b L a
theorem sr_skip_le (b : Nat → Int32) {L a : Nat} (h : a ≤ L) : sr_skip b L a ≤ L := sr_scan_le sr_blank b h
theorem sr_skip_le1 (b : Nat → Int32) {L a : Nat} (h : a ≤ L + 1) : sr_skip b L a ≤ L + 1 := by
  by_cases h1 : a ≤ L
  · have := sr_skip_le b h1; omega
  · have : sr_skip b L a = a := sr_scan_f (by omega)
    omega
/-- bytes are bytes -/
def sr_bytes (b : Nat → Int32) : Prop := ∀ k, (b k).toInt8.toInt32 = b k
theorem sr_at1_eq {b : Nat → Int32} (hb : sr_bytes b) {L a n : Nat} (hn : n < 128) : sr_at1 b L a = nI n ↔ a < L ∧ b a = nI n := by
  have h8 : (nI n).toInt8.toInt32 = nI n := by
    have : ∀ n, n < 128 → (nI n).toInt8.toInt32 = nI n := by decide +kernel
    exact this n hn
  unfold sr_at1
  by_cases h : a < L
  · rw [if_pos h]
    have e := sc_eq (hb a) (n := n) (by omega)
    rw [h8] at e
    exact ⟨fun q => ⟨h, e.mpr q⟩, fun q => e.mp q.2⟩
  · rw [if_neg h]
    constructor
    · intro q
      exfalso
      have : ∀ n, n < 128 → ¬ (-1 : Int32) = nI n := by decide +kernel
      exact this n hn q
    · intro q; exact absurd q.1 h
/-- where the digits of a number would begin, the token beginning at s -/
def sr_dfst (b : Nat → Int32) (L s : Nat) : Nat := if s < L ∧ b s = nI 45 then s + 1 else s
/-- does a number begin at s -/
def sr_isnum (b : Nat → Int32) (L s : Nat) : Bool := sr_dig b L (sr_dfst b L s)
set_option maxHeartbeats 4000000 in
set_option maxRecDepth 100000 in
theorem c_X7_isNumber (g : sr_G) (D : sr_St) (L f a r : Nat) (now : Nat → Int32) (hb : sr_bytes (D.1 66)) (hL : D.1 63 7 = nI L) (h300 : L ≤ 300) (ha : a ≤ L + 1) (hf : f ≤ 8000) (hr : r ≤ 400)  : Con g M_X7_isNumber [.ref 63] (sr_T D f a r now) (sr_ret (some (.int (sr_b (sr_isnum (D.1 66) L (sr_skip (D.1 66) L a))))) (sr_T D f (sr_skip (D.1 66) L a) r now)) := by
  refine Con.of pn_X7_isNumber (Nat.le_of_ble_eq_true rfl) ?_
  show WP g M_X7_isNumber 0 [(0, .ref 63)] [] (sr_T D f a r now) _
  have hs1 := sr_skip_ge (D.1 66) L a
  have hs2 := sr_skip_le1 (D.1 66) ha
  generalize hsk : sr_skip (D.1 66) L a = s at *
  refine wp_aload_n dX7_isNumber_0 rfl rfl ?_
  refine wp_callV (M2 := M_X7_here) (n := 0) (As := []) (st := []) dX7_isNumber_1 (c_X7_here g D L f a r now hL h300 (by omega) (by omega) (by omega)) ca_X7_92 ⟨nm_X7_here, by decide, by decide⟩ rfl (by decide) rfl rfl rfl (Nat.le_of_ble_eq_true rfl) (fun r14 E15 q16 => ?_)
  rw [hsk] at q16
  obtain ⟨rfl, rfl⟩ := q16
  show WP g _ _ _ (.int (sr_at1 (D.1 66) L s) :: _) _ _
  refine wp_topi (fun x17 ex17 => ?_)
  refine wp_istore_n (lv' := [(0, .ref 63), (1, .int x17)]) dX7_isNumber_4 rfl (by decide) rfl ?_
  refine wp_aload_n dX7_isNumber_5 rfl rfl ?_
  refine wp_iload_n dX7_isNumber_6 rfl rfl ?_
  refine wp_bipush (v := nI 45) dX7_isNumber_7 rfl ?_
  refine wp_icmp_ne (tgt := 21) dX7_isNumber_9 (by decide) (fun c18 => ?_) (fun c18 => ?_)
  · have hd : sr_dfst (D.1 66) L s = s := if_neg (fun q => c18 (by rw [ex17]; exact (sr_at1_eq hb (by decide)).mpr q))
    refine wp_aload_n dX7_isNumber_21 rfl rfl ?_
    refine wp_getI_n (n := s) dX7_isNumber_22 fl_X7_83 (by decide) rfl rfl (sr_T_8) ?_
    refine wp_callV (M2 := M_X7_isDigitAt) (n := 1) (As := [.int (nI s)]) (st := []) dX7_isNumber_25 (c_X7_isDigitAt g D L f s r now s (by omega) hL h300 (by omega) (by omega) (by omega)) ca_X7_95 ⟨nm_X7_isDigitAt, by decide, by decide⟩ rfl (by decide) rfl rfl rfl (Nat.le_of_ble_eq_true rfl) (fun r19 E20 q21 => ?_)
    obtain ⟨rfl, rfl⟩ := q21
    show WP g _ _ _ (.int (sr_b (sr_dig (D.1 66) L s)) :: _) _ _
    refine wp_zret dX7_isNumber_28 rfl (sr_b01 _) ⟨?_, rfl⟩
    unfold sr_isnum
    rw [hd]
  · have hd : sr_dfst (D.1 66) L s = s + 1 := if_pos ((sr_at1_eq hb (by decide)).mp (by rw [← ex17]; exact c18))
    refine wp_aload_n dX7_isNumber_12 rfl rfl ?_
    refine wp_getI_n (n := s) dX7_isNumber_13 fl_X7_83 (by decide) rfl rfl (sr_T_8) ?_
    refine wp_iconst (v := nI 1) dX7_isNumber_16 rfl ?_
    refine wp_iadd_n dX7_isNumber_17 ?_
    refine wp_goto (tgt := 25) dX7_isNumber_18 (by decide) ?_
    refine wp_callV (M2 := M_X7_isDigitAt) (n := 1) (As := [.int (nI (s + 1))]) (st := []) dX7_isNumber_25 (c_X7_isDigitAt g D L f s r now (s + 1) (by omega) hL h300 (by omega) (by omega) (by omega)) ca_X7_95 ⟨nm_X7_isDigitAt, by decide, by decide⟩ rfl (by decide) rfl rfl rfl (Nat.le_of_ble_eq_true rfl) (fun r22 E23 q24 => ?_)
    obtain ⟨rfl, rfl⟩ := q24
    show WP g _ _ _ (.int (sr_b (sr_dig (D.1 66) L (s + 1))) :: _) _ _
    refine wp_zret dX7_isNumber_28 rfl (sr_b01 _) ⟨?_, rfl⟩
    unfold sr_isnum
    rw [hd]
