theorem sr_numA_leL {b : Nat → Int32} {L s : Nat} (h : s ≤ L) : sr_numA b L s ≤ L ∧ s ≤ sr_numA b L s := by
  unfold sr_numA
  by_cases e : sr_isnum b L s = true
  · rw [if_pos e]; have := sr_numE_le e; have := sr_dfst_ge b L s; omega
  · rw [if_neg e]; omega
theorem sr_wend_leL {b : Nat → Int32} {L s : Nat} (h : s ≤ L) : sr_wend b L s ≤ L := sr_scan_le sr_letter b h
theorem sr_crewL_L {b : Nat → Int32} {L n other sc : Nat} : ∀ (k crew f a r : Nat), a ≤ L → r ≤ L → (sr_crewL b L n other sc k crew f a r).2.2.1 ≤ L ∧ (sr_crewL b L n other sc k crew f a r).2.2.2 ≤ L := by
  intro k
  induction k with
  | zero => intro crew f a r h1 h2; exact ⟨h1, h2⟩
  | succ k ih =>
    intro crew f a r h1 h2
    have hs := sr_skip_le b h1
    have hA := sr_numA_leL (b := b) hs
    unfold sr_crewL
    by_cases e : f = 0
    · rw [if_pos e]
      by_cases e2 : sr_isnum b L (sr_skip b L a) = true
      · rw [if_pos e2]; exact ih _ _ _ _ hA.1 hs
      · rw [if_neg e2]; exact ⟨hs, h2⟩
    · rw [if_neg e]; exact ⟨h1, h2⟩
theorem sr_crewT_L {b : Nat → Int32} {L n other sc a : Nat} (h300 : L ≤ 300) (hn : n ≤ 6) (ha : a ≤ L) : (sr_crewT b L n other sc a).1 < 2 ^ 6 ∧ (sr_crewT b L n other sc a).2.1 ≤ 2500 ∧ (sr_crewT b L n other sc a).2.2.1 ≤ L ∧ (sr_crewT b L n other sc a).2.2.2 ≤ L ∧ a ≤ (sr_crewT b L n other sc a).2.2.1 := by
  have h1 := sr_crewT_ok (b := b) (n := n) (other := other) (sc := sc) h300 hn (show a ≤ L + 1 by omega)
  have h2 := sr_crewL_L (b := b) (L := L) (n := n) (other := other) (sc := sc) (L + 2) (sr_rowC b L (sr_skip b L a) n 0 other sc) (sr_rowF b L (sr_skip b L a) n 0 other sc) (sr_numA b L (sr_skip b L a)) (sr_skip b L a) (sr_numA_leL (sr_skip_le b ha)).1 (sr_skip_le b ha)
  exact ⟨h1.1, h1.2.1, h2.1, h2.2, h1.2.2.2.2⟩
/-! a race told: places and parts, from a on -/
section RT
variable (b : Nat → Int32) (L n a : Nat)
def rt_c1 : Nat × Nat × Nat × Nat := sr_crewT b L n 0 0 a
def rt_s1 : Nat := sr_skip b L (rt_c1 b L n a).2.2.1
def rt_c2 : Nat × Nat × Nat × Nat := sr_crewT b L n (rt_c1 b L n a).1 1 (rt_s1 b L n a + 1)
def rt_s2 : Nat := sr_skip b L (rt_c2 b L n a).2.2.1
def rt_s3 : Nat := sr_skip b L (sr_wend b L (rt_s2 b L n a))
def rt_s4 : Nat := sr_skip b L (sr_numA b L (rt_s3 b L n a))
def rt_st : Bool := sr_isIn (sr_at1 b L (rt_s4 b L n a)) (nI 97) (nI 122)
/-- the fault of a race told, with rc races there, the word at r -/
def sr_raceF (rc r : Nat) : Nat :=
  if rc = 12 then 4 + 8 * r
  else if ¬ (rt_c1 b L n a).2.1 = 0 then (rt_c1 b L n a).2.1
  else if ¬ sr_at1 b L (rt_s1 b L n a) = nI 58 then 1 + 8 * rt_s1 b L n a
  else if ¬ (rt_c2 b L n a).2.1 = 0 then (rt_c2 b L n a).2.1
  else if ¬ sr_word b L (rt_s2 b L n a) = nI 89 then 1 + 8 * rt_s2 b L n a
  else if sr_bits (rt_c2 b L n a).1 < sr_bits (rt_c1 b L n a).1 then 4 + 8 * rt_s2 b L n a
  else if ¬ sr_numF b L (rt_s3 b L n a) = 0 then sr_numF b L (rt_s3 b L n a)
  else if rt_st b L n a = true ∧ ¬ sr_word b L (rt_s4 b L n a) = nI 688 ∧ ¬ sr_word b L (rt_s4 b L n a) = nI 147182 then 1 + 8 * rt_s4 b L n a
  else 0
def sr_raceS : Int32 := if rt_st b L n a = true then (if sr_word b L (rt_s4 b L n a) = nI 688 then nI 1 else -1) else nI 0
def sr_raceA : Nat := if rt_st b L n a = true then sr_wend b L (rt_s4 b L n a) else rt_s4 b L n a
/-- the races with it -/
def sr_raceN (now : Nat → Int32) (rc : Nat) : Nat → Int32 := sr_more now rc (nI (rt_c1 b L n a).1) (nI (rt_c2 b L n a).1) (sr_numR b L (rt_s3 b L n a)) (sr_raceS b L n a)
end RT
theorem sr_at1_lt {b : Nat → Int32} {L s n : Nat} (hn : n < 128) (h : sr_at1 b L s = nI n) : s < L := by
  unfold sr_at1 at h
  by_cases e : s < L
  · exact e
  · rw [if_neg e] at h
    have : ∀ n, n < 128 → ¬ (-1 : Int32) = nI n := by decide +kernel
    exact absurd h (this n hn)
theorem rt_c1_ok {b : Nat → Int32} {L n a : Nat} (h300 : L ≤ 300) (hn : n ≤ 6) (ha : a ≤ L) : (rt_c1 b L n a).1 < 2 ^ 6 ∧ (rt_c1 b L n a).2.1 ≤ 2500 ∧ (rt_c1 b L n a).2.2.1 ≤ L ∧ (rt_c1 b L n a).2.2.2 ≤ L ∧ a ≤ (rt_c1 b L n a).2.2.1 := sr_crewT_L h300 hn ha
theorem rt_s1_ok {b : Nat → Int32} {L n a : Nat} (h300 : L ≤ 300) (hn : n ≤ 6) (ha : a ≤ L) : rt_s1 b L n a ≤ L ∧ a ≤ rt_s1 b L n a := by
  have h := rt_c1_ok (b := b) h300 hn ha
  have := sr_skip_le b h.2.2.1
  have := sr_skip_ge b L (rt_c1 b L n a).2.2.1
  unfold rt_s1
  omega
theorem rt_c2_ok {b : Nat → Int32} {L n a : Nat} (h300 : L ≤ 300) (hn : n ≤ 6) (hs : rt_s1 b L n a < L) : (rt_c2 b L n a).1 < 2 ^ 6 ∧ (rt_c2 b L n a).2.1 ≤ 2500 ∧ (rt_c2 b L n a).2.2.1 ≤ L ∧ (rt_c2 b L n a).2.2.2 ≤ L ∧ rt_s1 b L n a + 1 ≤ (rt_c2 b L n a).2.2.1 := sr_crewT_L h300 hn hs
theorem rt_s4_ok {b : Nat → Int32} {L n a : Nat} (h300 : L ≤ 300) (hn : n ≤ 6) (hs : rt_s1 b L n a < L) : rt_s2 b L n a ≤ L ∧ sr_wend b L (rt_s2 b L n a) ≤ L ∧ rt_s3 b L n a ≤ L ∧ sr_numA b L (rt_s3 b L n a) ≤ L ∧ rt_s4 b L n a ≤ L ∧ sr_wend b L (rt_s4 b L n a) ≤ L ∧ sr_numF b L (rt_s3 b L n a) ≤ 2500 ∧ rt_s1 b L n a < rt_s4 b L n a := by
  have h := rt_c2_ok (b := b) h300 hn hs
  have h2 : rt_s2 b L n a ≤ L := sr_skip_le b h.2.2.1
  have h2g : (rt_c2 b L n a).2.2.1 ≤ rt_s2 b L n a := sr_skip_ge b L _
  have h3 := sr_wend_leL (b := b) h2
  have h3g := sr_wend_ge b L (rt_s2 b L n a)
  have h4 : rt_s3 b L n a ≤ L := sr_skip_le b h3
  have h4g : sr_wend b L (rt_s2 b L n a) ≤ rt_s3 b L n a := sr_skip_ge b L _
  have h5 := sr_numA_leL (b := b) h4
  have h6 : rt_s4 b L n a ≤ L := sr_skip_le b h5.1
  have h6g : sr_numA b L (rt_s3 b L n a) ≤ rt_s4 b L n a := sr_skip_ge b L _
  have h7 := sr_numF_le (b := b) (L := L) (s := rt_s3 b L n a) (by omega)
  exact ⟨h2, h3, h4, h5.1, h6, sr_wend_leL h6, h7, by omega⟩
def sr_raceP (g0 : sr_St) (b : Nat → Int32) (L n a rc r : Nat) (now : Nat → Int32) : Option Value → sr_St → Prop := fun q D' => q = none ∧ ∃ (F a' r' : Nat) (now' : Nat → Int32), D' = sr_T g0 F a' r' now' ∧ F = sr_raceF b L n a rc r ∧ F ≤ 2500 ∧ a' ≤ L + 1 ∧ r' ≤ L + 1 ∧ (F = 0 → a' = sr_raceA b L n a ∧ a' ≤ L ∧ now' = sr_raceN b L n a now rc) ∧ (¬ F = 0 → now' = now)
theorem sr_raceP_f {g0 : sr_St} {b : Nat → Int32} {L n a rc r : Nat} {now : Nat → Int32} {f a' r' : Nat} (h0 : ¬ f = 0) (hf : f = sr_raceF b L n a rc r) (hf2 : f ≤ 2500) (ha : a' ≤ L + 1) (hr : r' ≤ L + 1) : sr_raceP g0 b L n a rc r now none (sr_T g0 f a' r' now) := ⟨rfl, f, a', r', now, rfl, hf, hf2, ha, hr, fun h => absurd h h0, fun _ => rfl⟩
set_option maxHeartbeats 4000000 in
set_option maxRecDepth 100000 in
theorem c_X7_raceTold (g : sr_G) (D : sr_St) (L a r : Nat) (now : Nat → Int32) (n rc : Nat) (hn : now 0 = nI n) (hn6 : n ≤ 6) (hrc : now 2 = nI rc) (hrc12 : rc ≤ 12) (hb : sr_bytes (D.1 66)) (hL : D.1 63 7 = nI L) (h300 : L ≤ 300) (ha : a ≤ L) (hr : r ≤ L) : Con g M_X7_raceTold [.ref 63] (sr_T D 0 a r now) (sr_raceP D (D.1 66) L n a rc r now) := by
  refine Con.of pn_X7_raceTold (Nat.le_of_ble_eq_true rfl) ?_
  have hK : ∀ f a1 r1, ¬ f = 0 → f = sr_raceF (D.1 66) L n a rc r → f ≤ 2500 → a1 ≤ L + 1 → r1 ≤ L + 1 → WP g M_X7_raceTold 78 [(0, .ref 63)] [] (sr_T D f a1 r1 now) (sr_raceP D (D.1 66) L n a rc r now) ∧ WP g M_X7_raceTold 110 [(0, .ref 63)] [] (sr_T D f a1 r1 now) (sr_raceP D (D.1 66) L n a rc r now) ∧ WP g M_X7_raceTold 137 [(0, .ref 63)] [] (sr_T D f a1 r1 now) (sr_raceP D (D.1 66) L n a rc r now) ∧ WP g M_X7_raceTold 224 [(0, .ref 63)] [] (sr_T D f a1 r1 now) (sr_raceP D (D.1 66) L n a rc r now) := by
    intro f a1 r1 h0 hf hf2 ha1 hr1
    have k224 : WP g M_X7_raceTold 224 [(0, .ref 63)] [] (sr_T D f a1 r1 now) (sr_raceP D (D.1 66) L n a rc r now) := by
      refine wp_aload_n dX7_raceTold_224 rfl rfl ?_
      refine wp_getI_n (n := f) dX7_raceTold_225 fl_X7_89 (by decide) rfl rfl (sr_T_5) ?_
      refine wp_if_ne_n (tgt := 240) dX7_raceTold_228 (by decide) (by first | omega | (split <;> omega)) (fun c129 => ?_) (fun c129 => ?_)
      · exact wp_vret dX7_raceTold_240 rfl (sr_raceP_f h0 hf hf2 (by omega) (by omega))
      · exact absurd c129 h0
    have k137 : WP g M_X7_raceTold 137 [(0, .ref 63)] [] (sr_T D f a1 r1 now) (sr_raceP D (D.1 66) L n a rc r now) := by
      refine wp_aload_n dX7_raceTold_137 rfl rfl ?_
      refine wp_callV (M2 := M_X7_number) (n := 0) (As := []) (st := []) dX7_raceTold_138 (c_X7_number_f g D L f a1 r1 now hb h0 hL h300 (by omega) (by omega) (by omega)) ca_X7_110 ⟨nm_X7_number, by decide, by decide⟩ rfl (by decide) rfl rfl rfl (Nat.le_of_ble_eq_true rfl) (fun r130 E131 q132 => ?_)
      obtain ⟨rfl, rfl⟩ := q132
      show WP g _ _ _ (.int (nI 0) :: _) _ _
      refine wp_istore_n (lv' := [(0, .ref 63), (3, .int (nI 0))]) dX7_raceTold_141 rfl (by decide) rfl ?_
      refine wp_iconst (v := nI 0) dX7_raceTold_142 rfl ?_
      refine wp_istore (lv' := [(0, .ref 63), (3, .int (nI 0)), (4, .int (nI 0))]) dX7_raceTold_143 (by decide) rfl ?_
      refine wp_aload_n dX7_raceTold_145 rfl rfl ?_
      refine wp_getI_n (n := f) dX7_raceTold_146 fl_X7_89 (by decide) rfl rfl (sr_T_5) ?_
      refine wp_if_ne_n (tgt := 224) dX7_raceTold_149 (by decide) (by first | omega | (split <;> omega)) (fun c133 => ?_) (fun c133 => ?_)
      · exact wp_pick [0] rfl k224
      · exact absurd c133 h0
    have k110 : WP g M_X7_raceTold 110 [(0, .ref 63)] [] (sr_T D f a1 r1 now) (sr_raceP D (D.1 66) L n a rc r now) := by
      refine wp_aload_n dX7_raceTold_110 rfl rfl ?_
      refine wp_getI_n (n := f) dX7_raceTold_111 fl_X7_89 (by decide) rfl rfl (sr_T_5) ?_
      refine wp_if_ne_n (tgt := 137) dX7_raceTold_114 (by decide) (by first | omega | (split <;> omega)) (fun c134 => ?_) (fun c134 => ?_)
      · exact k137
      · exact absurd c134 h0
    have k78 : WP g M_X7_raceTold 78 [(0, .ref 63)] [] (sr_T D f a1 r1 now) (sr_raceP D (D.1 66) L n a rc r now) := by
      refine wp_aload_n dX7_raceTold_78 rfl rfl ?_
      refine wp_getI_n (n := f) dX7_raceTold_79 fl_X7_89 (by decide) rfl rfl (sr_T_5) ?_
      refine wp_if_ne_n (tgt := 110) dX7_raceTold_82 (by decide) (by first | omega | (split <;> omega)) (fun c135 => ?_) (fun c135 => ?_)
      · exact k110
      · exact absurd c135 h0
    exact ⟨k78, k110, k137, k224⟩
  have hK50 : ∀ f a1 r1, ¬ f = 0 → f = sr_raceF (D.1 66) L n a rc r → f ≤ 2500 → a1 ≤ L → r1 ≤ L + 1 → WP g M_X7_raceTold 50 [(0, .ref 63)] [] (sr_T D f a1 r1 now) (sr_raceP D (D.1 66) L n a rc r now) := by
    intro f a1 r1 h0 hf hf2 ha1 hr1
    refine wp_aload_n dX7_raceTold_50 rfl rfl ?_
    refine wp_dup dX7_raceTold_51 rfl ?_
    refine wp_getI_n (n := a1) dX7_raceTold_52 fl_X7_83 (by decide) rfl rfl (sr_T_8) ?_
    refine wp_iconst (v := nI 1) dX7_raceTold_55 rfl ?_
    refine wp_iadd_n dX7_raceTold_56 ?_
    refine wp_putI dX7_raceTold_57 fl_X7_83 (by decide) rfl rfl ?_
    rw [sr_T_s8]
    refine wp_aload_n dX7_raceTold_60 rfl rfl ?_
    refine wp_getI_n (n := f) dX7_raceTold_61 fl_X7_89 (by decide) rfl rfl (sr_T_5) ?_
    refine wp_if_ne_n (tgt := 76) dX7_raceTold_64 (by decide) (by first | omega | (split <;> omega)) (fun c136 => ?_) (fun c136 => ?_)
    · refine wp_iconst (v := nI 0) dX7_raceTold_76 rfl ?_
      refine wp_istore_n (lv' := [(0, .ref 63), (2, .int (nI 0))]) dX7_raceTold_77 rfl (by decide) rfl ?_
      exact wp_pick [0] rfl (hK f (a1 + 1) r1 h0 hf hf2 (by omega) hr1).1
    · exact absurd c136 h0
  have hc1 := rt_c1_ok (b := D.1 66) (L := L) (n := n) h300 hn6 ha
  have hs1 := rt_s1_ok (b := D.1 66) (L := L) (n := n) h300 hn6 ha
  have hRF : sr_raceF (D.1 66) L n a rc r = sr_raceF (D.1 66) L n a rc r := rfl
  conv at hRF => rhs; unfold sr_raceF
  refine wp_pick [0] rfl ?_
  show WP g M_X7_raceTold 0 [(0, .ref 63)] [] (sr_T D 0 a r now) _
  refine wp_aload_n dX7_raceTold_0 rfl rfl ?_
  refine wp_callV (M2 := M_X7_races) (n := 0) (As := []) (st := []) dX7_raceTold_1 (c_X7_races_n g (sr_T D 0 a r now) rc (sr_T_n hrc)) ca_X7_58 ⟨nm_X7_races, by decide, by decide⟩ rfl (by decide) rfl rfl rfl (Nat.le_of_ble_eq_true rfl) (fun r137 E138 q139 => ?_)
  obtain ⟨rfl, rfl⟩ := q139
  show WP g _ _ _ (.int (nI rc) :: _) _ _
  refine wp_bipush (v := nI 12) dX7_raceTold_4 rfl ?_
  refine wp_icmp_ne_n (tgt := 18) dX7_raceTold_6 (by decide) (by first | omega | (split <;> omega)) (by first | omega | (split <;> omega)) (fun c140 => ?_) (fun c140 => ?_)
  · have h12 := c140
    refine wp_aload_n dX7_raceTold_18 rfl rfl ?_
    refine wp_iconst (v := nI 0) dX7_raceTold_19 rfl ?_
    refine wp_iconst (v := nI 0) dX7_raceTold_20 rfl ?_
    refine wp_callV (M2 := M_X7_crewTold) (n := 2) (As := [.int (nI 0), .int (nI 0)]) (st := []) dX7_raceTold_21 (c_X7_crewTold g D L a r now n 0 0 hn hn6 (by decide) (by decide) hb hL h300 (by omega) (by omega)) ca_X7_123 ⟨nm_X7_crewTold, by decide, by decide⟩ rfl (by decide) rfl rfl rfl (Nat.le_of_ble_eq_true rfl) (fun r141 E142 q143 => ?_)
    obtain ⟨rfl, rfl⟩ := q143
    show WP g _ _ _ (.int (nI ((rt_c1 (D.1 66) L n a).1)) :: _) (sr_T D (rt_c1 (D.1 66) L n a).2.1 (rt_c1 (D.1 66) L n a).2.2.1 (rt_c1 (D.1 66) L n a).2.2.2 now) _
    refine wp_istore_n (lv' := [(0, .ref 63), (1, .int (nI ((rt_c1 (D.1 66) L n a).1)))]) dX7_raceTold_24 rfl (by decide) rfl ?_
    refine wp_aload_n dX7_raceTold_25 rfl rfl ?_
    refine wp_getI_n (n := (rt_c1 (D.1 66) L n a).2.1) dX7_raceTold_26 fl_X7_89 (by decide) rfl rfl (sr_T_5) ?_
    refine wp_if_ne_n (tgt := 50) dX7_raceTold_29 (by decide) (by first | omega | (split <;> omega)) (fun c144 => ?_) (fun c144 => ?_)
    · have hf1 := c144
      exact wp_pick [0] rfl (hK50 ((rt_c1 (D.1 66) L n a).2.1) ((rt_c1 (D.1 66) L n a).2.2.1) ((rt_c1 (D.1 66) L n a).2.2.2) (by omega) (by rw [hRF]; simp [h12, hf1]) (by omega) (by omega) (by omega))
    · have hf1 := c144
      rw [hf1]
      show WP g _ _ _ _ (sr_T D 0 ((rt_c1 (D.1 66) L n a).2.2.1) ((rt_c1 (D.1 66) L n a).2.2.2) now) _
      refine wp_aload_n dX7_raceTold_32 rfl rfl ?_
      refine wp_callV (M2 := M_X7_here) (n := 0) (As := []) (st := []) dX7_raceTold_33 (c_X7_here g D L 0 ((rt_c1 (D.1 66) L n a).2.2.1) ((rt_c1 (D.1 66) L n a).2.2.2) now hL h300 (by omega) (by omega) (by omega)) ca_X7_92 ⟨nm_X7_here, by decide, by decide⟩ rfl (by decide) rfl rfl rfl (Nat.le_of_ble_eq_true rfl) (fun r145 E146 q147 => ?_)
      obtain ⟨rfl, rfl⟩ := q147
      show WP g _ _ _ (.int (sr_at1 (D.1 66) L (rt_s1 (D.1 66) L n a)) :: _) (sr_T D 0 (rt_s1 (D.1 66) L n a) ((rt_c1 (D.1 66) L n a).2.2.2) now) _
      refine wp_bipush (v := nI 58) dX7_raceTold_36 rfl ?_
      refine wp_icmp_eq (tgt := 50) dX7_raceTold_38 (by decide) (fun c148 => ?_) (fun c148 => ?_)
      · have hco := c148
        have hlt := sr_at1_lt (by decide) hco
        have hc2 := rt_c2_ok (b := D.1 66) (L := L) (n := n) (a := a) h300 hn6 hlt
        have hs4 := rt_s4_ok (b := D.1 66) (L := L) (n := n) (a := a) h300 hn6 hlt
        skip
        refine wp_aload_n dX7_raceTold_50 rfl rfl ?_
        refine wp_dup dX7_raceTold_51 rfl ?_
        refine wp_getI_n (n := rt_s1 (D.1 66) L n a) dX7_raceTold_52 fl_X7_83 (by decide) rfl rfl (sr_T_8) ?_
        refine wp_iconst (v := nI 1) dX7_raceTold_55 rfl ?_
        refine wp_iadd_n dX7_raceTold_56 ?_
        refine wp_putI dX7_raceTold_57 fl_X7_83 (by decide) rfl rfl ?_
        rw [sr_T_s8]
        refine wp_aload_n dX7_raceTold_60 rfl rfl ?_
        refine wp_getI_n (n := 0) dX7_raceTold_61 fl_X7_89 (by decide) rfl rfl (sr_T_5) ?_
        refine wp_if_ne (tgt := 76) dX7_raceTold_64 (by decide) (fun c149 => absurd c149 (by decide)) (fun _ => ?_)
        refine wp_aload_n dX7_raceTold_67 rfl rfl ?_
        refine wp_iload_n dX7_raceTold_68 rfl rfl ?_
        refine wp_iconst (v := nI 1) dX7_raceTold_69 rfl ?_
        refine wp_callV (M2 := M_X7_crewTold) (n := 2) (As := [.int (nI ((rt_c1 (D.1 66) L n a).1)), .int (nI 1)]) (st := []) dX7_raceTold_70 (c_X7_crewTold g D L ((rt_s1 (D.1 66) L n a) + 1) ((rt_c1 (D.1 66) L n a).2.2.2) now n ((rt_c1 (D.1 66) L n a).1) 1 hn hn6 hc1.1 (by decide) hb hL h300 (by omega) (by omega)) ca_X7_123 ⟨nm_X7_crewTold, by decide, by decide⟩ rfl (by decide) rfl rfl rfl (Nat.le_of_ble_eq_true rfl) (fun r150 E151 q152 => ?_)
        obtain ⟨rfl, rfl⟩ := q152
        show WP g _ _ _ (.int (nI ((rt_c2 (D.1 66) L n a).1)) :: _) (sr_T D (rt_c2 (D.1 66) L n a).2.1 (rt_c2 (D.1 66) L n a).2.2.1 (rt_c2 (D.1 66) L n a).2.2.2 now) _
        refine wp_goto (tgt := 77) dX7_raceTold_73 (by decide) ?_
        refine wp_istore_n (lv' := [(0, .ref 63), (1, .int (nI ((rt_c1 (D.1 66) L n a).1))), (2, .int (nI ((rt_c2 (D.1 66) L n a).1)))]) dX7_raceTold_77 rfl (by decide) rfl ?_
        skip
        refine wp_aload_n dX7_raceTold_78 rfl rfl ?_
        refine wp_getI_n (n := (rt_c2 (D.1 66) L n a).2.1) dX7_raceTold_79 fl_X7_89 (by decide) rfl rfl (sr_T_5) ?_
        refine wp_if_ne_n (tgt := 110) dX7_raceTold_82 (by decide) (by first | omega | (split <;> omega)) (fun c153 => ?_) (fun c153 => ?_)
        · have hf2 := c153
          exact wp_pick [0] rfl ((hK ((rt_c2 (D.1 66) L n a).2.1) ((rt_c2 (D.1 66) L n a).2.2.1) ((rt_c2 (D.1 66) L n a).2.2.2) (by omega) (by rw [hRF]; simp [h12, hf1, hco, hf2]) (by omega) (by omega) (by omega)).2.1)
        · have hf2 := c153
          rw [hf2]
          show WP g _ _ _ _ (sr_T D 0 ((rt_c2 (D.1 66) L n a).2.2.1) ((rt_c2 (D.1 66) L n a).2.2.2) now) _
          refine wp_aload_n dX7_raceTold_85 rfl rfl ?_
          refine wp_callV (M2 := M_X7_word) (n := 0) (As := []) (st := []) dX7_raceTold_86 (c_X7_word g D L 0 ((rt_c2 (D.1 66) L n a).2.2.1) ((rt_c2 (D.1 66) L n a).2.2.2) now hL h300 (by omega) (by omega) (by omega)) ca_X7_127 ⟨nm_X7_word, by decide, by decide⟩ rfl (by decide) rfl rfl rfl (Nat.le_of_ble_eq_true rfl) (fun r154 E155 q156 => ?_)
          obtain ⟨rfl, rfl⟩ := q156
          show WP g _ _ _ (.int (sr_word (D.1 66) L (rt_s2 (D.1 66) L n a)) :: _) (sr_T D 0 (sr_wend (D.1 66) L (rt_s2 (D.1 66) L n a)) (rt_s2 (D.1 66) L n a) now) _
          refine wp_iconst (v := nI 0) dX7_raceTold_89 rfl ?_
          refine wp_iconst (v := nI 0) dX7_raceTold_90 rfl ?_
          refine wp_iconst (v := nI 0) dX7_raceTold_91 rfl ?_
          refine wp_iconst (v := nI 2) dX7_raceTold_92 rfl ?_
          refine wp_bipush (v := nI 25) dX7_raceTold_93 rfl ?_
          refine wp_callS (M2 := M_X7_letters) (n := 5) (As := [.int (nI 0), .int (nI 0), .int (nI 0), .int (nI 2), .int (nI 25)]) (st := [.int (sr_word (D.1 66) L (rt_s2 (D.1 66) L n a))]) dX7_raceTold_95 (c_X7_letters g (sr_T D 0 (sr_wend (D.1 66) L (rt_s2 (D.1 66) L n a)) (rt_s2 (D.1 66) L n a) now) 0 0 0 2 25) ca_X7_130 ⟨nm_X7_letters, by decide, by decide⟩ rfl rfl (Nat.le_of_ble_eq_true rfl) (fun r157 E158 q159 => ?_)
          obtain ⟨rfl, rfl⟩ := q159
          show WP g _ _ _ (.int (nI 89) :: _) _ _
          refine wp_icmp_eq (tgt := 110) dX7_raceTold_98 (by decide) (fun c160 => ?_) (fun c160 => ?_)
          · have hby := c160
            skip
            refine wp_aload_n dX7_raceTold_110 rfl rfl ?_
            refine wp_getI_n (n := 0) dX7_raceTold_111 fl_X7_89 (by decide) rfl rfl (sr_T_5) ?_
            refine wp_if_ne (tgt := 137) dX7_raceTold_114 (by decide) (fun c161 => absurd c161 (by decide)) (fun _ => ?_)
            refine wp_iload_n dX7_raceTold_117 rfl rfl ?_
            refine wp_callS (M2 := M_X7_bits) (n := 1) (As := [.int (nI ((rt_c2 (D.1 66) L n a).1))]) (st := []) dX7_raceTold_118 (c_X7_bits g (sr_T D 0 (sr_wend (D.1 66) L (rt_s2 (D.1 66) L n a)) (rt_s2 (D.1 66) L n a) now) ((rt_c2 (D.1 66) L n a).1) (by omega)) ca_X7_54 ⟨nm_X7_bits, by decide, by decide⟩ rfl rfl (Nat.le_of_ble_eq_true rfl) (fun r162 E163 q164 => ?_)
            obtain ⟨rfl, rfl⟩ := q164
            show WP g _ _ _ (.int (nI (sr_bits ((rt_c2 (D.1 66) L n a).1))) :: _) _ _
            refine wp_iload_n dX7_raceTold_121 rfl rfl ?_
            refine wp_callS (M2 := M_X7_bits) (n := 1) (As := [.int (nI ((rt_c1 (D.1 66) L n a).1))]) (st := [.int (nI (sr_bits ((rt_c2 (D.1 66) L n a).1)))]) dX7_raceTold_122 (c_X7_bits g (sr_T D 0 (sr_wend (D.1 66) L (rt_s2 (D.1 66) L n a)) (rt_s2 (D.1 66) L n a) now) ((rt_c1 (D.1 66) L n a).1) (by omega)) ca_X7_54 ⟨nm_X7_bits, by decide, by decide⟩ rfl rfl (Nat.le_of_ble_eq_true rfl) (fun r165 E166 q167 => ?_)
            obtain ⟨rfl, rfl⟩ := q167
            show WP g _ _ _ (.int (nI (sr_bits ((rt_c1 (D.1 66) L n a).1))) :: _) _ _
            refine wp_icmp_ge_n (tgt := 137) dX7_raceTold_125 (by decide) (by have := sr_bits_le (rt_c2 (D.1 66) L n a).1; omega) (by have := sr_bits_le (rt_c1 (D.1 66) L n a).1; omega) (fun c168 => ?_) (fun c168 => ?_)
            · have hbi := Nat.not_lt.mpr c168
              skip
              refine wp_aload_n dX7_raceTold_137 rfl rfl ?_
              refine wp_callV (M2 := M_X7_number) (n := 0) (As := []) (st := []) dX7_raceTold_138 (c_X7_number g D L (sr_wend (D.1 66) L (rt_s2 (D.1 66) L n a)) (rt_s2 (D.1 66) L n a) now hb hL h300 (by omega) (by omega)) ca_X7_110 ⟨nm_X7_number, by decide, by decide⟩ rfl (by decide) rfl rfl rfl (Nat.le_of_ble_eq_true rfl) (fun r169 E170 q171 => ?_)
              obtain ⟨rfl, rfl⟩ := q171
              show WP g _ _ _ (.int (sr_numR (D.1 66) L (rt_s3 (D.1 66) L n a)) :: _) (sr_T D (sr_numF (D.1 66) L (rt_s3 (D.1 66) L n a)) (sr_numA (D.1 66) L (rt_s3 (D.1 66) L n a)) (rt_s3 (D.1 66) L n a) now) _
              refine wp_istore_n (lv' := [(0, .ref 63), (1, .int (nI ((rt_c1 (D.1 66) L n a).1))), (2, .int (nI ((rt_c2 (D.1 66) L n a).1))), (3, .int (sr_numR (D.1 66) L (rt_s3 (D.1 66) L n a)))]) dX7_raceTold_141 rfl (by decide) rfl ?_
              refine wp_iconst (v := nI 0) dX7_raceTold_142 rfl ?_
              refine wp_istore (lv' := [(0, .ref 63), (1, .int (nI ((rt_c1 (D.1 66) L n a).1))), (2, .int (nI ((rt_c2 (D.1 66) L n a).1))), (3, .int (sr_numR (D.1 66) L (rt_s3 (D.1 66) L n a))), (4, .int (nI 0))]) dX7_raceTold_143 (by decide) rfl ?_
              refine wp_aload_n dX7_raceTold_145 rfl rfl ?_
              refine wp_getI_n (n := sr_numF (D.1 66) L (rt_s3 (D.1 66) L n a)) dX7_raceTold_146 fl_X7_89 (by decide) rfl rfl (sr_T_5) ?_
              refine wp_if_ne_n (tgt := 224) dX7_raceTold_149 (by decide) (by first | omega | (split <;> omega)) (fun c172 => ?_) (fun c172 => ?_)
              · have hf3 := c172
                exact wp_pick [0] rfl ((hK (sr_numF (D.1 66) L (rt_s3 (D.1 66) L n a)) (sr_numA (D.1 66) L (rt_s3 (D.1 66) L n a)) (rt_s3 (D.1 66) L n a) (by omega) (by rw [hRF]; simp [h12, hf1, hco, hf2, hby, hbi, hf3]) (by omega) (by omega) (by omega)).2.2.2)
              · have hf3 := c172
                rw [hf3]
                show WP g _ _ _ _ (sr_T D 0 (sr_numA (D.1 66) L (rt_s3 (D.1 66) L n a)) (rt_s3 (D.1 66) L n a) now) _
                refine wp_aload_n dX7_raceTold_152 rfl rfl ?_
                refine wp_callV (M2 := M_X7_here) (n := 0) (As := []) (st := []) dX7_raceTold_153 (c_X7_here g D L 0 (sr_numA (D.1 66) L (rt_s3 (D.1 66) L n a)) (rt_s3 (D.1 66) L n a) now hL h300 (by omega) (by omega) (by omega)) ca_X7_92 ⟨nm_X7_here, by decide, by decide⟩ rfl (by decide) rfl rfl rfl (Nat.le_of_ble_eq_true rfl) (fun r173 E174 q175 => ?_)
                obtain ⟨rfl, rfl⟩ := q175
                show WP g _ _ _ (.int (sr_at1 (D.1 66) L (rt_s4 (D.1 66) L n a)) :: _) (sr_T D 0 (rt_s4 (D.1 66) L n a) (rt_s3 (D.1 66) L n a) now) _
                refine wp_bipush (v := nI 97) dX7_raceTold_156 rfl ?_
                refine wp_bipush (v := nI 122) dX7_raceTold_158 rfl ?_
                refine wp_callS (M2 := M_X7_isIn) (n := 3) (As := [.int (sr_at1 (D.1 66) L (rt_s4 (D.1 66) L n a)), .int (nI 97), .int (nI 122)]) (st := []) dX7_raceTold_160 (c_X7_isIn g (sr_T D 0 (rt_s4 (D.1 66) L n a) (rt_s3 (D.1 66) L n a) now) (sr_at1 (D.1 66) L (rt_s4 (D.1 66) L n a)) (nI 97) (nI 122)) ca_X7_50 ⟨nm_X7_isIn, by decide, by decide⟩ rfl rfl (Nat.le_of_ble_eq_true rfl) (fun r176 E177 q178 => ?_)
                obtain ⟨rfl, rfl⟩ := q178
                show WP g _ _ _ (.int (sr_b (sr_isIn (sr_at1 (D.1 66) L (rt_s4 (D.1 66) L n a)) (nI 97) (nI 122))) :: _) _ _
                refine wp_if_eq_b (tgt := 224) dX7_raceTold_163 (by decide) (fun c179 => ?_) (fun c179 => ?_)
                · have hst : rt_st (D.1 66) L n a = false := c179
                  skip
                  refine wp_aload_n dX7_raceTold_224 rfl rfl ?_
                  refine wp_getI_n (n := 0) dX7_raceTold_225 fl_X7_89 (by decide) rfl rfl (sr_T_5) ?_
                  refine wp_if_ne (tgt := 240) dX7_raceTold_228 (by decide) (fun c180 => absurd c180 (by decide)) (fun _ => ?_)
                  refine wp_aload_n dX7_raceTold_231 rfl rfl ?_
                  refine wp_iload_n dX7_raceTold_232 rfl rfl ?_
                  refine wp_iload_n dX7_raceTold_233 rfl rfl ?_
                  refine wp_iload_n dX7_raceTold_234 rfl rfl ?_
                  refine wp_iload dX7_raceTold_235 rfl ?_
                  refine wp_callV (M2 := M_X7_more) (n := 4) (As := [.int (nI ((rt_c1 (D.1 66) L n a).1)), .int (nI ((rt_c2 (D.1 66) L n a).1)), .int (sr_numR (D.1 66) L (rt_s3 (D.1 66) L n a)), .int (nI 0)]) (st := []) dX7_raceTold_237 (c_X7_more g (sr_T D 0 (rt_s4 (D.1 66) L n a) (rt_s3 (D.1 66) L n a) now) rc (sr_T_n hrc) (by omega) (nI ((rt_c1 (D.1 66) L n a).1)) (nI ((rt_c2 (D.1 66) L n a).1)) (sr_numR (D.1 66) L (rt_s3 (D.1 66) L n a)) (nI 0)) ca_X7_65 ⟨nm_X7_more, by decide, by decide⟩ rfl (by decide) rfl rfl rfl (Nat.le_of_ble_eq_true rfl) (fun r181 E182 q183 => ?_)
                  rw [sr_T_64, sr_T_r64] at q183
                  obtain ⟨rfl, rfl⟩ := q183
                  show WP g _ _ _ _ (sr_T D 0 (rt_s4 (D.1 66) L n a) (rt_s3 (D.1 66) L n a) (sr_more now rc (nI ((rt_c1 (D.1 66) L n a).1)) (nI ((rt_c2 (D.1 66) L n a).1)) (sr_numR (D.1 66) L (rt_s3 (D.1 66) L n a)) (nI 0))) _
                  refine wp_vret dX7_raceTold_240 rfl ⟨rfl, 0, _, _, _, rfl, ?_, by omega, by omega, by omega, fun _ => ⟨?_, ?_, ?_⟩, fun h => absurd rfl h⟩
                  · rw [hRF]; simp [h12, hf1, hco, hf2, hby, hbi, hf3, hst]
                  · simp [sr_raceA, h12, hf1, hco, hf2, hby, hbi, hf3, hst]
                  · omega
                  · first | (simp only [sr_raceN, sr_raceS]; rw [if_pos hst, if_neg hup]; done) | simp [sr_raceN, sr_raceS, h12, hf1, hco, hf2, hby, hbi, hf3, hst]
                · have hst : rt_st (D.1 66) L n a = true := c179
                  refine wp_aload_n dX7_raceTold_166 rfl rfl ?_
                  refine wp_callV (M2 := M_X7_word) (n := 0) (As := []) (st := []) dX7_raceTold_167 (c_X7_word g D L 0 (rt_s4 (D.1 66) L n a) (rt_s3 (D.1 66) L n a) now hL h300 (by omega) (by omega) (by omega)) ca_X7_127 ⟨nm_X7_word, by decide, by decide⟩ rfl (by decide) rfl rfl rfl (Nat.le_of_ble_eq_true rfl) (fun r184 E185 q186 => ?_)
                  unfold rt_s4 at q186
                  rw [sr_skip_idem] at q186
                  obtain ⟨rfl, rfl⟩ := q186
                  show WP g _ _ _ (.int (sr_word (D.1 66) L (rt_s4 (D.1 66) L n a)) :: _) (sr_T D 0 (sr_wend (D.1 66) L (rt_s4 (D.1 66) L n a)) (rt_s4 (D.1 66) L n a) now) _
                  refine wp_istore (lv' := [(0, .ref 63), (1, .int (nI ((rt_c1 (D.1 66) L n a).1))), (2, .int (nI ((rt_c2 (D.1 66) L n a).1))), (3, .int (sr_numR (D.1 66) L (rt_s3 (D.1 66) L n a))), (4, .int (nI 0)), (5, .int (sr_word (D.1 66) L (rt_s4 (D.1 66) L n a)))]) dX7_raceTold_170 (by decide) rfl ?_
                  refine wp_iload dX7_raceTold_172 rfl ?_
                  refine wp_iconst (v := nI 0) dX7_raceTold_174 rfl ?_
                  refine wp_iconst (v := nI 0) dX7_raceTold_175 rfl ?_
                  refine wp_iconst (v := nI 0) dX7_raceTold_176 rfl ?_
                  refine wp_bipush (v := nI 21) dX7_raceTold_177 rfl ?_
                  refine wp_bipush (v := nI 16) dX7_raceTold_179 rfl ?_
                  refine wp_callS (M2 := M_X7_letters) (n := 5) (As := [.int (nI 0), .int (nI 0), .int (nI 0), .int (nI 21), .int (nI 16)]) (st := [.int (sr_word (D.1 66) L (rt_s4 (D.1 66) L n a))]) dX7_raceTold_181 (c_X7_letters g (sr_T D 0 (sr_wend (D.1 66) L (rt_s4 (D.1 66) L n a)) (rt_s4 (D.1 66) L n a) now) 0 0 0 21 16) ca_X7_130 ⟨nm_X7_letters, by decide, by decide⟩ rfl rfl (Nat.le_of_ble_eq_true rfl) (fun r187 E188 q189 => ?_)
                  obtain ⟨rfl, rfl⟩ := q189
                  show WP g _ _ _ (.int (nI 688) :: _) _ _
                  refine wp_icmp_ne (tgt := 193) dX7_raceTold_184 (by decide) (fun c190 => ?_) (fun c190 => ?_)
                  · have hup := c190
                    refine wp_iload dX7_raceTold_193 rfl ?_
                    refine wp_iconst (v := nI 0) dX7_raceTold_195 rfl ?_
                    refine wp_iconst (v := nI 4) dX7_raceTold_196 rfl ?_
                    refine wp_bipush (v := nI 15) dX7_raceTold_197 rfl ?_
                    refine wp_bipush (v := nI 23) dX7_raceTold_199 rfl ?_
                    refine wp_bipush (v := nI 14) dX7_raceTold_201 rfl ?_
                    refine wp_callS (M2 := M_X7_letters) (n := 5) (As := [.int (nI 0), .int (nI 4), .int (nI 15), .int (nI 23), .int (nI 14)]) (st := [.int (sr_word (D.1 66) L (rt_s4 (D.1 66) L n a))]) dX7_raceTold_203 (c_X7_letters g (sr_T D 0 (sr_wend (D.1 66) L (rt_s4 (D.1 66) L n a)) (rt_s4 (D.1 66) L n a) now) 0 4 15 23 14) ca_X7_130 ⟨nm_X7_letters, by decide, by decide⟩ rfl rfl (Nat.le_of_ble_eq_true rfl) (fun r191 E192 q193 => ?_)
                    obtain ⟨rfl, rfl⟩ := q193
                    show WP g _ _ _ (.int (nI 147182) :: _) _ _
                    refine wp_icmp_ne (tgt := 215) dX7_raceTold_206 (by decide) (fun c194 => ?_) (fun c194 => ?_)
                    · have hdn := c194
                      refine wp_aload_n dX7_raceTold_215 rfl rfl ?_
                      refine wp_iconst (v := nI 1) dX7_raceTold_216 rfl ?_
                      refine wp_aload_n dX7_raceTold_217 rfl rfl ?_
                      refine wp_getI_n (n := rt_s4 (D.1 66) L n a) dX7_raceTold_218 fl_X7_103 (by decide) rfl rfl (sr_T_9) ?_
                      refine wp_callV (M2 := M_X7_fails) (n := 2) (As := [.int (nI 1), .int (nI (rt_s4 (D.1 66) L n a))]) (st := []) dX7_raceTold_221 (c_X7_fails g D L 0 (sr_wend (D.1 66) L (rt_s4 (D.1 66) L n a)) (rt_s4 (D.1 66) L n a) now 1 (rt_s4 (D.1 66) L n a) (by omega) (by omega) hL h300 (by omega) (by omega) (by omega)) ca_X7_106 ⟨nm_X7_fails, by decide, by decide⟩ rfl (by decide) rfl rfl rfl (Nat.le_of_ble_eq_true rfl) (fun r195 E196 q197 => ?_)
                      rw [if_pos rfl] at q197
                      obtain ⟨rfl, rfl⟩ := q197
                      show WP g _ _ _ _ (sr_T D (1 + 8 * (rt_s4 (D.1 66) L n a)) (sr_wend (D.1 66) L (rt_s4 (D.1 66) L n a)) (rt_s4 (D.1 66) L n a) now) _
                      exact wp_pick [0] rfl ((hK (1 + 8 * (rt_s4 (D.1 66) L n a)) (sr_wend (D.1 66) L (rt_s4 (D.1 66) L n a)) (rt_s4 (D.1 66) L n a) (by omega) (by rw [hRF]; simp [h12, hf1, hco, hf2, hby, hbi, hf3, hst, hst, hup, hdn]) (by omega) (by omega) (by omega)).2.2.2)
                    · have hdn := c194
                      refine wp_iconst (v := -1) dX7_raceTold_209 rfl ?_
                      refine wp_istore (lv' := [(0, .ref 63), (1, .int (nI ((rt_c1 (D.1 66) L n a).1))), (2, .int (nI ((rt_c2 (D.1 66) L n a).1))), (3, .int (sr_numR (D.1 66) L (rt_s3 (D.1 66) L n a))), (4, .int ((-1))), (5, .int (sr_word (D.1 66) L (rt_s4 (D.1 66) L n a)))]) dX7_raceTold_210 (by decide) rfl ?_
                      refine wp_goto (tgt := 224) dX7_raceTold_212 (by decide) ?_
                      skip
                      refine wp_aload_n dX7_raceTold_224 rfl rfl ?_
                      refine wp_getI_n (n := 0) dX7_raceTold_225 fl_X7_89 (by decide) rfl rfl (sr_T_5) ?_
                      refine wp_if_ne (tgt := 240) dX7_raceTold_228 (by decide) (fun c198 => absurd c198 (by decide)) (fun _ => ?_)
                      refine wp_aload_n dX7_raceTold_231 rfl rfl ?_
                      refine wp_iload_n dX7_raceTold_232 rfl rfl ?_
                      refine wp_iload_n dX7_raceTold_233 rfl rfl ?_
                      refine wp_iload_n dX7_raceTold_234 rfl rfl ?_
                      refine wp_iload dX7_raceTold_235 rfl ?_
                      refine wp_callV (M2 := M_X7_more) (n := 4) (As := [.int (nI ((rt_c1 (D.1 66) L n a).1)), .int (nI ((rt_c2 (D.1 66) L n a).1)), .int (sr_numR (D.1 66) L (rt_s3 (D.1 66) L n a)), .int ((-1))]) (st := []) dX7_raceTold_237 (c_X7_more g (sr_T D 0 (sr_wend (D.1 66) L (rt_s4 (D.1 66) L n a)) (rt_s4 (D.1 66) L n a) now) rc (sr_T_n hrc) (by omega) (nI ((rt_c1 (D.1 66) L n a).1)) (nI ((rt_c2 (D.1 66) L n a).1)) (sr_numR (D.1 66) L (rt_s3 (D.1 66) L n a)) ((-1))) ca_X7_65 ⟨nm_X7_more, by decide, by decide⟩ rfl (by decide) rfl rfl rfl (Nat.le_of_ble_eq_true rfl) (fun r199 E200 q201 => ?_)
                      rw [sr_T_64, sr_T_r64] at q201
                      obtain ⟨rfl, rfl⟩ := q201
                      show WP g _ _ _ _ (sr_T D 0 (sr_wend (D.1 66) L (rt_s4 (D.1 66) L n a)) (rt_s4 (D.1 66) L n a) (sr_more now rc (nI ((rt_c1 (D.1 66) L n a).1)) (nI ((rt_c2 (D.1 66) L n a).1)) (sr_numR (D.1 66) L (rt_s3 (D.1 66) L n a)) ((-1)))) _
                      refine wp_vret dX7_raceTold_240 rfl ⟨rfl, 0, _, _, _, rfl, ?_, by omega, by omega, by omega, fun _ => ⟨?_, ?_, ?_⟩, fun h => absurd rfl h⟩
                      · rw [hRF]; simp [h12, hf1, hco, hf2, hby, hbi, hf3, hst, hst, hup, hdn]
                      · simp [sr_raceA, h12, hf1, hco, hf2, hby, hbi, hf3, hst, hst, hup, hdn]
                      · omega
                      · first | (simp only [sr_raceN, sr_raceS]; rw [if_pos hst, if_neg hup]; done) | simp [sr_raceN, sr_raceS, h12, hf1, hco, hf2, hby, hbi, hf3, hst, hst, hup, hdn]
                  · have hup := c190
                    refine wp_iconst (v := nI 1) dX7_raceTold_187 rfl ?_
                    refine wp_istore (lv' := [(0, .ref 63), (1, .int (nI ((rt_c1 (D.1 66) L n a).1))), (2, .int (nI ((rt_c2 (D.1 66) L n a).1))), (3, .int (sr_numR (D.1 66) L (rt_s3 (D.1 66) L n a))), (4, .int (nI 1)), (5, .int (sr_word (D.1 66) L (rt_s4 (D.1 66) L n a)))]) dX7_raceTold_188 (by decide) rfl ?_
                    refine wp_goto (tgt := 224) dX7_raceTold_190 (by decide) ?_
                    skip
                    refine wp_aload_n dX7_raceTold_224 rfl rfl ?_
                    refine wp_getI_n (n := 0) dX7_raceTold_225 fl_X7_89 (by decide) rfl rfl (sr_T_5) ?_
                    refine wp_if_ne (tgt := 240) dX7_raceTold_228 (by decide) (fun c202 => absurd c202 (by decide)) (fun _ => ?_)
                    refine wp_aload_n dX7_raceTold_231 rfl rfl ?_
                    refine wp_iload_n dX7_raceTold_232 rfl rfl ?_
                    refine wp_iload_n dX7_raceTold_233 rfl rfl ?_
                    refine wp_iload_n dX7_raceTold_234 rfl rfl ?_
                    refine wp_iload dX7_raceTold_235 rfl ?_
                    refine wp_callV (M2 := M_X7_more) (n := 4) (As := [.int (nI ((rt_c1 (D.1 66) L n a).1)), .int (nI ((rt_c2 (D.1 66) L n a).1)), .int (sr_numR (D.1 66) L (rt_s3 (D.1 66) L n a)), .int (nI 1)]) (st := []) dX7_raceTold_237 (c_X7_more g (sr_T D 0 (sr_wend (D.1 66) L (rt_s4 (D.1 66) L n a)) (rt_s4 (D.1 66) L n a) now) rc (sr_T_n hrc) (by omega) (nI ((rt_c1 (D.1 66) L n a).1)) (nI ((rt_c2 (D.1 66) L n a).1)) (sr_numR (D.1 66) L (rt_s3 (D.1 66) L n a)) (nI 1)) ca_X7_65 ⟨nm_X7_more, by decide, by decide⟩ rfl (by decide) rfl rfl rfl (Nat.le_of_ble_eq_true rfl) (fun r203 E204 q205 => ?_)
                    rw [sr_T_64, sr_T_r64] at q205
                    obtain ⟨rfl, rfl⟩ := q205
                    show WP g _ _ _ _ (sr_T D 0 (sr_wend (D.1 66) L (rt_s4 (D.1 66) L n a)) (rt_s4 (D.1 66) L n a) (sr_more now rc (nI ((rt_c1 (D.1 66) L n a).1)) (nI ((rt_c2 (D.1 66) L n a).1)) (sr_numR (D.1 66) L (rt_s3 (D.1 66) L n a)) (nI 1))) _
                    refine wp_vret dX7_raceTold_240 rfl ⟨rfl, 0, _, _, _, rfl, ?_, by omega, by omega, by omega, fun _ => ⟨?_, ?_, ?_⟩, fun h => absurd rfl h⟩
                    · rw [hRF]; simp [h12, hf1, hco, hf2, hby, hbi, hf3, hst, hst, hup]
                    · simp [sr_raceA, h12, hf1, hco, hf2, hby, hbi, hf3, hst, hst, hup]
                    · omega
                    · first | (simp only [sr_raceN, sr_raceS]; rw [if_pos hst, if_neg hup]; done) | simp [sr_raceN, sr_raceS, h12, hf1, hco, hf2, hby, hbi, hf3, hst, hst, hup]
            · have hbi := c168
              refine wp_aload_n dX7_raceTold_128 rfl rfl ?_
              refine wp_iconst (v := nI 4) dX7_raceTold_129 rfl ?_
              refine wp_aload_n dX7_raceTold_130 rfl rfl ?_
              refine wp_getI_n (n := rt_s2 (D.1 66) L n a) dX7_raceTold_131 fl_X7_103 (by decide) rfl rfl (sr_T_9) ?_
              refine wp_callV (M2 := M_X7_fails) (n := 2) (As := [.int (nI 4), .int (nI (rt_s2 (D.1 66) L n a))]) (st := []) dX7_raceTold_134 (c_X7_fails g D L 0 (sr_wend (D.1 66) L (rt_s2 (D.1 66) L n a)) (rt_s2 (D.1 66) L n a) now 4 (rt_s2 (D.1 66) L n a) (by omega) (by omega) hL h300 (by omega) (by omega) (by omega)) ca_X7_106 ⟨nm_X7_fails, by decide, by decide⟩ rfl (by decide) rfl rfl rfl (Nat.le_of_ble_eq_true rfl) (fun r206 E207 q208 => ?_)
              rw [if_pos rfl] at q208
              obtain ⟨rfl, rfl⟩ := q208
              show WP g _ _ _ _ (sr_T D (4 + 8 * (rt_s2 (D.1 66) L n a)) (sr_wend (D.1 66) L (rt_s2 (D.1 66) L n a)) (rt_s2 (D.1 66) L n a) now) _
              exact wp_pick [0] rfl ((hK (4 + 8 * (rt_s2 (D.1 66) L n a)) (sr_wend (D.1 66) L (rt_s2 (D.1 66) L n a)) (rt_s2 (D.1 66) L n a) (by omega) (by rw [hRF]; simp [h12, hf1, hco, hf2, hby, hbi]) (by omega) (by omega) (by omega)).2.2.1)
          · have hby := c160
            refine wp_aload_n dX7_raceTold_101 rfl rfl ?_
            refine wp_iconst (v := nI 1) dX7_raceTold_102 rfl ?_
            refine wp_aload_n dX7_raceTold_103 rfl rfl ?_
            refine wp_getI_n (n := rt_s2 (D.1 66) L n a) dX7_raceTold_104 fl_X7_103 (by decide) rfl rfl (sr_T_9) ?_
            refine wp_callV (M2 := M_X7_fails) (n := 2) (As := [.int (nI 1), .int (nI (rt_s2 (D.1 66) L n a))]) (st := []) dX7_raceTold_107 (c_X7_fails g D L 0 (sr_wend (D.1 66) L (rt_s2 (D.1 66) L n a)) (rt_s2 (D.1 66) L n a) now 1 (rt_s2 (D.1 66) L n a) (by omega) (by omega) hL h300 (by omega) (by omega) (by omega)) ca_X7_106 ⟨nm_X7_fails, by decide, by decide⟩ rfl (by decide) rfl rfl rfl (Nat.le_of_ble_eq_true rfl) (fun r209 E210 q211 => ?_)
            rw [if_pos rfl] at q211
            obtain ⟨rfl, rfl⟩ := q211
            show WP g _ _ _ _ (sr_T D (1 + 8 * (rt_s2 (D.1 66) L n a)) (sr_wend (D.1 66) L (rt_s2 (D.1 66) L n a)) (rt_s2 (D.1 66) L n a) now) _
            exact wp_pick [0] rfl ((hK (1 + 8 * (rt_s2 (D.1 66) L n a)) (sr_wend (D.1 66) L (rt_s2 (D.1 66) L n a)) (rt_s2 (D.1 66) L n a) (by omega) (by rw [hRF]; simp [h12, hf1, hco, hf2, hby]) (by omega) (by omega) (by omega)).2.1)
      · have hco := c148
        refine wp_aload_n dX7_raceTold_41 rfl rfl ?_
        refine wp_iconst (v := nI 1) dX7_raceTold_42 rfl ?_
        refine wp_aload_n dX7_raceTold_43 rfl rfl ?_
        refine wp_getI_n (n := rt_s1 (D.1 66) L n a) dX7_raceTold_44 fl_X7_83 (by decide) rfl rfl (sr_T_8) ?_
        refine wp_callV (M2 := M_X7_fails) (n := 2) (As := [.int (nI 1), .int (nI (rt_s1 (D.1 66) L n a))]) (st := []) dX7_raceTold_47 (c_X7_fails g D L 0 (rt_s1 (D.1 66) L n a) ((rt_c1 (D.1 66) L n a).2.2.2) now 1 (rt_s1 (D.1 66) L n a) (by omega) (by omega) hL h300 (by omega) (by omega) (by omega)) ca_X7_106 ⟨nm_X7_fails, by decide, by decide⟩ rfl (by decide) rfl rfl rfl (Nat.le_of_ble_eq_true rfl) (fun r212 E213 q214 => ?_)
        rw [if_pos rfl] at q214
        obtain ⟨rfl, rfl⟩ := q214
        show WP g _ _ _ _ (sr_T D (1 + 8 * (rt_s1 (D.1 66) L n a)) (rt_s1 (D.1 66) L n a) ((rt_c1 (D.1 66) L n a).2.2.2) now) _
        exact wp_pick [0] rfl (hK50 (1 + 8 * (rt_s1 (D.1 66) L n a)) (rt_s1 (D.1 66) L n a) ((rt_c1 (D.1 66) L n a).2.2.2) (by omega) (by rw [hRF]; simp [h12, hf1, hco]) (by omega) (by omega) (by omega))
  · have h12 := c140
    refine wp_aload_n dX7_raceTold_9 rfl rfl ?_
    refine wp_iconst (v := nI 4) dX7_raceTold_10 rfl ?_
    refine wp_aload_n dX7_raceTold_11 rfl rfl ?_
    refine wp_getI_n (n := r) dX7_raceTold_12 fl_X7_103 (by decide) rfl rfl (sr_T_9) ?_
    refine wp_callV (M2 := M_X7_fails) (n := 2) (As := [.int (nI 4), .int (nI r)]) (st := []) dX7_raceTold_15 (c_X7_fails g D L 0 a r now 4 r (by omega) (by omega) hL h300 (by omega) (by omega) (by omega)) ca_X7_106 ⟨nm_X7_fails, by decide, by decide⟩ rfl (by decide) rfl rfl rfl (Nat.le_of_ble_eq_true rfl) (fun r215 E216 q217 => ?_)
    rw [if_pos rfl] at q217
    obtain ⟨rfl, rfl⟩ := q217
    show WP g _ _ _ _ (sr_T D (4 + 8 * r) a r now) _
    refine wp_aload_n dX7_raceTold_18 rfl rfl ?_
    refine wp_iconst (v := nI 0) dX7_raceTold_19 rfl ?_
    refine wp_iconst (v := nI 0) dX7_raceTold_20 rfl ?_
    refine wp_callV (M2 := M_X7_crewTold) (n := 2) (As := [.int (nI 0), .int (nI 0)]) (st := []) dX7_raceTold_21 (c_X7_crewTold_f g D L (4 + 8 * r) a r now n 0 0 hn hn6 (by decide) (by decide) hb (by omega) hL h300 (by omega) (by omega) (by omega)) ca_X7_123 ⟨nm_X7_crewTold, by decide, by decide⟩ rfl (by decide) rfl rfl rfl (Nat.le_of_ble_eq_true rfl) (fun r218 E219 q220 => ?_)
    obtain ⟨rfl, rfl⟩ := q220
    show WP g _ _ _ (.int (nI 0) :: _) _ _
    refine wp_istore_n (lv' := [(0, .ref 63), (1, .int (nI 0))]) dX7_raceTold_24 rfl (by decide) rfl ?_
    refine wp_aload_n dX7_raceTold_25 rfl rfl ?_
    refine wp_getI_n (n := 4 + 8 * r) dX7_raceTold_26 fl_X7_89 (by decide) rfl rfl (sr_T_5) ?_
    refine wp_if_ne_n (tgt := 50) dX7_raceTold_29 (by decide) (by first | omega | (split <;> omega)) (fun c221 => ?_) (fun c221 => ?_)
    · have hf1 := c221
      exact wp_pick [0] rfl (hK50 (4 + 8 * r) a r (by omega) (by rw [hRF]; simp [h12, hf1]) (by omega) (by omega) (by omega))
    · exact absurd c221 (by omega)
