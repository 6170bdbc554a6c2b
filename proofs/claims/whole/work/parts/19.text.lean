theorem sr_scan_stop {q : Int32 → Bool} {b : Nat → Int32} {L : Nat} : ∀ (k a : Nat), L - a ≤ k → ¬ (sr_scan q b L a < L ∧ q (b (sr_scan q b L a)) = true) := by
  intro k
  induction k with
  | zero =>
    intro a h
    have : sr_scan q b L a = a := sr_scan_f (by omega)
    rw [this]; omega
  | succ k ih =>
    intro a h
    by_cases e : a < L ∧ q (b a) = true
    · rw [sr_scan_t e.1 e.2]; exact ih (a + 1) (by omega)
    · rw [sr_scan_f e]; exact e
theorem sr_skip_idem (b : Nat → Int32) (L a : Nat) : sr_skip b L (sr_skip b L a) = sr_skip b L a := sr_scan_f (sr_scan_stop (L - a) a (Nat.le_refl _))
/-- rowers told one after another: crew, fault, place, beginning -/
def sr_crewL (b : Nat → Int32) (L n other sc : Nat) : Nat → Nat → Nat → Nat → Nat → Nat × Nat × Nat × Nat
  | 0, crew, f, a, r => (crew, f, a, r)
  | k + 1, crew, f, a, r => if f = 0 then (if sr_isnum b L (sr_skip b L a) = true then sr_crewL b L n other sc k (sr_rowC b L (sr_skip b L a) n crew other sc) (sr_rowF b L (sr_skip b L a) n crew other sc) (sr_numA b L (sr_skip b L a)) (sr_skip b L a) else (crew, f, sr_skip b L a, r)) else (crew, f, a, r)
def sr_crewT (b : Nat → Int32) (L n other sc a : Nat) : Nat × Nat × Nat × Nat := sr_crewL b L n other sc (L + 2) (sr_rowC b L (sr_skip b L a) n 0 other sc) (sr_rowF b L (sr_skip b L a) n 0 other sc) (sr_numA b L (sr_skip b L a)) (sr_skip b L a)
theorem sr_crewL_ok {b : Nat → Int32} {L n other sc : Nat} (h300 : L ≤ 300) (hn : n ≤ 6) : ∀ (k crew f a r : Nat), crew < 2 ^ 6 → f ≤ 2500 → a ≤ L + 1 → r ≤ L + 1 → (sr_crewL b L n other sc k crew f a r).1 < 2 ^ 6 ∧ (sr_crewL b L n other sc k crew f a r).2.1 ≤ 2500 ∧ (sr_crewL b L n other sc k crew f a r).2.2.1 ≤ L + 1 ∧ (sr_crewL b L n other sc k crew f a r).2.2.2 ≤ L + 1 ∧ a ≤ (sr_crewL b L n other sc k crew f a r).2.2.1 := by
  intro k
  induction k with
  | zero => intro crew f a r h1 h2 h3 h4; exact ⟨h1, h2, h3, h4, Nat.le_refl _⟩
  | succ k ih =>
    intro crew f a r h1 h2 h3 h4
    have hs1 := sr_skip_ge b L a
    have hs2 := sr_skip_le1 b h3
    have hA := sr_numA_le (b := b) hs2
    unfold sr_crewL
    by_cases e : f = 0
    · rw [if_pos e]
      by_cases e2 : sr_isnum b L (sr_skip b L a) = true
      · rw [if_pos e2]
        have := ih (sr_rowC b L (sr_skip b L a) n crew other sc) (sr_rowF b L (sr_skip b L a) n crew other sc) (sr_numA b L (sr_skip b L a)) (sr_skip b L a) (sr_rowC_lt hn h1) (sr_rowF_le (by omega)) hA.1 hs2
        exact ⟨this.1, this.2.1, this.2.2.1, this.2.2.2.1, by omega⟩
      · rw [if_neg e2]; exact ⟨h1, h2, hs2, h4, hs1⟩
    · rw [if_neg e]; exact ⟨h1, h2, h3, h4, Nat.le_refl _⟩
theorem sr_crewT_ok {b : Nat → Int32} {L n other sc a : Nat} (h300 : L ≤ 300) (hn : n ≤ 6) (ha : a ≤ L + 1) : (sr_crewT b L n other sc a).1 < 2 ^ 6 ∧ (sr_crewT b L n other sc a).2.1 ≤ 2500 ∧ (sr_crewT b L n other sc a).2.2.1 ≤ L + 1 ∧ (sr_crewT b L n other sc a).2.2.2 ≤ L + 1 ∧ a ≤ (sr_crewT b L n other sc a).2.2.1 := by
  have hs1 := sr_skip_ge b L a
  have hs2 := sr_skip_le1 b ha
  have hA := sr_numA_le (b := b) hs2
  have := sr_crewL_ok (b := b) (L := L) (n := n) (other := other) (sc := sc) h300 hn (L + 2) (sr_rowC b L (sr_skip b L a) n 0 other sc) (sr_rowF b L (sr_skip b L a) n 0 other sc) (sr_numA b L (sr_skip b L a)) (sr_skip b L a) (sr_rowC_lt hn (by decide)) (sr_rowF_le (by omega)) hA.1 hs2
  exact ⟨this.1, this.2.1, this.2.2.1, this.2.2.2.1, by have := this.2.2.2.2; unfold sr_crewT; omega⟩
set_option maxHeartbeats 4000000 in
set_option maxRecDepth 100000 in
theorem c_X7_crewTold_f (g : sr_G) (D : sr_St) (L f a r : Nat) (now : Nat → Int32) (n other sc : Nat) (hn : now 0 = nI n) (hn6 : n ≤ 6) (hot : other < 2 ^ 6) (hsc : sc ≤ 1) (hb : sr_bytes (D.1 66)) (h0 : ¬ f = 0) (hL : D.1 63 7 = nI L) (h300 : L ≤ 300) (ha : a ≤ L + 1) (hf : f ≤ 8000) (hr : r ≤ 400)  : Con g M_X7_crewTold [.ref 63, .int (nI other), .int (nI sc)] (sr_T D f a r now) (sr_ret (some (.int (nI 0))) (sr_T D f a r now)) := by
  refine Con.of pn_X7_crewTold (Nat.le_of_ble_eq_true rfl) ?_
  show WP g M_X7_crewTold 0 [(0, .ref 63), (1, .int (nI other)), (2, .int (nI sc))] [] (sr_T D f a r now) _
  refine wp_aload_n dX7_crewTold_0 rfl rfl ?_
  refine wp_iconst (v := nI 0) dX7_crewTold_1 rfl ?_
  refine wp_iload_n dX7_crewTold_2 rfl rfl ?_
  refine wp_iload_n dX7_crewTold_3 rfl rfl ?_
  refine wp_callV (M2 := M_X7_rower) (n := 3) (As := [.int (nI 0), .int (nI other), .int (nI sc)]) (st := []) dX7_crewTold_4 (c_X7_rower_f g D L f a r now n 0 other sc hn hn6 (by decide) hot hsc hb h0 hL h300 (by omega) (by omega) (by omega)) ca_X7_119 ⟨nm_X7_rower, by decide, by decide⟩ rfl (by decide) rfl rfl rfl (Nat.le_of_ble_eq_true rfl) (fun r114 E115 q116 => ?_)
  obtain ⟨rfl, rfl⟩ := q116
  show WP g _ _ _ (.int (nI 0) :: _) _ _
  refine wp_istore_n (lv' := [(0, .ref 63), (1, .int (nI other)), (2, .int (nI sc)), (3, .int (nI 0))]) dX7_crewTold_7 rfl (by decide) rfl ?_
  refine wp_aload_n dX7_crewTold_8 rfl rfl ?_
  refine wp_getI_n (n := f) dX7_crewTold_9 fl_X7_89 (by decide) rfl rfl (sr_T_5) ?_
  refine wp_if_ne_n (tgt := 33) dX7_crewTold_12 (by decide) (by first | omega | (split <;> omega)) (fun c117 => ?_) (fun c117 => ?_)
  · refine wp_iload_n dX7_crewTold_33 rfl rfl ?_
    exact wp_iret dX7_crewTold_34 rfl ⟨rfl, rfl⟩
  · exact absurd c117 h0
set_option maxHeartbeats 4000000 in
set_option maxRecDepth 100000 in
theorem c_X7_crewTold (g : sr_G) (D : sr_St) (L a r : Nat) (now : Nat → Int32) (n other sc : Nat) (hn : now 0 = nI n) (hn6 : n ≤ 6) (hot : other < 2 ^ 6) (hsc : sc ≤ 1) (hb : sr_bytes (D.1 66)) (hL : D.1 63 7 = nI L) (h300 : L ≤ 300) (ha : a ≤ L + 1) (hr : r ≤ 400)  : Con g M_X7_crewTold [.ref 63, .int (nI other), .int (nI sc)] (sr_T D 0 a r now) (sr_ret (some (.int (nI (sr_crewT (D.1 66) L n other sc a).1))) (sr_T D ((sr_crewT (D.1 66) L n other sc a).2.1) ((sr_crewT (D.1 66) L n other sc a).2.2.1) ((sr_crewT (D.1 66) L n other sc a).2.2.2) now)) := by
  refine Con.of pn_X7_crewTold (Nat.le_of_ble_eq_true rfl) ?_
  show WP g M_X7_crewTold 0 [(0, .ref 63), (1, .int (nI other)), (2, .int (nI sc))] [] (sr_T D 0 a r now) _
  have hs1 := sr_skip_ge (D.1 66) L a
  have hs2 := sr_skip_le1 (D.1 66) ha
  have hA := sr_numA_le (b := D.1 66) (L := L) hs2
  have hF := sr_numF_le (b := D.1 66) (L := L) (s := sr_skip (D.1 66) L a) (by omega)
  have hW : ∀ (k crew f a r : Nat), L + 2 - a ≤ k → crew < 2 ^ 6 → f ≤ 2500 → a ≤ L + 1 → r ≤ L + 1 → WP g M_X7_crewTold 8 [(0, .ref 63), (1, .int (nI other)), (2, .int (nI sc)), (3, .int (nI crew))] [] (sr_T D f a r now) (sr_ret (some (.int (nI (sr_crewL (D.1 66) L n other sc k crew f a r).1))) (sr_T D (sr_crewL (D.1 66) L n other sc k crew f a r).2.1 (sr_crewL (D.1 66) L n other sc k crew f a r).2.2.1 (sr_crewL (D.1 66) L n other sc k crew f a r).2.2.2 now)) := by
    intro k
    induction k with
    | zero => intro crew f a r hk _ _ ha2 _; omega
    | succ k ih =>
      intro crew f a r hk hcr hf ha hr
      have hs1 := sr_skip_ge (D.1 66) L a
      have hs2 := sr_skip_le1 (D.1 66) ha
      have hA := sr_numA_le (b := D.1 66) (L := L) hs2
      refine wp_aload_n dX7_crewTold_8 rfl rfl ?_
      refine wp_getI_n (n := f) dX7_crewTold_9 fl_X7_89 (by decide) rfl rfl (sr_T_5) ?_
      refine wp_if_ne_n (tgt := 33) dX7_crewTold_12 (by decide) (by first | omega | (split <;> omega)) (fun c118 => ?_) (fun c118 => ?_)
      · have hf0 := c118
        refine wp_iload_n dX7_crewTold_33 rfl rfl ?_
        refine wp_iret dX7_crewTold_34 rfl ?_
        unfold sr_crewL
        rw [if_neg hf0]
        exact ⟨rfl, rfl⟩
      · subst c118
        refine wp_aload_n dX7_crewTold_15 rfl rfl ?_
        refine wp_callV (M2 := M_X7_isNumber) (n := 0) (As := []) (st := []) dX7_crewTold_16 (c_X7_isNumber g D L 0 a r now hb hL h300 (by omega) (by omega) (by omega)) ca_X7_99 ⟨nm_X7_isNumber, by decide, by decide⟩ rfl (by decide) rfl rfl rfl (Nat.le_of_ble_eq_true rfl) (fun r119 E120 q121 => ?_)
        obtain ⟨rfl, rfl⟩ := q121
        show WP g _ _ _ (.int (sr_b (sr_isnum (D.1 66) L (sr_skip (D.1 66) L a))) :: _) _ _
        refine wp_if_eq_b (tgt := 33) dX7_crewTold_19 (by decide) (fun c122 => ?_) (fun c122 => ?_)
        · have hnum := c122
          refine wp_iload_n dX7_crewTold_33 rfl rfl ?_
          refine wp_iret dX7_crewTold_34 rfl ?_
          unfold sr_crewL
          rw [if_pos rfl, if_neg (by rw [hnum]; decide)]
          exact ⟨rfl, rfl⟩
        · have hnum := c122
          refine wp_aload_n dX7_crewTold_22 rfl rfl ?_
          refine wp_iload_n dX7_crewTold_23 rfl rfl ?_
          refine wp_iload_n dX7_crewTold_24 rfl rfl ?_
          refine wp_iload_n dX7_crewTold_25 rfl rfl ?_
          refine wp_callV (M2 := M_X7_rower) (n := 3) (As := [.int (nI crew), .int (nI other), .int (nI sc)]) (st := []) dX7_crewTold_26 (c_X7_rower g D L (sr_skip (D.1 66) L a) r now n crew other sc hn hn6 hcr hot hsc hb hL h300 (by omega) (by omega)) ca_X7_119 ⟨nm_X7_rower, by decide, by decide⟩ rfl (by decide) rfl rfl rfl (Nat.le_of_ble_eq_true rfl) (fun r123 E124 q125 => ?_)
          rw [sr_skip_idem] at q125
          obtain ⟨rfl, rfl⟩ := q125
          show WP g _ _ _ (.int (nI (sr_rowC (D.1 66) L (sr_skip (D.1 66) L a) n crew other sc)) :: _) _ _
          refine wp_istore_n (lv' := [(0, .ref 63), (1, .int (nI other)), (2, .int (nI sc)), (3, .int (nI (sr_rowC (D.1 66) L (sr_skip (D.1 66) L a) n crew other sc)))]) dX7_crewTold_29 rfl (by decide) rfl ?_
          refine wp_goto (tgt := 8) dX7_crewTold_30 (by decide) ?_
          have hE := sr_numE_le hnum
          have hdf := sr_dfst_ge (D.1 66) L (sr_skip (D.1 66) L a)
          have hnA : sr_numA (D.1 66) L (sr_skip (D.1 66) L a) = sr_numE (D.1 66) L (sr_skip (D.1 66) L a) := if_pos hnum
          unfold sr_crewL
          rw [if_pos rfl, if_pos hnum]
          exact ih _ _ _ _ (by omega) (sr_rowC_lt hn6 hcr) (sr_rowF_le (by omega)) hA.1 hs2
  refine wp_aload_n dX7_crewTold_0 rfl rfl ?_
  refine wp_iconst (v := nI 0) dX7_crewTold_1 rfl ?_
  refine wp_iload_n dX7_crewTold_2 rfl rfl ?_
  refine wp_iload_n dX7_crewTold_3 rfl rfl ?_
  refine wp_callV (M2 := M_X7_rower) (n := 3) (As := [.int (nI 0), .int (nI other), .int (nI sc)]) (st := []) dX7_crewTold_4 (c_X7_rower g D L a r now n 0 other sc hn hn6 (by decide) hot hsc hb hL h300 (by omega) (by omega)) ca_X7_119 ⟨nm_X7_rower, by decide, by decide⟩ rfl (by decide) rfl rfl rfl (Nat.le_of_ble_eq_true rfl) (fun r126 E127 q128 => ?_)
  obtain ⟨rfl, rfl⟩ := q128
  show WP g _ _ _ (.int (nI (sr_rowC (D.1 66) L (sr_skip (D.1 66) L a) n 0 other sc)) :: _) _ _
  refine wp_istore_n (lv' := [(0, .ref 63), (1, .int (nI other)), (2, .int (nI sc)), (3, .int (nI (sr_rowC (D.1 66) L (sr_skip (D.1 66) L a) n 0 other sc)))]) dX7_crewTold_7 rfl (by decide) rfl ?_
  exact hW (L + 2) _ _ _ _ (by omega) (sr_rowC_lt hn6 (by decide)) (sr_rowF_le (by omega)) hA.1 hs2
