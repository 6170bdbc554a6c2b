/-! ===== next: the best match so far ===== -/
/-- the table with a match in it -/
def md_PM (now : Nat → Int32) (n r a b : Nat) : Nat → Int64 := sr_comesP (n + 1) (sr_form n a b (nI 0)) (md_P now n r)
/-- what the algebra owes for a match -/
def md_mok (now : Nat → Int32) (n r a b : Nat) : Prop := 0 < md_b (n + 1) (md_PM now n r a b) ∧ 0 ≤ (md_cs n (md_PM now n r a b) n).2.toInt
abbrev md_B : Type := Nat × Nat × Nat × Nat × Nat
def md_bst (D : sr_St) (s : md_B) : Prop := D.1 63 21 = nI s.1 ∧ s.1 < 64 ∧ (¬ s.1 = 0 → D.1 63 22 = nI s.2.1 ∧ D.1 63 23 = nI s.2.2.1 ∧ D.2 63 24 = lN s.2.2.2.1 ∧ D.2 63 25 = lN s.2.2.2.2 ∧ s.2.2.1 ≤ 100 ∧ s.2.2.2.1 < 2 ^ 63 ∧ s.2.2.2.2 < 2 ^ 63 ∧ 0 < s.2.2.2.2)
def md_ms (now : Nat → Int32) (n r a b : Nat) (s : md_B) : md_B :=
  if s.1 = 0 ∨ s.2.2.1 < (md_cs n (md_PM now n r a b) n).1 ∨ ((md_cs n (md_PM now n r a b) n).1 = s.2.2.1 ∧ (md_cs n (md_PM now n r a b) n).2.toInt.toNat * s.2.2.2.2 < s.2.2.2.1 * (md_b (n + 1) (md_PM now n r a b)).toInt.toNat)
  then (a, b, (md_cs n (md_PM now n r a b) n).1, (md_cs n (md_PM now n r a b) n).2.toInt.toNat, (md_b (n + 1) (md_PM now n r a b)).toInt.toNat) else s
theorem sr_lN_of {x : Int64} (h : 0 ≤ x.toInt) : x = lN x.toInt.toNat ∧ x.toInt.toNat < 2 ^ 63 := by
  have h2 := Int64.toInt_lt x
  have h3 : x.toInt.toNat < 2 ^ 63 := by omega
  refine ⟨?_, h3⟩
  apply Int64.toInt_inj.mp
  rw [pk_lT h3]; omega
theorem md_cp_le {n : Nat} {p : Nat → Int64} {i : Nat} {a : Nat × Int64} : ∀ k, (md_cp n p i k a).1 ≤ a.1 + k
  | 0 => Nat.le_refl _
  | k + 1 => by
    have := md_cp_le (n := n) (p := p) (i := i) (a := a) k
    unfold md_cp
    split
    · show _ + 1 ≤ _; omega
    · omega
theorem md_cs_le {n : Nat} {p : Nat → Int64} : ∀ i, (md_cs n p i).1 ≤ i * n
  | 0 => Nat.zero_le _
  | i + 1 => by
    have h1 := md_cs_le (n := n) (p := p) i
    have h2 := md_cp_le (n := n) (p := p) (i := i) (a := md_cs n p i) (n - (i + 1))
    show (md_cp n p i (n - (i + 1)) (md_cs n p i)).1 ≤ _
    rw [Nat.add_mul, Nat.one_mul]; omega
theorem sr_cmp_neg {p q r s : Nat} : sr_cmp p q r s 1 < 0 ↔ p * s < r * q := by
  unfold sr_cmp
  by_cases h1 : p * s < r * q
  · rw [if_pos h1]; exact ⟨fun _ => h1, fun _ => by decide⟩
  · rw [if_neg h1]
    by_cases h2 : p * s = r * q
    · rw [if_pos h2]; exact ⟨fun z => absurd z (by decide), fun z => absurd z h1⟩
    · rw [if_neg h2]; exact ⟨fun z => absurd z (by decide), fun z => absurd z h1⟩
set_option maxHeartbeats 4000000 in
set_option maxRecDepth 100000 in
theorem c_X7_matched (g : sr_G) (D E : sr_St) (n r : Nat) (hlo : sr_logOk (D.1 64) n r) (hgood : md_good (n + 1) (md_P (D.1 64) n r)) (hE : E.1 64 = D.1 64) (a b : Nat) (ha0 : 0 < a) (ha : a < 64) (hb : b < 64) (s : md_B) (hs : md_bst E s) (hm : md_mok (D.1 64) n r a b) : Con g M_X7_matched [.ref 63, .int (nI a), .int (nI b)] E (fun qa D' => qa = none ∧ sr_per E D' ∧ md_bst D' (md_ms (D.1 64) n r a b s) ∧ (∀ k, ¬ k = 16 → ¬ k = 18 → ¬ k = 21 → ¬ k = 22 → ¬ k = 23 → D'.1 63 k = E.1 63 k)) := by
  refine Con.of pn_X7_matched (Nat.le_of_ble_eq_true rfl) ?_
  have hn := hlo.1.1
  have hn6 := hlo.1.2.1
  have hr := hlo.1.2.2.1
  have hr12 := hlo.1.2.2.2
  have hnc := md_cs_le (n := n) (p := (md_PM (D.1 64) n r a b)) n
  have hnn := Nat.mul_le_mul hn6 hn6
  obtain ⟨ed, hd63⟩ := sr_lN_of hm.2
  obtain ⟨eb, hb63⟩ := sr_lN_of (x := md_b (n + 1) (md_PM (D.1 64) n r a b)) (by have := sr_l0 hm.1; rw [Int64.le_iff_toInt_le] at this; exact this)
  have hbp : 0 < (md_b (n + 1) (md_PM (D.1 64) n r a b)).toInt.toNat := by have := hm.1; rw [Int64.lt_iff_toInt_lt] at this; have e0 : (0 : Int64).toInt = 0 := rfl; omega
  have hgm : md_good (n + 1) (md_PM (D.1 64) n r a b) := md_good_b (by omega) hm.1
  have hs64 := hs.2.1
  refine wp_aload_n dX7_matched_0 rfl rfl ?_
  refine wp_callV (M2 := M_X7_lays) (n := 0) (As := []) (st := []) dX7_matched_1 (c_X7_lays g E n r (by rw [hE]; exact hlo)) ca_X7_183 ⟨nm_X7_lays, by decide, by decide⟩ rfl (by decide) rfl rfl rfl (Nat.le_of_ble_eq_true rfl) (fun r759 E760 q761 => ?_)
  rw [hE] at q761
  obtain ⟨rfl, p1, l1, x1, y1, z1⟩ := q761
  show WP g _ _ _ _ _ _
  refine wp_aload_n dX7_matched_4 rfl rfl ?_
  refine wp_iload_n dX7_matched_5 rfl rfl ?_
  refine wp_iload_n dX7_matched_6 rfl rfl ?_
  refine wp_iconst (v := nI 0) dX7_matched_7 rfl ?_
  refine wp_callV (M2 := M_X7_formOf) (n := 3) (As := [.int (nI a), .int (nI b), .int (nI 0)]) (st := []) dX7_matched_8 (c_form g E760 n (by rw [p1.n64, hE]; exact hn) hn6 a b ha hb (nI 0)) ca_X7_149 ⟨nm_X7_formOf, by decide, by decide⟩ rfl (by decide) rfl rfl rfl (Nat.le_of_ble_eq_true rfl) (fun r762 E763 q764 => ?_)
  obtain ⟨rfl, p2, l2, f2, g2, o2⟩ := q764
  show WP g _ _ _ _ _ _
  refine wp_aload_n dX7_matched_11 rfl rfl ?_
  refine wp_iconst (v := nI 0) dX7_matched_12 rfl ?_
  refine wp_callV (M2 := M_X7_comes) (n := 1) (As := [.int (nI 0)]) (st := []) dX7_matched_13 (c_comes g E763 (n + 1) _ _ (sr_form n a b (nI 0)) (nI 0) (by omega) (l2 _ _ _ l1) f2) ca_X7_153 ⟨nm_X7_comes, by decide, by decide⟩ rfl (by decide) rfl rfl rfl (Nat.le_of_ble_eq_true rfl) (fun r765 E766 q767 => ?_)
  obtain ⟨rfl, p3, l3, g3, h3⟩ := q767
  show WP g _ _ _ _ _ _
  refine wp_aload_n dX7_matched_16 rfl rfl ?_
  refine wp_callV (M2 := M_X7_couples) (n := 0) (As := []) (st := []) dX7_matched_17 (c_X7_couples g E766 n (by rw [g3, o2 64 (by decide), p1.n64, hE]; exact hn) hn6 (md_PM (D.1 64) n r a b) _ l3 hgm (md_kn_z (by omega))) ca_X7_221 ⟨nm_X7_couples, by decide, by decide⟩ rfl (by decide) rfl rfl rfl (Nat.le_of_ble_eq_true rfl) (fun r768 E769 q770 => ?_)
  obtain ⟨rfl, k4, l4, j4, b4⟩ := q770
  show WP g _ _ _ (.int (nI ((md_cs n (md_PM (D.1 64) n r a b) n).1)) :: _) _ _
  obtain ⟨f4, b4⟩ := b4
  have hby : E769.2 63 17 = lN (md_b (n + 1) (md_PM (D.1 64) n r a b)).toInt.toNat := by rw [b4, (md_by_b (by omega)).1]; exact eb
  have hdo : E769.2 63 20 = lN (md_cs n (md_PM (D.1 64) n r a b) n).2.toInt.toNat := by rw [j4]; exact ed
  have kI : ∀ k, ¬ k = 16 → ¬ k = 18 → E769.1 63 k = E.1 63 k := fun k h1 h2 => by rw [k4.2.2.1 k h1, g3, o2 63 (by decide), y1 k h2]
  have kJ : ∀ k, ¬ k = 17 → ¬ k = 20 → E769.2 63 k = E.2 63 k := fun k h1 h2 => by rw [k4.2.2.2 k h1 h2, h3, g2, z1]
  have hper : sr_per E E769 := ((p1.tr p2).tr p3).tr k4.1
  have kA : E769.1 63 21 = nI s.1 := by rw [kI 21 (by decide) (by decide)]; exact hs.1
  refine wp_istore_n (lv' := [(0, .ref 63), (1, .int (nI a)), (2, .int (nI b)), (3, .int (nI ((md_cs n (md_PM (D.1 64) n r a b) n).1)))]) dX7_matched_20 rfl (by decide) rfl ?_
  refine wp_aload_n dX7_matched_21 rfl rfl ?_
  refine wp_getI_n (n := s.1) dX7_matched_22 fl_X7_236 (by decide) rfl rfl (kA) ?_
  refine wp_if_eq_n (tgt := 66) dX7_matched_25 (by decide) (by first | omega | (split <;> omega)) (fun c771 => ?_) (fun c771 => ?_)
  · have hbt : s.1 = 0 ∨ s.2.2.1 < (md_cs n (md_PM (D.1 64) n r a b) n).1 ∨ ((md_cs n (md_PM (D.1 64) n r a b) n).1 = s.2.2.1 ∧ (md_cs n (md_PM (D.1 64) n r a b) n).2.toInt.toNat * s.2.2.2.2 < s.2.2.2.1 * (md_b (n + 1) (md_PM (D.1 64) n r a b)).toInt.toNat) := Or.inl c771
    refine wp_iconst (v := nI 1) dX7_matched_66 rfl ?_
    refine wp_goto (tgt := 71) dX7_matched_67 (by decide) ?_
    refine wp_istore (lv' := [(0, .ref 63), (1, .int (nI a)), (2, .int (nI b)), (3, .int (nI ((md_cs n (md_PM (D.1 64) n r a b) n).1))), (4, .int (nI 1))]) dX7_matched_71 (by decide) rfl ?_
    refine wp_iload dX7_matched_73 rfl ?_
    refine wp_if_ne (tgt := 79) dX7_matched_75 (by decide) (fun _ => ?_) (fun c772 => absurd c772 (by decide))
    refine wp_aload_n dX7_matched_79 rfl rfl ?_
    refine wp_iload_n dX7_matched_80 rfl rfl ?_
    refine wp_putI dX7_matched_81 fl_X7_236 (by decide) rfl rfl ?_
    refine wp_D (fun D773 eD773 => ?_)
    have k775 : D773.1 63 21 = nI a := by rw [eD773, sr_sI_1, if_pos ⟨rfl, rfl⟩]
    refine wp_aload_n dX7_matched_84 rfl rfl ?_
    refine wp_iload_n dX7_matched_85 rfl rfl ?_
    refine wp_putI dX7_matched_86 fl_X7_252 (by decide) rfl rfl ?_
    refine wp_D (fun D776 eD776 => ?_)
    have k777 : D776.1 63 21 = nI a := by rw [eD776, sr_sI_1, if_neg (by omega)]; exact k775
    refine wp_aload_n dX7_matched_89 rfl rfl ?_
    refine wp_iload_n dX7_matched_90 rfl rfl ?_
    refine wp_putI dX7_matched_91 fl_X7_239 (by decide) rfl rfl ?_
    refine wp_D (fun D778 eD778 => ?_)
    have k779 : D778.1 63 21 = nI a := by rw [eD778, sr_sI_1, if_neg (by omega)]; exact k777
    refine wp_aload_n dX7_matched_94 rfl rfl ?_
    refine wp_aload_n dX7_matched_95 rfl rfl ?_
    refine wp_getJ dX7_matched_96 fl_X7_218 (by decide) rfl rfl ?_
    refine wp_putJ dX7_matched_99 fl_X7_242 (by decide) rfl rfl ?_
    refine wp_D (fun D780 eD780 => ?_)
    have k781 : D780.1 63 21 = nI a := by rw [eD780, sr_sJ_1]; exact k779
    refine wp_aload_n dX7_matched_102 rfl rfl ?_
    refine wp_aload_n dX7_matched_103 rfl rfl ?_
    refine wp_getJ dX7_matched_104 fl_X7_159 (by decide) rfl rfl ?_
    refine wp_putJ dX7_matched_107 fl_X7_245 (by decide) rfl rfl ?_
    refine wp_D (fun D782 eD782 => ?_)
    have k783 : D782.1 63 21 = nI a := by rw [eD782, sr_sJ_1]; exact k781
    refine wp_vret dX7_matched_110 rfl ⟨rfl, ?_, ?_, ?_⟩
    · subst eD773 eD776 eD778 eD780 eD782; exact hper.tr ⟨fun o a b c d => by simp [sr_sJ, sr_sI, a], fun k a b c d e f => by simp [sr_sJ, sr_sI_1, d, e, f], fun o a b c d e => by simp [sr_sJ, sr_sI, a]⟩
    · unfold md_ms; rw [if_pos hbt]; subst eD773 eD776 eD778 eD780 eD782
      refine ⟨by simp [sr_sJ, sr_sI_1], ha, fun _ => ⟨by simp [sr_sJ, sr_sI_1], by simp [sr_sJ, sr_sI_1], ?_, ?_, ?_, hd63, hb63, hbp⟩⟩
      · rw [sr_sJ_2, if_neg (by decide), sr_sJ_2, if_pos ⟨rfl, rfl⟩]; exact hdo
      · rw [sr_sJ_2, if_pos ⟨rfl, rfl⟩, sr_sJ_2, if_neg (by decide)]; exact hby
      · show (md_cs n (md_PM (D.1 64) n r a b) n).1 ≤ 100; omega
    · intro k h1 h2 h3 h4 h5; subst eD773 eD776 eD778 eD780 eD782; simp [sr_sJ, sr_sI_1, h3, h4, h5]; exact kI k h1 h2
  · have hs0 := c771
    have hs2 := hs.2.2 hs0
    have kM : E769.1 63 23 = nI s.2.2.1 := by rw [kI 23 (by decide) (by decide)]; exact hs2.2.1
    refine wp_iload_n dX7_matched_28 rfl rfl ?_
    refine wp_aload_n dX7_matched_29 rfl rfl ?_
    refine wp_getI_n (n := s.2.2.1) dX7_matched_30 fl_X7_239 (by decide) rfl rfl (kM) ?_
    refine wp_icmp_gt_n (tgt := 66) dX7_matched_33 (by decide) (by first | omega | (split <;> omega)) (by have := hs2.2.2.2.2.1; omega) (fun c784 => ?_) (fun c784 => ?_)
    · have hbt : s.1 = 0 ∨ s.2.2.1 < (md_cs n (md_PM (D.1 64) n r a b) n).1 ∨ ((md_cs n (md_PM (D.1 64) n r a b) n).1 = s.2.2.1 ∧ (md_cs n (md_PM (D.1 64) n r a b) n).2.toInt.toNat * s.2.2.2.2 < s.2.2.2.1 * (md_b (n + 1) (md_PM (D.1 64) n r a b)).toInt.toNat) := Or.inr (Or.inl c784)
      refine wp_iconst (v := nI 1) dX7_matched_66 rfl ?_
      refine wp_goto (tgt := 71) dX7_matched_67 (by decide) ?_
      refine wp_istore (lv' := [(0, .ref 63), (1, .int (nI a)), (2, .int (nI b)), (3, .int (nI ((md_cs n (md_PM (D.1 64) n r a b) n).1))), (4, .int (nI 1))]) dX7_matched_71 (by decide) rfl ?_
      refine wp_iload dX7_matched_73 rfl ?_
      refine wp_if_ne (tgt := 79) dX7_matched_75 (by decide) (fun _ => ?_) (fun c785 => absurd c785 (by decide))
      refine wp_aload_n dX7_matched_79 rfl rfl ?_
      refine wp_iload_n dX7_matched_80 rfl rfl ?_
      refine wp_putI dX7_matched_81 fl_X7_236 (by decide) rfl rfl ?_
      refine wp_D (fun D786 eD786 => ?_)
      have k788 : D786.1 63 23 = nI s.2.2.1 := by rw [eD786, sr_sI_1, if_neg (by omega)]; exact kM
      have k789 : D786.1 63 21 = nI a := by rw [eD786, sr_sI_1, if_pos ⟨rfl, rfl⟩]
      refine wp_aload_n dX7_matched_84 rfl rfl ?_
      refine wp_iload_n dX7_matched_85 rfl rfl ?_
      refine wp_putI dX7_matched_86 fl_X7_252 (by decide) rfl rfl ?_
      refine wp_D (fun D790 eD790 => ?_)
      have k791 : D790.1 63 23 = nI s.2.2.1 := by rw [eD790, sr_sI_1, if_neg (by omega)]; exact k788
      have k792 : D790.1 63 21 = nI a := by rw [eD790, sr_sI_1, if_neg (by omega)]; exact k789
      refine wp_aload_n dX7_matched_89 rfl rfl ?_
      refine wp_iload_n dX7_matched_90 rfl rfl ?_
      refine wp_putI dX7_matched_91 fl_X7_239 (by decide) rfl rfl ?_
      refine wp_D (fun D793 eD793 => ?_)
      have k795 : D793.1 63 21 = nI a := by rw [eD793, sr_sI_1, if_neg (by omega)]; exact k792
      have k796 : D793.1 63 23 = nI ((md_cs n (md_PM (D.1 64) n r a b) n).1) := by rw [eD793, sr_sI_1, if_pos ⟨rfl, rfl⟩]
      refine wp_aload_n dX7_matched_94 rfl rfl ?_
      refine wp_aload_n dX7_matched_95 rfl rfl ?_
      refine wp_getJ dX7_matched_96 fl_X7_218 (by decide) rfl rfl ?_
      refine wp_putJ dX7_matched_99 fl_X7_242 (by decide) rfl rfl ?_
      refine wp_D (fun D797 eD797 => ?_)
      have k798 : D797.1 63 21 = nI a := by rw [eD797, sr_sJ_1]; exact k795
      have k799 : D797.1 63 23 = nI ((md_cs n (md_PM (D.1 64) n r a b) n).1) := by rw [eD797, sr_sJ_1]; exact k796
      refine wp_aload_n dX7_matched_102 rfl rfl ?_
      refine wp_aload_n dX7_matched_103 rfl rfl ?_
      refine wp_getJ dX7_matched_104 fl_X7_159 (by decide) rfl rfl ?_
      refine wp_putJ dX7_matched_107 fl_X7_245 (by decide) rfl rfl ?_
      refine wp_D (fun D800 eD800 => ?_)
      have k801 : D800.1 63 21 = nI a := by rw [eD800, sr_sJ_1]; exact k798
      have k802 : D800.1 63 23 = nI ((md_cs n (md_PM (D.1 64) n r a b) n).1) := by rw [eD800, sr_sJ_1]; exact k799
      refine wp_vret dX7_matched_110 rfl ⟨rfl, ?_, ?_, ?_⟩
      · subst eD786 eD790 eD793 eD797 eD800; exact hper.tr ⟨fun o a b c d => by simp [sr_sJ, sr_sI, a], fun k a b c d e f => by simp [sr_sJ, sr_sI_1, d, e, f], fun o a b c d e => by simp [sr_sJ, sr_sI, a]⟩
      · unfold md_ms; rw [if_pos hbt]; subst eD786 eD790 eD793 eD797 eD800
        refine ⟨by simp [sr_sJ, sr_sI_1], ha, fun _ => ⟨by simp [sr_sJ, sr_sI_1], by simp [sr_sJ, sr_sI_1], ?_, ?_, ?_, hd63, hb63, hbp⟩⟩
        · rw [sr_sJ_2, if_neg (by decide), sr_sJ_2, if_pos ⟨rfl, rfl⟩]; exact hdo
        · rw [sr_sJ_2, if_pos ⟨rfl, rfl⟩, sr_sJ_2, if_neg (by decide)]; exact hby
        · show (md_cs n (md_PM (D.1 64) n r a b) n).1 ≤ 100; omega
      · intro k h1 h2 h3 h4 h5; subst eD786 eD790 eD793 eD797 eD800; simp [sr_sJ, sr_sI_1, h3, h4, h5]; exact kI k h1 h2
    · have hle := c784
      refine wp_iload_n dX7_matched_36 rfl rfl ?_
      refine wp_aload_n dX7_matched_37 rfl rfl ?_
      refine wp_getI_n (n := s.2.2.1) dX7_matched_38 fl_X7_239 (by decide) rfl rfl (kM) ?_
      refine wp_icmp_ne_n (tgt := 70) dX7_matched_41 (by decide) (by first | omega | (split <;> omega)) (by have := hs2.2.2.2.2.1; omega) (fun c803 => ?_) (fun c803 => ?_)
      · have hbt : ¬ (s.1 = 0 ∨ s.2.2.1 < (md_cs n (md_PM (D.1 64) n r a b) n).1 ∨ ((md_cs n (md_PM (D.1 64) n r a b) n).1 = s.2.2.1 ∧ (md_cs n (md_PM (D.1 64) n r a b) n).2.toInt.toNat * s.2.2.2.2 < s.2.2.2.1 * (md_b (n + 1) (md_PM (D.1 64) n r a b)).toInt.toNat)) := fun z => z.elim hs0 (fun z => z.elim (fun z => by omega) (fun z => c803 z.1))
        refine wp_iconst (v := nI 0) dX7_matched_70 rfl ?_
        refine wp_istore (lv' := [(0, .ref 63), (1, .int (nI a)), (2, .int (nI b)), (3, .int (nI ((md_cs n (md_PM (D.1 64) n r a b) n).1))), (4, .int (nI 0))]) dX7_matched_71 (by decide) rfl ?_
        refine wp_iload dX7_matched_73 rfl ?_
        refine wp_if_ne (tgt := 79) dX7_matched_75 (by decide) (fun c804 => absurd c804 (by decide)) (fun _ => ?_)
        refine wp_vret dX7_matched_78 rfl ⟨rfl, hper, ?_, fun k h1 h2 _ _ _ => kI k h1 h2⟩
        unfold md_ms
        rw [if_neg hbt]
        refine ⟨kA, hs.2.1, fun h => ?_⟩
        have hs3 := hs.2.2 h
        exact ⟨(kI 22 (by decide) (by decide)).trans hs3.1, (kI 23 (by decide) (by decide)).trans hs3.2.1, (kJ 24 (by decide) (by decide)).trans hs3.2.2.1, (kJ 25 (by decide) (by decide)).trans hs3.2.2.2.1, hs3.2.2.2.2⟩
      · have heq := c803
        refine wp_aload_n dX7_matched_44 rfl rfl ?_
        refine wp_getJ dX7_matched_45 fl_X7_218 (by decide) rfl rfl ?_
        rw [hdo]
        refine wp_aload_n dX7_matched_48 rfl rfl ?_
        refine wp_getJ dX7_matched_49 fl_X7_159 (by decide) rfl rfl ?_
        rw [hby]
        refine wp_aload_n dX7_matched_52 rfl rfl ?_
        refine wp_getJ dX7_matched_53 fl_X7_242 (by decide) rfl rfl ?_
        rw [(kJ 24 (by decide) (by decide)).trans hs2.2.2.1]
        refine wp_aload_n dX7_matched_56 rfl rfl ?_
        refine wp_getJ dX7_matched_57 fl_X7_245 (by decide) rfl rfl ?_
        rw [(kJ 25 (by decide) (by decide)).trans hs2.2.2.2.1]
        refine wp_callS (M2 := M_X7_compared) (n := 4) (As := [.long (lN (md_cs n (md_PM (D.1 64) n r a b) n).2.toInt.toNat), .long (lN (md_b (n + 1) (md_PM (D.1 64) n r a b)).toInt.toNat), .long (lN s.2.2.2.1), .long (lN s.2.2.2.2)]) (st := []) dX7_matched_60 (c_X7_compared g E769 (md_cs n (md_PM (D.1 64) n r a b) n).2.toInt.toNat (md_b (n + 1) (md_PM (D.1 64) n r a b)).toInt.toNat s.2.2.2.1 s.2.2.2.2 hd63 hb63 hs2.2.2.2.2.2.1 hs2.2.2.2.2.2.2.1 hbp hs2.2.2.2.2.2.2.2) ca_X7_248 ⟨nm_X7_compared, by decide, by decide⟩ rfl rfl (Nat.le_of_ble_eq_true rfl) (fun r805 E806 q807 => ?_)
        obtain ⟨rfl, rfl⟩ := q807
        show WP g _ _ _ (.int (sr_cmp (md_cs n (md_PM (D.1 64) n r a b) n).2.toInt.toNat (md_b (n + 1) (md_PM (D.1 64) n r a b)).toInt.toNat s.2.2.2.1 s.2.2.2.2 1) :: _) _ _
        refine wp_if_ge (tgt := 70) dX7_matched_63 (by decide) (fun c808 => ?_) (fun c808 => ?_)
        · have hbt : ¬ (s.1 = 0 ∨ s.2.2.1 < (md_cs n (md_PM (D.1 64) n r a b) n).1 ∨ ((md_cs n (md_PM (D.1 64) n r a b) n).1 = s.2.2.1 ∧ (md_cs n (md_PM (D.1 64) n r a b) n).2.toInt.toNat * s.2.2.2.2 < s.2.2.2.1 * (md_b (n + 1) (md_PM (D.1 64) n r a b)).toInt.toNat)) := fun z => z.elim hs0 (fun z => z.elim (fun z => by omega) (fun z => by have h := sr_cmp_neg.mpr z.2; rw [Int32.lt_iff_toInt_lt] at h; rw [Int32.le_iff_toInt_le] at c808; omega))
          refine wp_iconst (v := nI 0) dX7_matched_70 rfl ?_
          refine wp_istore (lv' := [(0, .ref 63), (1, .int (nI a)), (2, .int (nI b)), (3, .int (nI ((md_cs n (md_PM (D.1 64) n r a b) n).1))), (4, .int (nI 0))]) dX7_matched_71 (by decide) rfl ?_
          refine wp_iload dX7_matched_73 rfl ?_
          refine wp_if_ne (tgt := 79) dX7_matched_75 (by decide) (fun c809 => absurd c809 (by decide)) (fun _ => ?_)
          refine wp_vret dX7_matched_78 rfl ⟨rfl, hper, ?_, fun k h1 h2 _ _ _ => kI k h1 h2⟩
          unfold md_ms
          rw [if_neg hbt]
          refine ⟨kA, hs.2.1, fun h => ?_⟩
          have hs3 := hs.2.2 h
          exact ⟨(kI 22 (by decide) (by decide)).trans hs3.1, (kI 23 (by decide) (by decide)).trans hs3.2.1, (kJ 24 (by decide) (by decide)).trans hs3.2.2.1, (kJ 25 (by decide) (by decide)).trans hs3.2.2.2.1, hs3.2.2.2.2⟩
        · have hbt : s.1 = 0 ∨ s.2.2.1 < (md_cs n (md_PM (D.1 64) n r a b) n).1 ∨ ((md_cs n (md_PM (D.1 64) n r a b) n).1 = s.2.2.1 ∧ (md_cs n (md_PM (D.1 64) n r a b) n).2.toInt.toNat * s.2.2.2.2 < s.2.2.2.1 * (md_b (n + 1) (md_PM (D.1 64) n r a b)).toInt.toNat) := Or.inr (Or.inr ⟨heq, sr_cmp_neg.mp (Decidable.not_not.mp (fun h => c808 (by rw [Int32.lt_iff_toInt_lt] at h; rw [Int32.le_iff_toInt_le]; omega)))⟩)
          refine wp_iconst (v := nI 1) dX7_matched_66 rfl ?_
          refine wp_goto (tgt := 71) dX7_matched_67 (by decide) ?_
          refine wp_istore (lv' := [(0, .ref 63), (1, .int (nI a)), (2, .int (nI b)), (3, .int (nI ((md_cs n (md_PM (D.1 64) n r a b) n).1))), (4, .int (nI 1))]) dX7_matched_71 (by decide) rfl ?_
          refine wp_iload dX7_matched_73 rfl ?_
          refine wp_if_ne (tgt := 79) dX7_matched_75 (by decide) (fun _ => ?_) (fun c810 => absurd c810 (by decide))
          refine wp_aload_n dX7_matched_79 rfl rfl ?_
          refine wp_iload_n dX7_matched_80 rfl rfl ?_
          refine wp_putI dX7_matched_81 fl_X7_236 (by decide) rfl rfl ?_
          refine wp_D (fun D811 eD811 => ?_)
          have k813 : D811.1 63 23 = nI s.2.2.1 := by rw [eD811, sr_sI_1, if_neg (by omega)]; exact kM
          have k814 : D811.1 63 21 = nI a := by rw [eD811, sr_sI_1, if_pos ⟨rfl, rfl⟩]
          refine wp_aload_n dX7_matched_84 rfl rfl ?_
          refine wp_iload_n dX7_matched_85 rfl rfl ?_
          refine wp_putI dX7_matched_86 fl_X7_252 (by decide) rfl rfl ?_
          refine wp_D (fun D815 eD815 => ?_)
          have k816 : D815.1 63 23 = nI s.2.2.1 := by rw [eD815, sr_sI_1, if_neg (by omega)]; exact k813
          have k817 : D815.1 63 21 = nI a := by rw [eD815, sr_sI_1, if_neg (by omega)]; exact k814
          refine wp_aload_n dX7_matched_89 rfl rfl ?_
          refine wp_iload_n dX7_matched_90 rfl rfl ?_
          refine wp_putI dX7_matched_91 fl_X7_239 (by decide) rfl rfl ?_
          refine wp_D (fun D818 eD818 => ?_)
          have k820 : D818.1 63 21 = nI a := by rw [eD818, sr_sI_1, if_neg (by omega)]; exact k817
          have k821 : D818.1 63 23 = nI ((md_cs n (md_PM (D.1 64) n r a b) n).1) := by rw [eD818, sr_sI_1, if_pos ⟨rfl, rfl⟩]
          refine wp_aload_n dX7_matched_94 rfl rfl ?_
          refine wp_aload_n dX7_matched_95 rfl rfl ?_
          refine wp_getJ dX7_matched_96 fl_X7_218 (by decide) rfl rfl ?_
          refine wp_putJ dX7_matched_99 fl_X7_242 (by decide) rfl rfl ?_
          refine wp_D (fun D822 eD822 => ?_)
          have k823 : D822.1 63 21 = nI a := by rw [eD822, sr_sJ_1]; exact k820
          have k824 : D822.1 63 23 = nI ((md_cs n (md_PM (D.1 64) n r a b) n).1) := by rw [eD822, sr_sJ_1]; exact k821
          refine wp_aload_n dX7_matched_102 rfl rfl ?_
          refine wp_aload_n dX7_matched_103 rfl rfl ?_
          refine wp_getJ dX7_matched_104 fl_X7_159 (by decide) rfl rfl ?_
          refine wp_putJ dX7_matched_107 fl_X7_245 (by decide) rfl rfl ?_
          refine wp_D (fun D825 eD825 => ?_)
          have k826 : D825.1 63 21 = nI a := by rw [eD825, sr_sJ_1]; exact k823
          have k827 : D825.1 63 23 = nI ((md_cs n (md_PM (D.1 64) n r a b) n).1) := by rw [eD825, sr_sJ_1]; exact k824
          refine wp_vret dX7_matched_110 rfl ⟨rfl, ?_, ?_, ?_⟩
          · subst eD811 eD815 eD818 eD822 eD825; exact hper.tr ⟨fun o a b c d => by simp [sr_sJ, sr_sI, a], fun k a b c d e f => by simp [sr_sJ, sr_sI_1, d, e, f], fun o a b c d e => by simp [sr_sJ, sr_sI, a]⟩
          · unfold md_ms; rw [if_pos hbt]; subst eD811 eD815 eD818 eD822 eD825
            refine ⟨by simp [sr_sJ, sr_sI_1], ha, fun _ => ⟨by simp [sr_sJ, sr_sI_1], by simp [sr_sJ, sr_sI_1], ?_, ?_, ?_, hd63, hb63, hbp⟩⟩
            · rw [sr_sJ_2, if_neg (by decide), sr_sJ_2, if_pos ⟨rfl, rfl⟩]; exact hdo
            · rw [sr_sJ_2, if_pos ⟨rfl, rfl⟩, sr_sJ_2, if_neg (by decide)]; exact hby
            · show (md_cs n (md_PM (D.1 64) n r a b) n).1 ≤ 100; omega
          · intro k h1 h2 h3 h4 h5; subst eD811 eD815 eD818 eD822 eD825; simp [sr_sJ, sr_sI_1, h3, h4, h5]; exact kI k h1 h2
