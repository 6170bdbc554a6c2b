/-! ===== all matches in their order ===== -/
section FO
variable {σ : Type}
def sr_fb (F : Nat → Nat → σ → σ) (a : Nat) : Nat → σ → σ
  | 0, s => s
  | j + 1, s => F a (1 + j) (sr_fb F a j s)
def sr_fa (F : Nat → Nat → σ → σ) (N : Nat) : Nat → σ → σ
  | 0, s => s
  | i + 1, s => sr_fb F (1 + i) (N - 1) (sr_fa F N i s)
end FO
theorem sr_in13 {v : Int32} : sr_isIn v (nI 1) (nI 3) = true ↔ ∃ x, 1 ≤ x ∧ x ≤ 3 ∧ v = nI x := by
  unfold sr_isIn
  simp only [Bool.and_eq_true, decide_eq_true_eq, Int32.le_iff_toInt_le]
  constructor
  · intro h
    obtain ⟨x, hx, rfl⟩ := nI_of (x := v) (by rw [Int32.lt_iff_toInt_lt]; have e : (nI 1).toInt = 1 := by decide
                                              have e0 : (0 : Int32).toInt = 0 := rfl
                                              omega)
    rw [nI_toInt hx] at h
    have e1 : (nI 1).toInt = 1 := by decide
    have e3 : (nI 3).toInt = 3 := by decide
    exact ⟨x, by omega, by omega, rfl⟩
  · rintro ⟨x, h1, h3, rfl⟩
    have ex : (nI x).toInt = x := nI_toInt (by omega)
    rw [ex]
    have e1 : (nI 1).toInt = 1 := by decide
    have e3 : (nI 3).toInt = 3 := by decide
    omega
def md_nF (now : Nat → Int32) (n r k : Nat) : Nat → Nat → md_B → md_B := fun a b s => if sr_mt k a b = true then md_ms now n r a b s else s
def md_nx (now : Nat → Int32) (n r k : Nat) : md_B := sr_fa (md_nF now n r k) (2 ^ n) (2 ^ n - 1) (0, 0, 0, 0, 0)
def md_nxa (now : Nat → Int32) (n r k w : Nat) : Int64 :=
  if (md_nx now n r k).1 = 0 then -1 else if w = 0 then (nI (md_nx now n r k).1).toInt64 else if w = 1 then (nI (md_nx now n r k).2.1).toInt64 else if w = 2 then (nI (md_nx now n r k).2.2.1).toInt64
  else sr_told (lN (md_nx now n r k).2.2.2.1) (lN (md_nx now n r k).2.2.2.2) (if w = 4 then nI 1 else nI 0)
set_option maxHeartbeats 4000000 in
set_option maxRecDepth 100000 in
theorem c_X7_next (g : sr_G) (D : sr_St) (n r : Nat) (hlo : sr_logOk (D.1 64) n r) (hgood : md_good (n + 1) (md_P (D.1 64) n r)) (v w : Int32) (hmk : ∀ k a b, 0 < k → k < 4 → a < 64 → b < 64 → sr_mt k a b = true → 0 < a → a < 2 ^ n → b < 2 ^ n → md_mok (D.1 64) n r a b) : Con g M_X7_next [.ref 63, .int v, .int w] D (fun qa D' => qa = some (.long (if (sr_isIn v (nI 1) (nI 3) && sr_isIn w (nI 0) (nI 4)) = true then md_nxa (D.1 64) n r v.toNatClampNeg w.toNatClampNeg else -1)) ∧ sr_per D D') := by
  refine Con.of pn_X7_next (Nat.le_of_ble_eq_true rfl) ?_
  have hn := hlo.1.1
  have hn6 := hlo.1.2.1
  have hr := hlo.1.2.2.1
  have hr12 := hlo.1.2.2.2
  by_cases hok : (sr_isIn v (nI 1) (nI 3) && sr_isIn w (nI 0) (nI 4)) = true
  · obtain ⟨h1, h2⟩ := Bool.and_eq_true_iff.mp hok
    obtain ⟨x, hx1, hx3, rfl⟩ := sr_in13.mp h1
    obtain ⟨z, hz, rfl⟩ := (sr_in_n (n := 5) (by decide)).mp h2
    have hpw := sr_pw hn6
    have hpp := Nat.two_pow_pos n
    have h88 : ∀ E : sr_St, sr_per D E → md_bst E (md_nx (D.1 64) n r x) → WP g M_X7_next 88 [(0, .ref 63), (1, .int (nI x)), (2, .int (nI z))] [] E (fun qa D' => qa = some (.long (if (sr_isIn (nI x) (nI 1) (nI 3) && sr_isIn (nI z) (nI 0) (nI 4)) = true then md_nxa (D.1 64) n r (nI x).toNatClampNeg (nI z).toNatClampNeg else -1)) ∧ sr_per D D') := by
      intro E hper hbs
      have hb64 := hbs.2.1
      refine wp_aload_n dX7_next_88 rfl rfl ?_
      refine wp_getI_n (n := (md_nx (D.1 64) n r x).1) dX7_next_89 fl_X7_236 (by decide) rfl rfl (hbs.1) ?_
      refine wp_if_ne_n (tgt := 99) dX7_next_92 (by decide) (by first | omega | (split <;> omega)) (fun c828 => ?_) (fun c828 => ?_)
      · have h0 := c828
        have hB := hbs.2.2 h0
        refine wp_iload_n dX7_next_99 rfl rfl ?_
        by_cases hz0 : z = 0
        · subst hz0
          refine wp_tableIn (off := 28) (tgt := 128) dX7_next_100 (by decide) (by decide) rfl (by decide) ?_
          refine wp_aload_n dX7_next_128 rfl rfl ?_
          refine wp_getI_n (n := (md_nx (D.1 64) n r x).1) dX7_next_129 fl_X7_236 (by decide) rfl rfl (hbs.1) ?_
          refine wp_i2l dX7_next_132 ?_
          refine wp_lret dX7_next_133 rfl ⟨?_, hper⟩
          rw [if_pos hok, nI_clamp (by omega), nI_clamp (by omega)]
          unfold md_nxa
          rw [if_neg h0, if_pos rfl]
        by_cases hz1 : z = 1
        · subst hz1
          refine wp_tableIn (off := 34) (tgt := 134) dX7_next_100 (by decide) (by decide) rfl (by decide) ?_
          refine wp_aload_n dX7_next_134 rfl rfl ?_
          refine wp_getI_n (n := (md_nx (D.1 64) n r x).2.1) dX7_next_135 fl_X7_252 (by decide) rfl rfl (hB.1) ?_
          refine wp_i2l dX7_next_138 ?_
          refine wp_lret dX7_next_139 rfl ⟨?_, hper⟩
          rw [if_pos hok, nI_clamp (by omega), nI_clamp (by omega)]
          unfold md_nxa
          rw [if_neg h0, if_neg (by decide), if_pos rfl]
        by_cases hz2 : z = 2
        · subst hz2
          refine wp_tableIn (off := 40) (tgt := 140) dX7_next_100 (by decide) (by decide) rfl (by decide) ?_
          refine wp_aload_n dX7_next_140 rfl rfl ?_
          refine wp_getI_n (n := (md_nx (D.1 64) n r x).2.2.1) dX7_next_141 fl_X7_239 (by decide) rfl rfl (hB.2.1) ?_
          refine wp_i2l dX7_next_144 ?_
          refine wp_lret dX7_next_145 rfl ⟨?_, hper⟩
          rw [if_pos hok, nI_clamp (by omega), nI_clamp (by omega)]
          unfold md_nxa
          rw [if_neg h0, if_neg (by decide), if_neg (by decide), if_pos rfl]
        refine wp_tableOut (tgt := 146) dX7_next_100 (Or.inr (by rw [nI_toInt (by omega)]; omega)) (by decide) ?_
        refine wp_aload_n dX7_next_146 rfl rfl ?_
        refine wp_getJ dX7_next_147 fl_X7_242 (by decide) rfl rfl ?_
        rw [hB.2.2.1]
        refine wp_aload_n dX7_next_150 rfl rfl ?_
        refine wp_getJ dX7_next_151 fl_X7_245 (by decide) rfl rfl ?_
        rw [hB.2.2.2.1]
        refine wp_iload_n dX7_next_154 rfl rfl ?_
        refine wp_iconst (v := nI 4) dX7_next_155 rfl ?_
        refine wp_icmp_ne_n (tgt := 163) dX7_next_156 (by decide) (by first | omega | (split <;> omega)) (by first | omega | (split <;> omega)) (fun c829 => ?_) (fun c829 => ?_)
        · have hz4 := c829
          refine wp_iconst (v := nI 0) dX7_next_163 rfl ?_
          refine wp_callS (M2 := M_X7_told_) (n := 3) (As := [.long (lN (md_nx (D.1 64) n r x).2.2.2.1), .long (lN (md_nx (D.1 64) n r x).2.2.2.2), .int (nI 0)]) (st := []) dX7_next_164 (c_X7_told_ g E (lN (md_nx (D.1 64) n r x).2.2.2.1) (lN (md_nx (D.1 64) n r x).2.2.2.2) (nI 0) (sr_lpos hB.2.2.2.2.2.1) (sr_lpos hB.2.2.2.2.2.2.1) (fun zz => by rw [sr_lz hB.2.2.2.2.2.2.1] at zz; have := hB.2.2.2.2.2.2.2; omega)) ca_X7_196 ⟨nm_X7_told_, by decide, by decide⟩ rfl rfl (Nat.le_of_ble_eq_true rfl) (fun r830 E831 q832 => ?_)
          obtain ⟨rfl, rfl⟩ := q832
          show WP g _ _ _ (.long (sr_told (lN (md_nx (D.1 64) n r x).2.2.2.1) (lN (md_nx (D.1 64) n r x).2.2.2.2) (nI 0)) :: _) _ _
          refine wp_lret dX7_next_167 rfl ⟨?_, hper⟩
          rw [if_pos hok, nI_clamp (by omega), nI_clamp (by omega)]
          unfold md_nxa
          rw [if_neg h0, if_neg hz0, if_neg hz1, if_neg hz2, if_neg hz4]
        · have hz4 := c829
          refine wp_iconst (v := nI 1) dX7_next_159 rfl ?_
          refine wp_goto (tgt := 164) dX7_next_160 (by decide) ?_
          refine wp_callS (M2 := M_X7_told_) (n := 3) (As := [.long (lN (md_nx (D.1 64) n r x).2.2.2.1), .long (lN (md_nx (D.1 64) n r x).2.2.2.2), .int (nI 1)]) (st := []) dX7_next_164 (c_X7_told_ g E (lN (md_nx (D.1 64) n r x).2.2.2.1) (lN (md_nx (D.1 64) n r x).2.2.2.2) (nI 1) (sr_lpos hB.2.2.2.2.2.1) (sr_lpos hB.2.2.2.2.2.2.1) (fun zz => by rw [sr_lz hB.2.2.2.2.2.2.1] at zz; have := hB.2.2.2.2.2.2.2; omega)) ca_X7_196 ⟨nm_X7_told_, by decide, by decide⟩ rfl rfl (Nat.le_of_ble_eq_true rfl) (fun r833 E834 q835 => ?_)
          obtain ⟨rfl, rfl⟩ := q835
          show WP g _ _ _ (.long (sr_told (lN (md_nx (D.1 64) n r x).2.2.2.1) (lN (md_nx (D.1 64) n r x).2.2.2.2) (nI 1)) :: _) _ _
          refine wp_lret dX7_next_167 rfl ⟨?_, hper⟩
          rw [if_pos hok, nI_clamp (by omega), nI_clamp (by omega)]
          unfold md_nxa
          rw [if_neg h0, if_neg hz0, if_neg hz1, if_neg hz2, if_pos hz4]
      · have h0 := c828
        refine wp_ldc2 (v := -1) dX7_next_95 ct_X7_255 ?_
        refine wp_lret dX7_next_98 rfl ⟨?_, hper⟩
        rw [if_pos hok, nI_clamp (by omega), nI_clamp (by omega)]
        unfold md_nxa
        rw [if_pos h0]
    have hL : ∀ i, i ≤ 2 ^ n - 1 → ∀ E : sr_St, sr_per D E → md_bst E (sr_fa (md_nF (D.1 64) n r x) (2 ^ n) i (0, 0, 0, 0, 0)) → WP g M_X7_next 34 [(0, .ref 63), (1, .int (nI x)), (2, .int (nI z)), (3, .int (nI (1 + i)))] [] E (fun qa D' => qa = some (.long (if (sr_isIn (nI x) (nI 1) (nI 3) && sr_isIn (nI z) (nI 0) (nI 4)) = true then md_nxa (D.1 64) n r (nI x).toNatClampNeg (nI z).toNatClampNeg else -1)) ∧ sr_per D D') := by
      refine sr_up (fun i hi ih E hper hbs => ?_)
      have h82 : i < 2 ^ n - 1 → ∀ E : sr_St, sr_per D E → md_bst E (sr_fa (md_nF (D.1 64) n r x) (2 ^ n) (i + 1) (0, 0, 0, 0, 0)) → WP g M_X7_next 82 [(0, .ref 63), (1, .int (nI x)), (2, .int (nI z)), (3, .int (nI (1 + i)))] [] E (fun qa D' => qa = some (.long (if (sr_isIn (nI x) (nI 1) (nI 3) && sr_isIn (nI z) (nI 0) (nI 4)) = true then md_nxa (D.1 64) n r (nI x).toNatClampNeg (nI z).toNatClampNeg else -1)) ∧ sr_per D D') := by
        intro hin E hper hbs
        refine wp_iinc_n (b := 1) (lv' := [(0, .ref 63), (1, .int (nI x)), (2, .int (nI z)), (3, .int (nI (1 + (i + 1))))]) dX7_next_82 rfl rfl (by decide) rfl ?_
        refine wp_goto (tgt := 34) dX7_next_85 (by decide) ?_
        exact ih (by omega) E hper hbs
      have hI : i < 2 ^ n - 1 → ∀ j, j ≤ 2 ^ n - 1 → ∀ E : sr_St, sr_per D E → md_bst E (sr_fb (md_nF (D.1 64) n r x) (1 + i) j (sr_fa (md_nF (D.1 64) n r x) (2 ^ n) i (0, 0, 0, 0, 0))) → WP g M_X7_next 47 [(0, .ref 63), (1, .int (nI x)), (2, .int (nI z)), (3, .int (nI (1 + i))), (4, .int (nI (1 + j)))] [] E (fun qa D' => qa = some (.long (if (sr_isIn (nI x) (nI 1) (nI 3) && sr_isIn (nI z) (nI 0) (nI 4)) = true then md_nxa (D.1 64) n r (nI x).toNatClampNeg (nI z).toNatClampNeg else -1)) ∧ sr_per D D') := by
        intro hin
        refine sr_up (fun j hj ihj E hper hbs => ?_)
        refine wp_iload dX7_next_47 rfl ?_
        refine wp_iconst (v := nI 1) dX7_next_49 rfl ?_
        refine wp_aload_n dX7_next_50 rfl rfl ?_
        refine wp_callV (M2 := M_X7_n) (n := 0) (As := []) (st := [.int (nI 1), .int (nI (1 + j))]) dX7_next_51 (c_X7_n_n g E n (by rw [(hper).n64]; exact hn)) ca_X7_46 ⟨nm_X7_n, by decide, by decide⟩ rfl (by decide) rfl rfl rfl (Nat.le_of_ble_eq_true rfl) (fun r836 E837 q838 => ?_)
        obtain ⟨rfl, rfl⟩ := q838
        show WP g _ _ _ (.int (nI n) :: _) _ _
        refine wp_ishl_n dX7_next_54 (by omega) (sr_pw1 hn6) ?_
        refine wp_icmp_ge_n (tgt := 82) dX7_next_55 (by decide) (by first | omega | (split <;> omega)) (by first | omega | (split <;> omega)) (fun c839 => ?_) (fun c839 => ?_)
        · have hje : j = 2 ^ n - 1 := by omega
          rw [hje] at hbs
          exact wp_pick [0, 1, 2, 3] rfl (h82 hin E hper hbs)
        · refine wp_aload_n dX7_next_58 rfl rfl ?_
          refine wp_iload_n dX7_next_59 rfl rfl ?_
          refine wp_iload dX7_next_60 rfl ?_
          refine wp_iload_n dX7_next_62 rfl rfl ?_
          refine wp_callV (M2 := M_X7_isMatch) (n := 3) (As := [.int (nI (1 + i)), .int (nI (1 + j)), .int (nI x)]) (st := []) dX7_next_63 (c_X7_isMatch g E (1 + i) (1 + j) x (by omega) (by omega) (by omega)) ca_X7_257 ⟨nm_X7_isMatch, by decide, by decide⟩ rfl (by decide) rfl rfl rfl (Nat.le_of_ble_eq_true rfl) (fun r840 E841 q842 => ?_)
          obtain ⟨rfl, rfl⟩ := q842
          show WP g _ _ _ (.int (sr_b (sr_mt x (1 + i) (1 + j))) :: _) _ _
          refine wp_if_eq_b (tgt := 76) dX7_next_66 (by decide) (fun c843 => ?_) (fun c843 => ?_)
          · have hmt := c843
            refine wp_iinc_n (b := 1) (lv' := [(0, .ref 63), (1, .int (nI x)), (2, .int (nI z)), (3, .int (nI (1 + i))), (4, .int (nI (1 + (j + 1))))]) dX7_next_76 rfl rfl (by decide) rfl ?_
            refine wp_goto (tgt := 47) dX7_next_79 (by decide) ?_
            refine ihj (by omega) E (hper) ?_
            show md_bst E (md_nF (D.1 64) n r x (1 + i) (1 + j) (sr_fb (md_nF (D.1 64) n r x) (1 + i) j (sr_fa (md_nF (D.1 64) n r x) (2 ^ n) i (0, 0, 0, 0, 0))))
            unfold md_nF
            rw [if_neg (by rw [hmt]; decide)]
            exact hbs
          · have hmt := c843
            refine wp_aload_n dX7_next_69 rfl rfl ?_
            refine wp_iload_n dX7_next_70 rfl rfl ?_
            refine wp_iload dX7_next_71 rfl ?_
            refine wp_callV (M2 := M_X7_matched) (n := 2) (As := [.int (nI (1 + i)), .int (nI (1 + j))]) (st := []) dX7_next_73 (c_X7_matched g D E n r hlo hgood ((hper).n64) (1 + i) (1 + j) (by omega) (by omega) (by omega) _ hbs (hmk x _ _ (by omega) (by omega) (by omega) (by omega) hmt (by omega) (by omega) (by omega))) ca_X7_260 ⟨nm_X7_matched, by decide, by decide⟩ rfl (by decide) rfl rfl rfl (Nat.le_of_ble_eq_true rfl) (fun r844 E845 q846 => ?_)
            obtain ⟨rfl, p847, bs848, k849⟩ := q846
            show WP g _ _ _ _ _ _
            refine wp_iinc_n (b := 1) (lv' := [(0, .ref 63), (1, .int (nI x)), (2, .int (nI z)), (3, .int (nI (1 + i))), (4, .int (nI (1 + (j + 1))))]) dX7_next_76 rfl rfl (by decide) rfl ?_
            refine wp_goto (tgt := 47) dX7_next_79 (by decide) ?_
            refine ihj (by omega) E845 ((hper).tr p847) ?_
            show md_bst E845 (md_nF (D.1 64) n r x (1 + i) (1 + j) (sr_fb (md_nF (D.1 64) n r x) (1 + i) j (sr_fa (md_nF (D.1 64) n r x) (2 ^ n) i (0, 0, 0, 0, 0))))
            unfold md_nF
            rw [if_pos hmt]
            exact bs848
      refine wp_iload_n dX7_next_34 rfl rfl ?_
      refine wp_iconst (v := nI 1) dX7_next_35 rfl ?_
      refine wp_aload_n dX7_next_36 rfl rfl ?_
      refine wp_callV (M2 := M_X7_n) (n := 0) (As := []) (st := [.int (nI 1), .int (nI (1 + i))]) dX7_next_37 (c_X7_n_n g E n (by rw [(hper).n64]; exact hn)) ca_X7_46 ⟨nm_X7_n, by decide, by decide⟩ rfl (by decide) rfl rfl rfl (Nat.le_of_ble_eq_true rfl) (fun r850 E851 q852 => ?_)
      obtain ⟨rfl, rfl⟩ := q852
      show WP g _ _ _ (.int (nI n) :: _) _ _
      refine wp_ishl_n dX7_next_40 (by omega) (sr_pw1 hn6) ?_
      refine wp_icmp_ge_n (tgt := 88) dX7_next_41 (by decide) (by first | omega | (split <;> omega)) (by first | omega | (split <;> omega)) (fun c853 => ?_) (fun c853 => ?_)
      · have hie : i = 2 ^ n - 1 := by omega
        rw [hie] at hbs
        exact wp_pick [0, 1, 2] rfl (h88 E hper hbs)
      · refine wp_iconst (v := nI 1) dX7_next_44 rfl ?_
        refine wp_istore (lv' := [(0, .ref 63), (1, .int (nI x)), (2, .int (nI z)), (3, .int (nI (1 + i))), (4, .int (nI 1))]) dX7_next_45 (by decide) rfl ?_
        exact hI (by omega) 0 (by omega) E hper hbs
    refine wp_aload_n dX7_next_0 rfl rfl ?_
    refine wp_iconst (v := nI 0) dX7_next_1 rfl ?_
    refine wp_putI dX7_next_2 fl_X7_43 (by decide) rfl rfl ?_
    refine wp_D (fun D854 eD854 => ?_)
    have p855 : sr_per D D854 := by rw [eD854]; exact sr_per_th
    refine wp_iload_n dX7_next_5 rfl rfl ?_
    refine wp_iconst (v := nI 1) dX7_next_6 rfl ?_
    refine wp_iconst (v := nI 3) dX7_next_7 rfl ?_
    refine wp_callS (M2 := M_X7_isIn) (n := 3) (As := [.int (nI x), .int (nI 1), .int (nI 3)]) (st := []) dX7_next_8 (c_X7_isIn g D854 (nI x) (nI 1) (nI 3)) ca_X7_50 ⟨nm_X7_isIn, by decide, by decide⟩ rfl rfl (Nat.le_of_ble_eq_true rfl) (fun r856 E857 q858 => ?_)
    obtain ⟨rfl, rfl⟩ := q858
    show WP g _ _ _ (.int (sr_b (sr_isIn (nI x) (nI 1) (nI 3))) :: _) _ _
    refine wp_if_eq_b (tgt := 23) dX7_next_11 (by decide) (fun c859 => ?_) (fun c859 => ?_)
    · exact absurd h1 (by rw [c859]; decide)
    · refine wp_iload_n dX7_next_14 rfl rfl ?_
      refine wp_iconst (v := nI 0) dX7_next_15 rfl ?_
      refine wp_iconst (v := nI 4) dX7_next_16 rfl ?_
      refine wp_callS (M2 := M_X7_isIn) (n := 3) (As := [.int (nI z), .int (nI 0), .int (nI 4)]) (st := []) dX7_next_17 (c_X7_isIn g D854 (nI z) (nI 0) (nI 4)) ca_X7_50 ⟨nm_X7_isIn, by decide, by decide⟩ rfl rfl (Nat.le_of_ble_eq_true rfl) (fun r860 E861 q862 => ?_)
      obtain ⟨rfl, rfl⟩ := q862
      show WP g _ _ _ (.int (sr_b (sr_isIn (nI z) (nI 0) (nI 4))) :: _) _ _
      refine wp_if_ne_b (tgt := 27) dX7_next_20 (by decide) (fun c863 => ?_) (fun c863 => ?_)
      · refine wp_aload_n dX7_next_27 rfl rfl ?_
        refine wp_iconst (v := nI 0) dX7_next_28 rfl ?_
        refine wp_putI dX7_next_29 fl_X7_236 (by decide) rfl rfl ?_
        refine wp_D (fun D864 eD864 => ?_)
        have p865 : sr_per D854 D864 := by rw [eD864]; exact ⟨fun o a b c d => by simp [sr_sI, a], fun k a b c d e f => by simp [sr_sI_1, d], fun o a b c d e => rfl⟩
        have bs866 : md_bst D864 (0, 0, 0, 0, 0) := ⟨by rw [eD864, sr_sI_1, if_pos ⟨rfl, rfl⟩], Nat.zero_lt_succ _, fun h => absurd rfl h⟩
        refine wp_iconst (v := nI 1) dX7_next_32 rfl ?_
        refine wp_istore_n (lv' := [(0, .ref 63), (1, .int (nI x)), (2, .int (nI z)), (3, .int (nI 1))]) dX7_next_33 rfl (by decide) rfl ?_
        exact hL 0 (by omega) D864 (((sr_per.rf).tr p855).tr p865) bs866
      · exact absurd h2 (by rw [c863]; decide)
  · refine wp_aload_n dX7_next_0 rfl rfl ?_
    refine wp_iconst (v := nI 0) dX7_next_1 rfl ?_
    refine wp_putI dX7_next_2 fl_X7_43 (by decide) rfl rfl ?_
    refine wp_D (fun D867 eD867 => ?_)
    have p868 : sr_per D D867 := by rw [eD867]; exact sr_per_th
    refine wp_iload_n dX7_next_5 rfl rfl ?_
    refine wp_iconst (v := nI 1) dX7_next_6 rfl ?_
    refine wp_iconst (v := nI 3) dX7_next_7 rfl ?_
    refine wp_callS (M2 := M_X7_isIn) (n := 3) (As := [.int v, .int (nI 1), .int (nI 3)]) (st := []) dX7_next_8 (c_X7_isIn g D867 v (nI 1) (nI 3)) ca_X7_50 ⟨nm_X7_isIn, by decide, by decide⟩ rfl rfl (Nat.le_of_ble_eq_true rfl) (fun r869 E870 q871 => ?_)
    obtain ⟨rfl, rfl⟩ := q871
    show WP g _ _ _ (.int (sr_b (sr_isIn v (nI 1) (nI 3))) :: _) _ _
    refine wp_if_eq_b (tgt := 23) dX7_next_11 (by decide) (fun c872 => ?_) (fun c872 => ?_)
    · refine wp_ldc2 (v := -1) dX7_next_23 ct_X7_255 ?_
      refine wp_lret dX7_next_26 rfl ⟨?_, (sr_per.rf).tr p868⟩
      rw [if_neg hok]
    · have h1 := c872
      refine wp_iload_n dX7_next_14 rfl rfl ?_
      refine wp_iconst (v := nI 0) dX7_next_15 rfl ?_
      refine wp_iconst (v := nI 4) dX7_next_16 rfl ?_
      refine wp_callS (M2 := M_X7_isIn) (n := 3) (As := [.int w, .int (nI 0), .int (nI 4)]) (st := []) dX7_next_17 (c_X7_isIn g D867 w (nI 0) (nI 4)) ca_X7_50 ⟨nm_X7_isIn, by decide, by decide⟩ rfl rfl (Nat.le_of_ble_eq_true rfl) (fun r873 E874 q875 => ?_)
      obtain ⟨rfl, rfl⟩ := q875
      show WP g _ _ _ (.int (sr_b (sr_isIn w (nI 0) (nI 4))) :: _) _ _
      refine wp_if_ne_b (tgt := 27) dX7_next_20 (by decide) (fun c876 => ?_) (fun c876 => ?_)
      · exact absurd (by rw [h1, c876]; rfl) hok
      · refine wp_ldc2 (v := -1) dX7_next_23 ct_X7_255 ?_
        refine wp_lret dX7_next_26 rfl ⟨?_, (sr_per.rf).tr p868⟩
        rw [if_neg hok]
