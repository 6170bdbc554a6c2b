/-! ===== fewest ===== -/
/-- the tables with all differences, with all matches -/
def md_dP (now : Nat → Int32) (n r : Nat) : Nat → Nat → Int64
  | 0 => md_P now n r
  | i + 1 => sr_comesP (n + 1) (sr_dform 0 (1 + i)) (md_dP now n r i)
def md_aF (n k : Nat) : Nat → Nat → (Nat → Int64) → (Nat → Int64) := fun a b p => if sr_mt k a b = true then sr_comesP (n + 1) (sr_form n a b (nI 0)) p else p
def md_aP (now : Nat → Int32) (n r k : Nat) : Nat → Int64 := sr_fa (md_aF n k) (2 ^ n) (2 ^ n - 1) (md_P now n r)
def md_few (now : Nat → Int32) (n r k : Nat) : Int32 :=
  if md_r (n + 1) (md_aP now n r k) = md_r (n + 1) (md_dP now n r (n - 1)) ∨ md_r (n + 1) (md_P now n r) = md_r (n + 1) (md_dP now n r (n - 1)) then nI (md_r (n + 1) (md_dP now n r (n - 1))) - nI (md_r (n + 1) (md_P now n r)) else -1
theorem md_r_le {w : Nat} {p : Nat → Int64} (hw : w ≤ 7) : md_r w p ≤ w := (md_cols_ok (s := (md_tab w p (fun _ => 0) (fun _ => 0), 0, 1, fun _ => 0)) hw rfl (show ¬ (1 : Int64) = 0 by decide) w (Nat.le_refl _)).1
set_option maxHeartbeats 4000000 in
set_option maxRecDepth 100000 in
theorem c_X7_fewest (g : sr_G) (D : sr_St) (n r : Nat) (hlo : sr_logOk (D.1 64) n r) (hgood : md_good (n + 1) (md_P (D.1 64) n r)) (v : Int32) (hgd : md_good (n + 1) (md_dP (D.1 64) n r (n - 1))) (hga : ∀ k, 0 < k → k < 4 → md_good (n + 1) (md_aP (D.1 64) n r k)) : Con g M_X7_fewest [.ref 63, .int v] D (fun qa D' => qa = some (.int (if sr_isIn v (nI 1) (nI 3) = true then md_few (D.1 64) n r v.toNatClampNeg else -1)) ∧ sr_per D D') := by
  refine Con.of pn_X7_fewest (Nat.le_of_ble_eq_true rfl) ?_
  have hn := hlo.1.1
  have hn6 := hlo.1.2.1
  have hr := hlo.1.2.2.1
  have hr12 := hlo.1.2.2.2
  have hr1 := md_r_le (w := n + 1) (p := md_P (D.1 64) n r) (by omega)
  have hr2 := md_r_le (w := n + 1) (p := md_dP (D.1 64) n r (n - 1)) (by omega)
  by_cases hok : sr_isIn v (nI 1) (nI 3) = true
  · obtain ⟨x, hx1, hx3, rfl⟩ := sr_in13.mp hok
    have hr3 := md_r_le (w := n + 1) (p := md_aP (D.1 64) n r x) (by omega)
    have hpw := sr_pw hn6
    have hpp := Nat.two_pow_pos n
    have h130 : ∀ E : sr_St, sr_per D E → (∃ s, md_laid (n + 1) (md_aP (D.1 64) n r x) s E) → WP g M_X7_fewest 130 [(0, .ref 63), (1, .int (nI x)), (2, .int (nI (md_r (n + 1) (md_P (D.1 64) n r)))), (3, .int (nI (md_r (n + 1) (md_dP (D.1 64) n r (n - 1)))))] [] E (fun qa D' => qa = some (.int (if sr_isIn (nI x) (nI 1) (nI 3) = true then md_few (D.1 64) n r (nI x).toNatClampNeg else -1)) ∧ sr_per D D') := by
      intro E hper hla
      obtain ⟨s0, hla⟩ := hla
      refine wp_aload_n dX7_fewest_130 rfl rfl ?_
      refine wp_callV (M2 := M_X7_rankNow) (n := 0) (As := []) (st := []) dX7_fewest_131 (c_X7_rankNow g E n (by rw [(hper).n64]; exact hn) hn6 (md_aP (D.1 64) n r x) _ hla (hga x (by omega) (by omega))) ca_X7_227 ⟨nm_X7_rankNow, by decide, by decide⟩ rfl (by decide) rfl rfl rfl (Nat.le_of_ble_eq_true rfl) (fun r877 E878 q879 => ?_)
      rw [if_pos (md_kn_z (by omega)), (md_by_b (by omega)).2] at q879
      obtain ⟨rfl, k880, la881⟩ := q879
      show WP g _ _ _ (.int (nI (md_r (n + 1) (md_aP (D.1 64) n r x))) :: _) _ _
      refine wp_iload_n dX7_fewest_134 rfl rfl ?_
      refine wp_icmp_eq_n (tgt := 143) dX7_fewest_135 (by decide) (by first | omega | (split <;> omega)) (by first | omega | (split <;> omega)) (fun c882 => ?_) (fun c882 => ?_)
      · have he1 := c882
        refine wp_iload_n dX7_fewest_143 rfl rfl ?_
        refine wp_iload_n dX7_fewest_144 rfl rfl ?_
        refine wp_isub dX7_fewest_145 ?_
        refine wp_goto (tgt := 150) dX7_fewest_146 (by decide) ?_
        refine wp_iret dX7_fewest_150 rfl ⟨?_, (hper).tr k880.1⟩
        rw [if_pos hok, nI_clamp (by omega)]
        unfold md_few
        rw [if_pos (Or.inl he1)]
      · have he1 := c882
        refine wp_iload_n dX7_fewest_138 rfl rfl ?_
        refine wp_iload_n dX7_fewest_139 rfl rfl ?_
        refine wp_icmp_ne_n (tgt := 149) dX7_fewest_140 (by decide) (by first | omega | (split <;> omega)) (by first | omega | (split <;> omega)) (fun c883 => ?_) (fun c883 => ?_)
        · have he2 := c883
          refine wp_iconst (v := -1) dX7_fewest_149 rfl ?_
          refine wp_iret dX7_fewest_150 rfl ⟨?_, (hper).tr k880.1⟩
          rw [if_pos hok, nI_clamp (by omega)]
          unfold md_few
          rw [if_neg (fun z => z.elim he1 he2)]
        · have he2 := c883
          refine wp_iload_n dX7_fewest_143 rfl rfl ?_
          refine wp_iload_n dX7_fewest_144 rfl rfl ?_
          refine wp_isub dX7_fewest_145 ?_
          refine wp_goto (tgt := 150) dX7_fewest_146 (by decide) ?_
          refine wp_iret dX7_fewest_150 rfl ⟨?_, (hper).tr k880.1⟩
          rw [if_pos hok, nI_clamp (by omega)]
          unfold md_few
          rw [if_pos (Or.inr he2)]
    have hL : ∀ i, i ≤ 2 ^ n - 1 → ∀ E : sr_St, sr_per D E → (∃ s, md_laid (n + 1) (sr_fa (md_aF n x) (2 ^ n) i (md_P (D.1 64) n r)) s E) → WP g M_X7_fewest 64 [(0, .ref 63), (1, .int (nI x)), (2, .int (nI (md_r (n + 1) (md_P (D.1 64) n r)))), (3, .int (nI (md_r (n + 1) (md_dP (D.1 64) n r (n - 1))))), (4, .int (nI (1 + i)))] [] E (fun qa D' => qa = some (.int (if sr_isIn (nI x) (nI 1) (nI 3) = true then md_few (D.1 64) n r (nI x).toNatClampNeg else -1)) ∧ sr_per D D') := by
      refine sr_up (fun i hi ih E hper hla => ?_)
      have h124 : i < 2 ^ n - 1 → ∀ E : sr_St, sr_per D E → (∃ s, md_laid (n + 1) (sr_fa (md_aF n x) (2 ^ n) (i + 1) (md_P (D.1 64) n r)) s E) → WP g M_X7_fewest 124 [(0, .ref 63), (1, .int (nI x)), (2, .int (nI (md_r (n + 1) (md_P (D.1 64) n r)))), (3, .int (nI (md_r (n + 1) (md_dP (D.1 64) n r (n - 1))))), (4, .int (nI (1 + i)))] [] E (fun qa D' => qa = some (.int (if sr_isIn (nI x) (nI 1) (nI 3) = true then md_few (D.1 64) n r (nI x).toNatClampNeg else -1)) ∧ sr_per D D') := by
        intro hin E hper hla
        refine wp_iinc_n (b := 1) (lv' := [(0, .ref 63), (1, .int (nI x)), (2, .int (nI (md_r (n + 1) (md_P (D.1 64) n r)))), (3, .int (nI (md_r (n + 1) (md_dP (D.1 64) n r (n - 1))))), (4, .int (nI (1 + (i + 1))))]) dX7_fewest_124 rfl rfl (by decide) rfl ?_
        refine wp_goto (tgt := 64) dX7_fewest_127 (by decide) ?_
        exact ih (by omega) E hper hla
      have hI : i < 2 ^ n - 1 → ∀ j, j ≤ 2 ^ n - 1 → ∀ E : sr_St, sr_per D E → (∃ s, md_laid (n + 1) (sr_fb (md_aF n x) (1 + i) j (sr_fa (md_aF n x) (2 ^ n) i (md_P (D.1 64) n r))) s E) → WP g M_X7_fewest 78 [(0, .ref 63), (1, .int (nI x)), (2, .int (nI (md_r (n + 1) (md_P (D.1 64) n r)))), (3, .int (nI (md_r (n + 1) (md_dP (D.1 64) n r (n - 1))))), (4, .int (nI (1 + i))), (5, .int (nI (1 + j)))] [] E (fun qa D' => qa = some (.int (if sr_isIn (nI x) (nI 1) (nI 3) = true then md_few (D.1 64) n r (nI x).toNatClampNeg else -1)) ∧ sr_per D D') := by
        intro hin
        refine sr_up (fun j hj ihj E hper hla => ?_)
        obtain ⟨s0, hla⟩ := hla
        refine wp_iload dX7_fewest_78 rfl ?_
        refine wp_iconst (v := nI 1) dX7_fewest_80 rfl ?_
        refine wp_aload_n dX7_fewest_81 rfl rfl ?_
        refine wp_callV (M2 := M_X7_n) (n := 0) (As := []) (st := [.int (nI 1), .int (nI (1 + j))]) dX7_fewest_82 (c_X7_n_n g E n (by rw [(hper).n64]; exact hn)) ca_X7_46 ⟨nm_X7_n, by decide, by decide⟩ rfl (by decide) rfl rfl rfl (Nat.le_of_ble_eq_true rfl) (fun r884 E885 q886 => ?_)
        obtain ⟨rfl, rfl⟩ := q886
        show WP g _ _ _ (.int (nI n) :: _) _ _
        refine wp_ishl_n dX7_fewest_85 (by omega) (by omega) ?_
        refine wp_icmp_ge_n (tgt := 124) dX7_fewest_86 (by decide) (by first | omega | (split <;> omega)) (by first | omega | (split <;> omega)) (fun c887 => ?_) (fun c887 => ?_)
        · have hje : j = 2 ^ n - 1 := by omega
          rw [hje] at hla
          exact wp_pick [0, 1, 2, 3, 4] rfl (h124 hin E hper ⟨_, hla⟩)
        · refine wp_aload_n dX7_fewest_89 rfl rfl ?_
          refine wp_iload dX7_fewest_90 rfl ?_
          refine wp_iload dX7_fewest_92 rfl ?_
          refine wp_iload_n dX7_fewest_94 rfl rfl ?_
          refine wp_callV (M2 := M_X7_isMatch) (n := 3) (As := [.int (nI (1 + i)), .int (nI (1 + j)), .int (nI x)]) (st := []) dX7_fewest_95 (c_X7_isMatch g E (1 + i) (1 + j) x (by omega) (by omega) (by omega)) ca_X7_257 ⟨nm_X7_isMatch, by decide, by decide⟩ rfl (by decide) rfl rfl rfl (Nat.le_of_ble_eq_true rfl) (fun r888 E889 q890 => ?_)
          obtain ⟨rfl, rfl⟩ := q890
          show WP g _ _ _ (.int (sr_b (sr_mt x (1 + i) (1 + j))) :: _) _ _
          refine wp_if_ne_b (tgt := 104) dX7_fewest_98 (by decide) (fun c891 => ?_) (fun c891 => ?_)
          · have hmt := c891
            refine wp_aload_n dX7_fewest_104 rfl rfl ?_
            refine wp_iload dX7_fewest_105 rfl ?_
            refine wp_iload dX7_fewest_107 rfl ?_
            refine wp_iconst (v := nI 0) dX7_fewest_109 rfl ?_
            refine wp_callV (M2 := M_X7_formOf) (n := 3) (As := [.int (nI (1 + i)), .int (nI (1 + j)), .int (nI 0)]) (st := []) dX7_fewest_110 (c_form g E n (by rw [(hper).n64]; exact hn) (by omega) (1 + i) (1 + j) (by omega) (by omega) (nI 0)) ca_X7_149 ⟨nm_X7_formOf, by decide, by decide⟩ rfl (by decide) rfl rfl rfl (Nat.le_of_ble_eq_true rfl) (fun r892 E893 q894 => ?_)
            obtain ⟨rfl, p895, l896, f897, g898, o899⟩ := q894
            show WP g _ _ _ _ _ _
            have la900 := l896 _ _ _ hla
            refine wp_aload_n dX7_fewest_113 rfl rfl ?_
            refine wp_iconst (v := nI 0) dX7_fewest_114 rfl ?_
            refine wp_callV (M2 := M_X7_comes) (n := 1) (As := [.int (nI 0)]) (st := []) dX7_fewest_115 (c_comes g E893 (n + 1) _ _ (sr_form n (1 + i) (1 + j) (nI 0)) (nI 0) (by omega) la900 f897) ca_X7_153 ⟨nm_X7_comes, by decide, by decide⟩ rfl (by decide) rfl rfl rfl (Nat.le_of_ble_eq_true rfl) (fun r901 E902 q903 => ?_)
            obtain ⟨rfl, p904, la905, _, _⟩ := q903
            show WP g _ _ _ _ _ _
            refine wp_iinc_n (b := 1) (lv' := [(0, .ref 63), (1, .int (nI x)), (2, .int (nI (md_r (n + 1) (md_P (D.1 64) n r)))), (3, .int (nI (md_r (n + 1) (md_dP (D.1 64) n r (n - 1))))), (4, .int (nI (1 + i))), (5, .int (nI (1 + (j + 1))))]) dX7_fewest_118 rfl rfl (by decide) rfl ?_
            refine wp_goto (tgt := 78) dX7_fewest_121 (by decide) ?_
            refine ihj (by omega) E902 (((hper).tr p895).tr p904) ?_
            show ∃ s, md_laid (n + 1) (md_aF n x (1 + i) (1 + j) (sr_fb (md_aF n x) (1 + i) j (sr_fa (md_aF n x) (2 ^ n) i (md_P (D.1 64) n r)))) s E902
            rw [show md_aF n x (1 + i) (1 + j) (sr_fb (md_aF n x) (1 + i) j (sr_fa (md_aF n x) (2 ^ n) i (md_P (D.1 64) n r))) = _ from if_pos hmt]
            exact ⟨_, la905⟩
          · have hmt := c891
            refine wp_goto (tgt := 118) dX7_fewest_101 (by decide) ?_
            refine wp_iinc_n (b := 1) (lv' := [(0, .ref 63), (1, .int (nI x)), (2, .int (nI (md_r (n + 1) (md_P (D.1 64) n r)))), (3, .int (nI (md_r (n + 1) (md_dP (D.1 64) n r (n - 1))))), (4, .int (nI (1 + i))), (5, .int (nI (1 + (j + 1))))]) dX7_fewest_118 rfl rfl (by decide) rfl ?_
            refine wp_goto (tgt := 78) dX7_fewest_121 (by decide) ?_
            refine ihj (by omega) E (hper) ?_
            show ∃ s, md_laid (n + 1) (md_aF n x (1 + i) (1 + j) (sr_fb (md_aF n x) (1 + i) j (sr_fa (md_aF n x) (2 ^ n) i (md_P (D.1 64) n r)))) s E
            rw [show md_aF n x (1 + i) (1 + j) (sr_fb (md_aF n x) (1 + i) j (sr_fa (md_aF n x) (2 ^ n) i (md_P (D.1 64) n r))) = _ from if_neg (by rw [hmt]; decide)]
            exact ⟨_, hla⟩
      refine wp_iload dX7_fewest_64 rfl ?_
      refine wp_iconst (v := nI 1) dX7_fewest_66 rfl ?_
      refine wp_aload_n dX7_fewest_67 rfl rfl ?_
      refine wp_callV (M2 := M_X7_n) (n := 0) (As := []) (st := [.int (nI 1), .int (nI (1 + i))]) dX7_fewest_68 (c_X7_n_n g E n (by rw [(hper).n64]; exact hn)) ca_X7_46 ⟨nm_X7_n, by decide, by decide⟩ rfl (by decide) rfl rfl rfl (Nat.le_of_ble_eq_true rfl) (fun r906 E907 q908 => ?_)
      obtain ⟨rfl, rfl⟩ := q908
      show WP g _ _ _ (.int (nI n) :: _) _ _
      refine wp_ishl_n dX7_fewest_71 (by omega) (by omega) ?_
      refine wp_icmp_ge_n (tgt := 130) dX7_fewest_72 (by decide) (by first | omega | (split <;> omega)) (by first | omega | (split <;> omega)) (fun c909 => ?_) (fun c909 => ?_)
      · have hie : i = 2 ^ n - 1 := by omega
        rw [hie] at hla
        exact wp_pick [0, 1, 2, 3] rfl (h130 E hper hla)
      · refine wp_iconst (v := nI 1) dX7_fewest_75 rfl ?_
        refine wp_istore (lv' := [(0, .ref 63), (1, .int (nI x)), (2, .int (nI (md_r (n + 1) (md_P (D.1 64) n r)))), (3, .int (nI (md_r (n + 1) (md_dP (D.1 64) n r (n - 1))))), (4, .int (nI (1 + i))), (5, .int (nI 1))]) dX7_fewest_76 (by decide) rfl ?_
        exact hI (by omega) 0 (by omega) E hper hla
    have h52 : ∀ E : sr_St, sr_per D E → (∃ s, md_laid (n + 1) (md_dP (D.1 64) n r (n - 1)) s E) → WP g M_X7_fewest 52 [(0, .ref 63), (1, .int (nI x)), (2, .int (nI (md_r (n + 1) (md_P (D.1 64) n r))))] [] E (fun qa D' => qa = some (.int (if sr_isIn (nI x) (nI 1) (nI 3) = true then md_few (D.1 64) n r (nI x).toNatClampNeg else -1)) ∧ sr_per D D') := by
      intro E hper hla
      obtain ⟨s0, hla⟩ := hla
      refine wp_aload_n dX7_fewest_52 rfl rfl ?_
      refine wp_callV (M2 := M_X7_rankNow) (n := 0) (As := []) (st := []) dX7_fewest_53 (c_X7_rankNow g E n (by rw [(hper).n64]; exact hn) hn6 (md_dP (D.1 64) n r (n - 1)) _ hla hgd) ca_X7_227 ⟨nm_X7_rankNow, by decide, by decide⟩ rfl (by decide) rfl rfl rfl (Nat.le_of_ble_eq_true rfl) (fun r910 E911 q912 => ?_)
      rw [if_pos (md_kn_z (by omega)), (md_by_b (by omega)).2] at q912
      obtain ⟨rfl, k913, la914⟩ := q912
      show WP g _ _ _ (.int (nI (md_r (n + 1) (md_dP (D.1 64) n r (n - 1)))) :: _) _ _
      refine wp_istore_n (lv' := [(0, .ref 63), (1, .int (nI x)), (2, .int (nI (md_r (n + 1) (md_P (D.1 64) n r)))), (3, .int (nI (md_r (n + 1) (md_dP (D.1 64) n r (n - 1)))))]) dX7_fewest_56 rfl (by decide) rfl ?_
      refine wp_aload_n dX7_fewest_57 rfl rfl ?_
      refine wp_callV (M2 := M_X7_lays) (n := 0) (As := []) (st := []) dX7_fewest_58 (c_X7_lays g E911 n r (by rw [((hper).tr k913.1).n64]; exact hlo)) ca_X7_183 ⟨nm_X7_lays, by decide, by decide⟩ rfl (by decide) rfl rfl rfl (Nat.le_of_ble_eq_true rfl) (fun r915 E916 q917 => ?_)
      rw [((hper).tr k913.1).n64] at q917
      obtain ⟨rfl, p918, la919, h65920, h63921, g63922⟩ := q917
      show WP g _ _ _ _ _ _
      refine wp_iconst (v := nI 1) dX7_fewest_61 rfl ?_
      refine wp_istore (lv' := [(0, .ref 63), (1, .int (nI x)), (2, .int (nI (md_r (n + 1) (md_P (D.1 64) n r)))), (3, .int (nI (md_r (n + 1) (md_dP (D.1 64) n r (n - 1))))), (4, .int (nI 1))]) dX7_fewest_62 (by decide) rfl ?_
      exact hL 0 (by omega) E916 (((hper).tr k913.1).tr p918) ⟨_, la919⟩
    have hD : ∀ i, i ≤ n - 1 → ∀ E : sr_St, sr_per D E → (∃ s, md_laid (n + 1) (md_dP (D.1 64) n r i) s E) → WP g M_X7_fewest 27 [(0, .ref 63), (1, .int (nI x)), (2, .int (nI (md_r (n + 1) (md_P (D.1 64) n r)))), (3, .int (nI (1 + i)))] [] E (fun qa D' => qa = some (.int (if sr_isIn (nI x) (nI 1) (nI 3) = true then md_few (D.1 64) n r (nI x).toNatClampNeg else -1)) ∧ sr_per D D') := by
      refine sr_up (fun i hi ih E hper hla => ?_)
      obtain ⟨s0, hla⟩ := hla
      refine wp_iload_n dX7_fewest_27 rfl rfl ?_
      refine wp_aload_n dX7_fewest_28 rfl rfl ?_
      refine wp_callV (M2 := M_X7_n) (n := 0) (As := []) (st := [.int (nI (1 + i))]) dX7_fewest_29 (c_X7_n_n g E n (by rw [(hper).n64]; exact hn)) ca_X7_46 ⟨nm_X7_n, by decide, by decide⟩ rfl (by decide) rfl rfl rfl (Nat.le_of_ble_eq_true rfl) (fun r923 E924 q925 => ?_)
      obtain ⟨rfl, rfl⟩ := q925
      show WP g _ _ _ (.int (nI n) :: _) _ _
      refine wp_icmp_ge_n (tgt := 52) dX7_fewest_32 (by decide) (by first | omega | (split <;> omega)) (by first | omega | (split <;> omega)) (fun c926 => ?_) (fun c926 => ?_)
      · have hie : i = n - 1 := by omega
        rw [hie] at hla
        exact wp_pick [0, 1, 2] rfl (h52 E hper ⟨_, hla⟩)
      · refine wp_aload_n dX7_fewest_35 rfl rfl ?_
        refine wp_iconst (v := nI 0) dX7_fewest_36 rfl ?_
        refine wp_iload_n dX7_fewest_37 rfl rfl ?_
        refine wp_callV (M2 := M_X7_difference) (n := 2) (As := [.int (nI 0), .int (nI (1 + i))]) (st := []) dX7_fewest_38 (c_diff g E 0 (1 + i) (by omega) (by omega)) ca_X7_186 ⟨nm_X7_difference, by decide, by decide⟩ rfl (by decide) rfl rfl rfl (Nat.le_of_ble_eq_true rfl) (fun r927 E928 q929 => ?_)
        obtain ⟨rfl, p930, l931, f932, g933, o934⟩ := q929
        show WP g _ _ _ _ _ _
        have la935 := l931 _ _ _ hla
        refine wp_aload_n dX7_fewest_41 rfl rfl ?_
        refine wp_iconst (v := nI 0) dX7_fewest_42 rfl ?_
        refine wp_callV (M2 := M_X7_comes) (n := 1) (As := [.int (nI 0)]) (st := []) dX7_fewest_43 (c_comes g E928 (n + 1) _ _ (sr_dform 0 (1 + i)) (nI 0) (by omega) la935 f932) ca_X7_153 ⟨nm_X7_comes, by decide, by decide⟩ rfl (by decide) rfl rfl rfl (Nat.le_of_ble_eq_true rfl) (fun r936 E937 q938 => ?_)
        obtain ⟨rfl, p939, la940, _, _⟩ := q938
        show WP g _ _ _ _ _ _
        refine wp_iinc_n (b := 1) (lv' := [(0, .ref 63), (1, .int (nI x)), (2, .int (nI (md_r (n + 1) (md_P (D.1 64) n r)))), (3, .int (nI (1 + (i + 1))))]) dX7_fewest_46 rfl rfl (by decide) rfl ?_
        refine wp_goto (tgt := 27) dX7_fewest_49 (by decide) ?_
        exact ih (by omega) E937 (((hper).tr p930).tr p939) ⟨_, la940⟩
    refine wp_aload_n dX7_fewest_0 rfl rfl ?_
    refine wp_iconst (v := nI 0) dX7_fewest_1 rfl ?_
    refine wp_putI dX7_fewest_2 fl_X7_43 (by decide) rfl rfl ?_
    refine wp_D (fun D941 eD941 => ?_)
    have p942 : sr_per D D941 := by rw [eD941]; exact sr_per_th
    refine wp_iload_n dX7_fewest_5 rfl rfl ?_
    refine wp_iconst (v := nI 1) dX7_fewest_6 rfl ?_
    refine wp_iconst (v := nI 3) dX7_fewest_7 rfl ?_
    refine wp_callS (M2 := M_X7_isIn) (n := 3) (As := [.int (nI x), .int (nI 1), .int (nI 3)]) (st := []) dX7_fewest_8 (c_X7_isIn g D941 (nI x) (nI 1) (nI 3)) ca_X7_50 ⟨nm_X7_isIn, by decide, by decide⟩ rfl rfl (Nat.le_of_ble_eq_true rfl) (fun r943 E944 q945 => ?_)
    obtain ⟨rfl, rfl⟩ := q945
    show WP g _ _ _ (.int (sr_b (sr_isIn (nI x) (nI 1) (nI 3))) :: _) _ _
    refine wp_if_ne_b (tgt := 16) dX7_fewest_11 (by decide) (fun c946 => ?_) (fun c946 => ?_)
    · refine wp_aload_n dX7_fewest_16 rfl rfl ?_
      refine wp_callV (M2 := M_X7_lays) (n := 0) (As := []) (st := []) dX7_fewest_17 (c_X7_lays g D941 n r (by rw [((sr_per.rf).tr p942).n64]; exact hlo)) ca_X7_183 ⟨nm_X7_lays, by decide, by decide⟩ rfl (by decide) rfl rfl rfl (Nat.le_of_ble_eq_true rfl) (fun r947 E948 q949 => ?_)
      rw [((sr_per.rf).tr p942).n64] at q949
      obtain ⟨rfl, p950, la951, h65952, h63953, g63954⟩ := q949
      show WP g _ _ _ _ _ _
      refine wp_aload_n dX7_fewest_20 rfl rfl ?_
      refine wp_callV (M2 := M_X7_rankNow) (n := 0) (As := []) (st := []) dX7_fewest_21 (c_X7_rankNow g E948 n (by rw [(((sr_per.rf).tr p942).tr p950).n64]; exact hn) hn6 (md_P (D.1 64) n r) _ la951 hgood) ca_X7_227 ⟨nm_X7_rankNow, by decide, by decide⟩ rfl (by decide) rfl rfl rfl (Nat.le_of_ble_eq_true rfl) (fun r955 E956 q957 => ?_)
      rw [if_pos (md_kn_z (by omega)), (md_by_b (by omega)).2] at q957
      obtain ⟨rfl, k958, la959⟩ := q957
      show WP g _ _ _ (.int (nI (md_r (n + 1) (md_P (D.1 64) n r))) :: _) _ _
      refine wp_istore_n (lv' := [(0, .ref 63), (1, .int (nI x)), (2, .int (nI (md_r (n + 1) (md_P (D.1 64) n r))))]) dX7_fewest_24 rfl (by decide) rfl ?_
      refine wp_iconst (v := nI 1) dX7_fewest_25 rfl ?_
      refine wp_istore_n (lv' := [(0, .ref 63), (1, .int (nI x)), (2, .int (nI (md_r (n + 1) (md_P (D.1 64) n r)))), (3, .int (nI 1))]) dX7_fewest_26 rfl (by decide) rfl ?_
      exact hD 0 (by omega) E956 ((((sr_per.rf).tr p942).tr p950).tr k958.1) ⟨_, la959⟩
    · exact absurd hok (by rw [c946]; decide)
  · refine wp_aload_n dX7_fewest_0 rfl rfl ?_
    refine wp_iconst (v := nI 0) dX7_fewest_1 rfl ?_
    refine wp_putI dX7_fewest_2 fl_X7_43 (by decide) rfl rfl ?_
    refine wp_D (fun D960 eD960 => ?_)
    have p961 : sr_per D D960 := by rw [eD960]; exact sr_per_th
    refine wp_iload_n dX7_fewest_5 rfl rfl ?_
    refine wp_iconst (v := nI 1) dX7_fewest_6 rfl ?_
    refine wp_iconst (v := nI 3) dX7_fewest_7 rfl ?_
    refine wp_callS (M2 := M_X7_isIn) (n := 3) (As := [.int v, .int (nI 1), .int (nI 3)]) (st := []) dX7_fewest_8 (c_X7_isIn g D960 v (nI 1) (nI 3)) ca_X7_50 ⟨nm_X7_isIn, by decide, by decide⟩ rfl rfl (Nat.le_of_ble_eq_true rfl) (fun r962 E963 q964 => ?_)
    obtain ⟨rfl, rfl⟩ := q964
    show WP g _ _ _ (.int (sr_b (sr_isIn v (nI 1) (nI 3))) :: _) _ _
    refine wp_if_ne_b (tgt := 16) dX7_fewest_11 (by decide) (fun c965 => ?_) (fun c965 => ?_)
    · exact absurd c965 hok
    · refine wp_iconst (v := -1) dX7_fewest_14 rfl ?_
      refine wp_iret dX7_fewest_15 rfl ⟨?_, (sr_per.rf).tr p961⟩
      rw [if_neg hok]
