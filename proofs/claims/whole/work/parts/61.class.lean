/-! ===== trials ===== -/
theorem fr.pr {D E : sr_St} (h : fr 36 D E) : cl_pr D E := ⟨fun o _ _ => by rw [h.1], fun o ho => h.2 o (by omega)⟩
theorem cl_fs.pr {D E : sr_St} (h : cl_fs 35 45 54 D E) : cl_pr D E := ⟨fun o a b => by funext z; exact h.1 o z (by omega) (by omega), fun o ho => h.2 o (by omega) (by omega)⟩
/-- forms only -/
def cl_f0 (Y : cl_T) : cl_T := fun a c => if a < 7 ∧ c < 7 then Y a c else 0
/-- what stays of the lists and the choice -/
def cl_kc (D E : sr_St) : Prop := E.1 59 = D.1 59 ∧ E.1 61 = D.1 61 ∧ E.1 62 = D.1 62 ∧ E.2 57 = D.2 57 ∧ E.2 58 = D.2 58 ∧ E.2 60 = D.2 60
theorem cl_kc.rf {D : sr_St} : cl_kc D D := ⟨rfl, rfl, rfl, rfl, rfl, rfl⟩
theorem cl_kc.tr {D E F : sr_St} (h : cl_kc D E) (k : cl_kc E F) : cl_kc D F := ⟨k.1.trans h.1, k.2.1.trans h.2.1, k.2.2.1.trans h.2.2.1, k.2.2.2.1.trans h.2.2.2.1, k.2.2.2.2.1.trans h.2.2.2.2.1, k.2.2.2.2.2.trans h.2.2.2.2.2⟩
theorem fr.kc {D E : sr_St} (h : fr 36 D E) : cl_kc D E := ⟨by rw [h.1], by rw [h.1], by rw [h.1], h.2 57 (by decide), h.2 58 (by decide), h.2 60 (by decide)⟩
theorem cl_fs.kc {D E : sr_St} (h : cl_fs 35 45 54 D E) : cl_kc D E := ⟨by funext z; exact h.1 59 z (by decide) (by omega), by funext z; exact h.1 61 z (by decide) (by omega), by funext z; exact h.1 62 z (by decide) (by omega), h.2 57 (by decide) (by decide), h.2 58 (by decide) (by decide), h.2 60 (by decide) (by decide)⟩
theorem cl_fa.kc {D E : sr_St} (h : cl_fa 55 D E) : cl_kc D E := ⟨h.2 59 (by decide), h.2 61 (by decide), h.2 62 (by decide), by rw [h.1], by rw [h.1], by rw [h.1]⟩
theorem cl_kc.lat {D E : sr_St} {L : cl_L} (h : cl_kc D E) (k : cl_lat D L) : cl_lat E L := fun i hi => by rw [h.2.1, h.2.2.1]; exact k i hi
theorem mx_ext {b : Nat} {D : sr_St} {X Y : cl_T} (h : mx b D X) (k : ∀ i j, i < 8 → j < 8 → X i j = Y i j) : mx b D Y := fun i j hi hj => (h i j hi hj).trans (k i j hi hj)
/-- the tables and how many were added -/
def cl_fw (Y : cl_T) (L : cl_L) : Nat → cl_T × Nat
  | 0 => (cl_f0 Y, 0)
  | m + 1 => if cl_kn (cl_fw Y L m).1 (cl_mf L m) = true then cl_fw Y L m else (cl_inc (nI 1) (cl_mf L m) (cl_fw Y L m).1, (cl_fw Y L m).2 + 1)
theorem cl_fw_le {Y : cl_T} {L : cl_L} : ∀ m, (cl_fw Y L m).2 ≤ m
  | 0 => Nat.le_refl _
  | m + 1 => by
    have := cl_fw_le (Y := Y) (L := L) m
    unfold cl_fw
    split
    · omega
    · show _ + 1 ≤ _; omega
def cl_few (Y : cl_T) (n : Nat) (L : cl_L) : Int32 := if (cl_cs (cl_fw Y L L.length).1 n n).1 = n * (n - 1) / 2 then nI (cl_fw Y L L.length).2 else -1
theorem cl_tri : ∀ n, n ≤ 6 → nI n * (nI n - nI 1) / nI 2 = nI (n * (n - 1) / 2) := by
  have h : ∀ n, n < 7 → nI n * (nI n - nI 1) / nI 2 = nI (n * (n - 1) / 2) := by decide +kernel
  intro n hn; exact h n (by omega)
set_option maxHeartbeats 400000 in
set_option maxRecDepth 100000 in
theorem c_X6_fewest (g : sr_G) (D : sr_St) (now : Nat → Int32) (n r : Nat) (hci : CI now n r D) (k : Int32) : Con g M_X6_fewest [.ref 0, .int k] D (fun qa D' => qa = some (.int (if sr_isIn k (nI 1) (nI 3) = true then cl_few (cl_G now r) n (cl_ml n k) else -1)) ∧ cl_pr D D') := by
  refine Con.of pn_X6_fewest (Nat.le_of_ble_eq_true rfl) ?_
  show WP g M_X6_fewest 0 [(0, .ref 0), (1, .int k)] [] D _
  have hn6 := hci.n6
  have hr12 := hci.r12
  have hl45 : (cl_ml n k).length ≤ 45 := cl_fa_len _
  by_cases hok : sr_isIn k (nI 1) (nI 3) = true
  · have hL : ∀ m, m ≤ (cl_ml n k).length → ∀ E : sr_St, cl_pr D E → cl_lat E (cl_ml n k) → mx 36 E (cl_fw (cl_G now r) (cl_ml n k) m).1 → cl_ok 35 45 54 (cl_fw (cl_G now r) (cl_ml n k) m).1 E → WP g M_X6_fewest 41 [(0, .ref 0), (1, .int k), (2, .int (nI ((cl_ml n k).length))), (3, .int (nI ((cl_fw (cl_G now r) (cl_ml n k) m).2))), (4, .int (nI m))] [] E (fun qa D' => qa = some (.int (if sr_isIn k (nI 1) (nI 3) = true then cl_few (cl_G now r) n (cl_ml n k) else -1)) ∧ cl_pr D D') := by
      refine sr_up (fun m hm ih E hpr hla hg hok1 => ?_)
      have h64 := fun h : m < (cl_ml n k).length => cl_ml_lt hn6 h
      have hfl := cl_fw_le (Y := (cl_G now r)) (L := (cl_ml n k)) m
      have hnn : n * (n - 1) ≤ 6 * 5 := Nat.mul_le_mul hn6 (by omega)
      have hcs := cl_cs_le (Y := (cl_fw (cl_G now r) (cl_ml n k) m).1) (n := n) n
      have hnq : n * n ≤ 6 * 6 := Nat.mul_le_mul hn6 hn6
      refine wp_iload dX6_fewest_41 rfl ?_
      refine wp_iload_n dX6_fewest_43 rfl rfl ?_
      refine wp_icmp_ge_n (tgt := 104) dX6_fewest_44 (by decide) (by first | omega | (split <;> omega)) (by first | omega | (split <;> omega)) (fun c670 => ?_) (fun c670 => ?_)
      · refine wp_aload_n dX6_fewest_104 rfl rfl ?_
        refine wp_getR (r := 1) dX6_fewest_105 fl_X6_10 (by decide) rfl rfl rfl ?_
        refine wp_getI_n (n := n) dX6_fewest_108 fl_X6_132 (by decide) rfl rfl ((hci.pr hpr).2.1.1) ?_
        refine wp_aload_n dX6_fewest_111 rfl rfl ?_
        refine wp_getR (r := 1) dX6_fewest_112 fl_X6_10 (by decide) rfl rfl rfl ?_
        refine wp_getI_n (n := n) dX6_fewest_115 fl_X6_132 (by decide) rfl rfl ((hci.pr hpr).2.1.1) ?_
        refine wp_iconst (v := nI 1) dX6_fewest_118 rfl ?_
        refine wp_isub dX6_fewest_119 ?_
        refine wp_imul dX6_fewest_120 ?_
        refine wp_iconst (v := nI 2) dX6_fewest_121 rfl ?_
        refine wp_idiv dX6_fewest_122 (by decide) ?_
        rw [show ((nI n) * ((nI n) - (nI 1))) / (nI 2) = nI (n * (n - 1) / 2) from cl_tri n hn6]
        refine wp_istore (lv' := [(0, .ref 0), (1, .int k), (2, .int (nI ((cl_ml n k).length))), (3, .int (nI ((cl_fw (cl_G now r) (cl_ml n k) m).2))), (4, .int (nI (n * (n - 1) / 2)))]) dX6_fewest_123 (by decide) rfl ?_
        refine wp_aload_n dX6_fewest_125 rfl rfl ?_
        refine wp_getR (r := 35) dX6_fewest_126 fl_X6_30 (by decide) rfl rfl rfl ?_
        refine wp_aload_n dX6_fewest_129 rfl rfl ?_
        refine wp_getR (r := 1) dX6_fewest_130 fl_X6_10 (by decide) rfl rfl rfl ?_
        refine wp_getI_n (n := n) dX6_fewest_133 fl_X6_132 (by decide) rfl rfl ((hci.pr hpr).2.1.1) ?_
        refine wp_callV (M2 := M_X1_couplesKnown) (n := 1) (As := [.int (nI n)]) (st := []) dX6_fewest_136 (c_X1_couplesKnown35 g E ((cl_fw (cl_G now r) (cl_ml n k) m).1) hok1 n (by omega)) ca_X6_135 ⟨nm_X1_couplesKnown, by decide, by decide⟩ rfl (by decide) rfl rfl rfl (Nat.le_of_ble_eq_true rfl) (fun r671 E672 q673 => ?_)
        obtain ⟨rfl, fa674⟩ := q673
        show WP g _ _ _ (.int (nI ((cl_cs ((cl_fw (cl_G now r) (cl_ml n k) m).1) n n).1)) :: _) _ _
        have ok675 := cl_ok_fa hok1 fa674 (by decide) (by decide)
        have pr676 : cl_pr D E672 := (hpr).tr fa674.pr2
        have kc677 := (cl_kc.rf).tr fa674.kc
        refine wp_iload dX6_fewest_139 rfl ?_
        refine wp_icmp_ne_n (tgt := 148) dX6_fewest_141 (by decide) (by first | omega | (split <;> omega)) (by first | omega | (split <;> omega)) (fun c678 => ?_) (fun c678 => ?_)
        · have hcc := c678
          refine wp_iconst (v := -1) dX6_fewest_148 rfl ?_
          refine wp_iret dX6_fewest_149 rfl ⟨?_, pr676⟩
          have hme : m = (cl_ml n k).length := by omega
          rw [hme] at hcc
          rw [if_pos hok]
          unfold cl_few
          rw [if_neg hcc]
        · have hcc := c678
          refine wp_iload_n dX6_fewest_144 rfl rfl ?_
          refine wp_goto (tgt := 149) dX6_fewest_145 (by decide) ?_
          refine wp_iret dX6_fewest_149 rfl ⟨?_, pr676⟩
          have hme : m = (cl_ml n k).length := by omega
          rw [hme] at hcc
          rw [if_pos hok]
          unfold cl_few
          rw [if_pos hcc, hme]
      · refine wp_aload_n dX6_fewest_47 rfl rfl ?_
        refine wp_getR (r := 35) dX6_fewest_48 fl_X6_30 (by decide) rfl rfl rfl ?_
        refine wp_aload_n dX6_fewest_51 rfl rfl ?_
        refine wp_getR (r := 61) dX6_fewest_52 fl_X6_53 (by decide) rfl rfl rfl ?_
        refine wp_iload dX6_fewest_55 rfl ?_
        refine wp_iald dX6_fewest_57 (by decide) rfl (show _ < 45 by omega) (by first | omega | (split <;> omega)) ?_
        rw [(hla m (by omega)).1]
        refine wp_aload_n dX6_fewest_58 rfl rfl ?_
        refine wp_getR (r := 62) dX6_fewest_59 fl_X6_57 (by decide) rfl rfl rfl ?_
        refine wp_iload dX6_fewest_62 rfl ?_
        refine wp_iald dX6_fewest_64 (by decide) rfl (show _ < 45 by omega) (by first | omega | (split <;> omega)) ?_
        rw [(hla m (by omega)).2]
        refine wp_iconst (v := nI 0) dX6_fewest_65 rfl ?_
        refine wp_iconst (v := nI 0) dX6_fewest_66 rfl ?_
        refine wp_callV (M2 := M_X1_load) (n := 4) (As := [.int (nI (((cl_ml n k).getD m (0, 0)).1)), .int (nI (((cl_ml n k).getD m (0, 0)).2)), .int (nI 0), .int (nI 0)]) (st := []) dX6_fewest_67 (c_X1_load35 g E (((cl_ml n k).getD m (0, 0)).1) (((cl_ml n k).getD m (0, 0)).2) (by omega) (by omega) (nI 0) (nI 0)) ca_X6_250 ⟨nm_X1_load, by decide, by decide⟩ rfl (by decide) rfl rfl rfl (Nat.le_of_ble_eq_true rfl) (fun r679 E680 q681 => ?_)
        obtain ⟨rfl, hf682, fa683⟩ := q681
        show WP g _ _ _ _ _ _
        have hf684 : ∀ z, z < 8 → E680.1 55 z = (cl_mf (cl_ml n k) m) z := hf682
        have g685 : mx 36 E680 ((cl_fw (cl_G now r) (cl_ml n k) m).1) := fun i j hi hj => by rw [fa683.1]; exact hg i j hi hj
        have ok686 := cl_ok_fa hok1 fa683 (by decide) (by decide)
        have pr687 : cl_pr D E680 := (hpr).tr fa683.pr2
        have kc688 := (cl_kc.rf).tr fa683.kc
        refine wp_aload_n dX6_fewest_70 rfl rfl ?_
        refine wp_getR (r := 35) dX6_fewest_71 fl_X6_30 (by decide) rfl rfl rfl ?_
        refine wp_callV (M2 := M_X1_isKnown) (n := 0) (As := []) (st := []) dX6_fewest_74 (c_X1_isKnown35 g E680 ((cl_fw (cl_G now r) (cl_ml n k) m).1) ok686 (cl_mf (cl_ml n k) m) hf684) ca_X6_253 ⟨nm_X1_isKnown, by decide, by decide⟩ rfl (by decide) rfl rfl rfl (Nat.le_of_ble_eq_true rfl) (fun r689 E690 q691 => ?_)
        obtain ⟨rfl, rfl⟩ := q691
        show WP g _ _ _ (.int (sr_b (cl_kn ((cl_fw (cl_G now r) (cl_ml n k) m).1) (cl_mf (cl_ml n k) m))) :: _) _ _
        refine wp_if_ne_b (tgt := 98) dX6_fewest_77 (by decide) (fun c692 => ?_) (fun c692 => ?_)
        · have hkn := c692
          refine wp_iinc_n (b := 1) (lv' := [(0, .ref 0), (1, .int k), (2, .int (nI ((cl_ml n k).length))), (3, .int (nI ((cl_fw (cl_G now r) (cl_ml n k) m).2))), (4, .int (nI (m + 1)))]) dX6_fewest_98 rfl rfl (by decide) rfl ?_
          refine wp_goto (tgt := 41) dX6_fewest_101 (by decide) ?_
          have hS : cl_fw (cl_G now r) (cl_ml n k) (m + 1) = _ := if_pos hkn
          have h := ih (by omega) E680 pr687 (kc688.lat hla)
          rw [hS] at h
          try dsimp only at h
          exact h g685 ok686
        · have hkn := c692
          refine wp_aload_n dX6_fewest_80 rfl rfl ?_
          refine wp_getR (r := 35) dX6_fewest_81 fl_X6_30 (by decide) rfl rfl rfl ?_
          refine wp_iconst (v := nI 1) dX6_fewest_84 rfl ?_
          refine wp_callV (M2 := M_X1_include) (n := 1) (As := [.int (nI 1)]) (st := []) dX6_fewest_85 (c_X1_include35 g E680 (nI 1) ((cl_fw (cl_G now r) (cl_ml n k) m).1) g685) ca_X6_256 ⟨nm_X1_include, by decide, by decide⟩ rfl (by decide) rfl rfl rfl (Nat.le_of_ble_eq_true rfl) (fun r693 E694 q695 => ?_)
          obtain ⟨rfl, g696, f697⟩ := q695
          show WP g _ _ _ _ _ _
          have g698 : mx 36 E694 (cl_inc (nI 1) (cl_mf (cl_ml n k) m) ((cl_fw (cl_G now r) (cl_ml n k) m).1)) := mx_ext g696 (fun i j hi hj => by rw [hf684 i hi, hf684 j hj]; rfl)
          have pr699 : cl_pr D E694 := (pr687).tr f697.pr
          have kc700 := (kc688).tr f697.kc
          refine wp_aload_n dX6_fewest_88 rfl rfl ?_
          refine wp_getR (r := 35) dX6_fewest_89 fl_X6_30 (by decide) rfl rfl rfl ?_
          refine wp_callV (M2 := M_X1_solve) (n := 0) (As := []) (st := []) dX6_fewest_92 (c_X1_solve35 g E694 (cl_inc (nI 1) (cl_mf (cl_ml n k) m) ((cl_fw (cl_G now r) (cl_ml n k) m).1)) g698) ca_X6_244 ⟨nm_X1_solve, by decide, by decide⟩ rfl (by decide) rfl rfl rfl (Nat.le_of_ble_eq_true rfl) (fun r701 E702 q703 => ?_)
          obtain ⟨rfl, ok704, f705⟩ := q703
          show WP g _ _ _ _ _ _
          have g706 : mx 36 E702 (cl_inc (nI 1) (cl_mf (cl_ml n k) m) ((cl_fw (cl_G now r) (cl_ml n k) m).1)) := mx_cong g698 (fun o _ _ => f705.2 o (by omega) (by omega))
          have pr707 : cl_pr D E702 := (pr699).tr f705.pr
          have kc708 := (kc700).tr f705.kc
          refine wp_iinc_n (b := 1) (lv' := [(0, .ref 0), (1, .int k), (2, .int (nI ((cl_ml n k).length))), (3, .int (nI ((cl_fw (cl_G now r) (cl_ml n k) m).2 + 1))), (4, .int (nI m))]) dX6_fewest_95 rfl rfl (by decide) rfl ?_
          refine wp_iinc_n (b := 1) (lv' := [(0, .ref 0), (1, .int k), (2, .int (nI ((cl_ml n k).length))), (3, .int (nI ((cl_fw (cl_G now r) (cl_ml n k) m).2 + 1))), (4, .int (nI (m + 1)))]) dX6_fewest_98 rfl rfl (by decide) rfl ?_
          refine wp_goto (tgt := 41) dX6_fewest_101 (by decide) ?_
          have hS : cl_fw (cl_G now r) (cl_ml n k) (m + 1) = _ := if_neg (by rw [hkn]; decide)
          have h := ih (by omega) E702 pr707 (kc708.lat hla)
          rw [hS] at h
          try dsimp only at h
          exact h g706 ok704
    refine wp_iload_n dX6_fewest_0 rfl rfl ?_
    refine wp_iconst (v := nI 1) dX6_fewest_1 rfl ?_
    refine wp_icmp_lt (tgt := 10) dX6_fewest_2 (by decide) (fun c709 => ?_) (fun c709 => ?_)
    · exact absurd hok (by rw [show sr_isIn k (nI 1) (nI 3) = false from sr_in_f1 c709]; decide)
    · refine wp_iload_n dX6_fewest_5 rfl rfl ?_
      refine wp_iconst (v := nI 3) dX6_fewest_6 rfl ?_
      refine wp_icmp_le (tgt := 12) dX6_fewest_7 (by decide) (fun c710 => ?_) (fun c710 => ?_)
      · refine wp_aload_n dX6_fewest_12 rfl rfl ?_
        refine wp_getR (r := 35) dX6_fewest_13 fl_X6_30 (by decide) rfl rfl rfl ?_
        refine wp_aload_n dX6_fewest_16 rfl rfl ?_
        refine wp_getR (r := 14) dX6_fewest_17 fl_X6_26 (by decide) rfl rfl rfl ?_
        refine wp_callV (M2 := M_X1_copyForms) (n := 1) (As := [.ref 14]) (st := []) dX6_fewest_20 (c_X1_copyForms g D (cl_G now r) hci.2.2.1) ca_X6_240 ⟨nm_X1_copyForms, by decide, by decide⟩ rfl (by decide) rfl rfl rfl (Nat.le_of_ble_eq_true rfl) (fun r711 E712 q713 => ?_)
        obtain ⟨rfl, g714, f715⟩ := q713
        show WP g _ _ _ _ _ _
        have pr716 : cl_pr D E712 := (cl_pr.rf).tr f715.pr
        have kc717 := (cl_kc.rf).tr f715.kc
        refine wp_aload_n dX6_fewest_23 rfl rfl ?_
        refine wp_getR (r := 35) dX6_fewest_24 fl_X6_30 (by decide) rfl rfl rfl ?_
        refine wp_callV (M2 := M_X1_solve) (n := 0) (As := []) (st := []) dX6_fewest_27 (c_X1_solve35 g E712 (cl_f0 (cl_G now r)) g714) ca_X6_244 ⟨nm_X1_solve, by decide, by decide⟩ rfl (by decide) rfl rfl rfl (Nat.le_of_ble_eq_true rfl) (fun r718 E719 q720 => ?_)
        obtain ⟨rfl, ok721, f722⟩ := q720
        show WP g _ _ _ _ _ _
        have g723 : mx 36 E719 (cl_f0 (cl_G now r)) := mx_cong g714 (fun o _ _ => f722.2 o (by omega) (by omega))
        have pr724 : cl_pr D E719 := (pr716).tr f722.pr
        have kc725 := (kc717).tr f722.kc
        refine wp_aload_n dX6_fewest_30 rfl rfl ?_
        refine wp_iload_n dX6_fewest_31 rfl rfl ?_
        refine wp_callV (M2 := M_X6_listMatches) (n := 1) (As := [.int k]) (st := []) dX6_fewest_32 (c_X6_listMatches g E719 n (hci.pr pr724).2.1.1 hn6 k) ca_X6_247 ⟨nm_X6_listMatches, by decide, by decide⟩ rfl (by decide) rfl rfl rfl (Nat.le_of_ble_eq_true rfl) (fun r726 E727 q728 => ?_)
        obtain ⟨rfl, hla0, hpl0⟩ := q728
        show WP g _ _ _ (.int (nI ((cl_ml n k).length)) :: _) _ _
        have g0 : mx 36 E727 (cl_f0 (cl_G now r)) := mx_cong g723 (fun o _ _ => by rw [hpl0.2])
        have ok0 : cl_ok 35 45 54 (cl_f0 (cl_G now r)) E727 := ⟨mx_cong ok721.1 (fun o _ _ => by rw [hpl0.2]), by rw [hpl0.2]; exact ok721.2.1, by rw [hpl0.1 35 (by decide) (by decide)]; exact ok721.2.2.1, fun z hz => by rw [hpl0.1 54 (by decide) (by decide)]; exact ok721.2.2.2 z hz⟩
        have pr729 := (pr724).tr hpl0.pr
        refine wp_istore_n (lv' := [(0, .ref 0), (1, .int k), (2, .int (nI ((cl_ml n k).length)))]) dX6_fewest_35 rfl (by decide) rfl ?_
        refine wp_iconst (v := nI 0) dX6_fewest_36 rfl ?_
        refine wp_istore_n (lv' := [(0, .ref 0), (1, .int k), (2, .int (nI ((cl_ml n k).length))), (3, .int (nI 0))]) dX6_fewest_37 rfl (by decide) rfl ?_
        refine wp_iconst (v := nI 0) dX6_fewest_38 rfl ?_
        refine wp_istore (lv' := [(0, .ref 0), (1, .int k), (2, .int (nI ((cl_ml n k).length))), (3, .int (nI 0)), (4, .int (nI 0))]) dX6_fewest_39 (by decide) rfl ?_
        exact hL 0 (by omega) E727 (pr729) hla0 g0 ok0
      · exact absurd hok (by rw [show sr_isIn k (nI 1) (nI 3) = false from sr_in_f2 (by rw [Int32.lt_iff_toInt_lt]; rw [Int32.le_iff_toInt_le] at c710; omega)]; decide)
  · refine wp_iload_n dX6_fewest_0 rfl rfl ?_
    refine wp_iconst (v := nI 1) dX6_fewest_1 rfl ?_
    refine wp_icmp_lt (tgt := 10) dX6_fewest_2 (by decide) (fun c730 => ?_) (fun c730 => ?_)
    · refine wp_iconst (v := -1) dX6_fewest_10 rfl ?_
      refine wp_iret dX6_fewest_11 rfl ⟨?_, cl_pr.rf⟩
      rw [if_neg hok]
    · have h1 := c730
      refine wp_iload_n dX6_fewest_5 rfl rfl ?_
      refine wp_iconst (v := nI 3) dX6_fewest_6 rfl ?_
      refine wp_icmp_le (tgt := 12) dX6_fewest_7 (by decide) (fun c731 => ?_) (fun c731 => ?_)
      · exact absurd (sr_in_t h1 (by rw [Int32.lt_iff_toInt_lt]; rw [Int32.le_iff_toInt_le] at c731; omega)) hok
      · refine wp_iconst (v := -1) dX6_fewest_10 rfl ?_
        refine wp_iret dX6_fewest_11 rfl ⟨?_, cl_pr.rf⟩
        rw [if_neg hok]
