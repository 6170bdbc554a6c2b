theorem cl_ml_lt {n : Nat} {k : Int32} (hn : n ≤ 6) {i : Nat} (hi : i < (cl_ml n k).length) : ((cl_ml n k).getD i (0, 0)).1 < 64 ∧ ((cl_ml n k).getD i (0, 0)).2 < 64 := by
  have hpw := sr_pw hn
  have h := sr_fa_inv (N := 2 ^ n) (F := cl_mF n k) (Pr := fun s => ∀ p, p ∈ s → p.1 < 64 ∧ p.2 < 64) (fun a b s _ ha _ hb hs => by
    intro p hp
    unfold cl_mF at hp
    split at hp
    · rcases List.mem_append.mp hp with h | h
      · exact hs p h
      · rw [List.mem_singleton.mp h]; exact ⟨by show a < 64; omega, by show b < 64; omega⟩
    · exact hs p hp) (s := []) (fun p hp => absurd hp (List.not_mem_nil)) (2 ^ n - 1) (Nat.le_refl _)
  refine h _ ?_
  show (cl_ml n k).getD i (0, 0) ∈ cl_ml n k
  rw [List.getD_eq_getElem?_getD, List.getElem?_eq_getElem hi]
  exact List.getElem_mem hi
/-- match m of the list, as a form -/
def cl_mf (L : cl_L) (m : Nat) : Nat → Int32 := cl_form (L.getD m (0, 0)).1 (L.getD m (0, 0)).2 (nI 0) (nI 0)
abbrev cl_V : Type := Nat × Int64 × Nat × Nat
def cl_ev (Y : cl_T) (L : cl_L) : Nat → cl_V
  | 0 => (0, 0, 0, 0)
  | m + 1 => if cl_kn Y (cl_mf L m) = true ∧ ((cl_ev Y L m).1 = 0 ∨ sr_abs (cl_val Y (cl_mf L m)) < (cl_ev Y L m).2.1) then (1, sr_abs (cl_val Y (cl_mf L m)), (L.getD m (0, 0)).1, (L.getD m (0, 0)).2) else cl_ev Y L m
theorem cl_ev_1 {Y : cl_T} {L : cl_L} : ∀ m, (cl_ev Y L m).1 ≤ 1
  | 0 => Nat.zero_le _
  | m + 1 => by
    have := cl_ev_1 (Y := Y) (L := L) m
    unfold cl_ev
    split
    · exact Nat.le_refl _
    · exact this
def cl_ch (E : sr_St) (s : cl_V) : Prop := s.1 = 1 → E.1 59 0 = nI s.2.2.1 ∧ E.1 59 1 = nI s.2.2.2
set_option maxHeartbeats 400000 in
set_option maxRecDepth 100000 in
theorem c_X6_chooseEven (g : sr_G) (D : sr_St) (now : Nat → Int32) (n r : Nat) (hci : CI now n r D) (k : Int32) : Con g M_X6_chooseEven [.ref 0, .int k] D (fun qa D' => qa = some (.int (nI (cl_ev (cl_G now r) (cl_ml n k) (cl_ml n k).length).1)) ∧ cl_pr D D' ∧ cl_ch D' (cl_ev (cl_G now r) (cl_ml n k) (cl_ml n k).length)) := by
  refine Con.of pn_X6_chooseEven (Nat.le_of_ble_eq_true rfl) ?_
  show WP g M_X6_chooseEven 0 [(0, .ref 0), (1, .int k)] [] D _
  have hn6 := hci.n6
  have hr12 := hci.r12
  have hl45 : (cl_ml n k).length ≤ 45 := cl_fa_len _
  have hL : ∀ m, m ≤ (cl_ml n k).length → ∀ E : sr_St, cl_pr D E → cl_lat E (cl_ml n k) → cl_ch E (cl_ev (cl_G now r) (cl_ml n k) m) → WP g M_X6_chooseEven 14 [(0, .ref 0), (1, .int k), (2, .int (nI ((cl_ev (cl_G now r) (cl_ml n k) m).1))), (3, .long ((cl_ev (cl_G now r) (cl_ml n k) m).2.1)), (5, .int (nI ((cl_ml n k).length))), (6, .int (nI m))] [] E (fun qa D' => qa = some (.int (nI (cl_ev (cl_G now r) (cl_ml n k) (cl_ml n k).length).1)) ∧ cl_pr D D' ∧ cl_ch D' (cl_ev (cl_G now r) (cl_ml n k) (cl_ml n k).length)) := by
    refine sr_up (fun m hm ih E hpr hla hch => ?_)
    have h64 := fun h : m < (cl_ml n k).length => cl_ml_lt hn6 h
    have he1 := cl_ev_1 (Y := (cl_G now r)) (L := (cl_ml n k)) m
    refine wp_iload dX6_chooseEven_14 rfl ?_
    refine wp_iload dX6_chooseEven_16 rfl ?_
    refine wp_icmp_ge_n (tgt := 119) dX6_chooseEven_18 (by decide) (by first | omega | (split <;> omega)) (by first | omega | (split <;> omega)) (fun c630 => ?_) (fun c630 => ?_)
    · refine wp_iload_n dX6_chooseEven_119 rfl rfl ?_
      have hme : m = (cl_ml n k).length := by omega
      rw [hme] at hch he1
      refine wp_zret dX6_chooseEven_120 rfl ?_ ⟨by rw [hme], hpr, hch⟩
      rw [hme]
      rcases (show (cl_ev (cl_G now r) (cl_ml n k) (cl_ml n k).length).1 = 0 ∨ (cl_ev (cl_G now r) (cl_ml n k) (cl_ml n k).length).1 = 1 by omega) with z | z
      · rw [z]; exact Or.inl rfl
      · rw [z]; exact Or.inr rfl
    · refine wp_aload_n dX6_chooseEven_21 rfl rfl ?_
      refine wp_getR (r := 14) dX6_chooseEven_22 fl_X6_26 (by decide) rfl rfl rfl ?_
      refine wp_aload_n dX6_chooseEven_25 rfl rfl ?_
      refine wp_getR (r := 61) dX6_chooseEven_26 fl_X6_53 (by decide) rfl rfl rfl ?_
      refine wp_iload dX6_chooseEven_29 rfl ?_
      refine wp_iald dX6_chooseEven_31 (by decide) rfl (show _ < 45 by omega) (by first | omega | (split <;> omega)) ?_
      rw [(hla m (by omega)).1]
      refine wp_aload_n dX6_chooseEven_32 rfl rfl ?_
      refine wp_getR (r := 62) dX6_chooseEven_33 fl_X6_57 (by decide) rfl rfl rfl ?_
      refine wp_iload dX6_chooseEven_36 rfl ?_
      refine wp_iald dX6_chooseEven_38 (by decide) rfl (show _ < 45 by omega) (by first | omega | (split <;> omega)) ?_
      rw [(hla m (by omega)).2]
      refine wp_iconst (v := nI 0) dX6_chooseEven_39 rfl ?_
      refine wp_iconst (v := nI 0) dX6_chooseEven_40 rfl ?_
      refine wp_callV (M2 := M_X1_load) (n := 4) (As := [.int (nI (((cl_ml n k).getD m (0, 0)).1)), .int (nI (((cl_ml n k).getD m (0, 0)).2)), .int (nI 0), .int (nI 0)]) (st := []) dX6_chooseEven_41 (c_X1_load14 g E (((cl_ml n k).getD m (0, 0)).1) (((cl_ml n k).getD m (0, 0)).2) (by omega) (by omega) (nI 0) (nI 0)) ca_X6_250 ⟨nm_X1_load, by decide, by decide⟩ rfl (by decide) rfl rfl rfl (Nat.le_of_ble_eq_true rfl) (fun r631 E632 q633 => ?_)
      obtain ⟨rfl, hf634, fa635⟩ := q633
      show WP g _ _ _ _ _ _
      have pr636 := (hpr).tr fa635.pr
      have lat637 : cl_lat E632 (cl_ml n k) := fun z hz => by rw [fa635.2 61 (by decide), fa635.2 62 (by decide)]; exact hla z hz
      have ch638 : cl_ch E632 (cl_ev (cl_G now r) (cl_ml n k) m) := fun z => by rw [fa635.2 59 (by decide)]; exact hch z
      have hfm : ∀ k_1, k_1 < 8 → E632.1 34 k_1 = cl_mf (cl_ml n k) m k_1 := hf634
      refine wp_aload_n dX6_chooseEven_44 rfl rfl ?_
      refine wp_getR (r := 14) dX6_chooseEven_45 fl_X6_26 (by decide) rfl rfl rfl ?_
      refine wp_callV (M2 := M_X1_isKnown) (n := 0) (As := []) (st := []) dX6_chooseEven_48 (c_X1_isKnown14 g E632 (cl_G now r) (hci.pr pr636).2.2.2 (cl_mf (cl_ml n k) m) hfm) ca_X6_253 ⟨nm_X1_isKnown, by decide, by decide⟩ rfl (by decide) rfl rfl rfl (Nat.le_of_ble_eq_true rfl) (fun r639 E640 q641 => ?_)
      obtain ⟨rfl, rfl⟩ := q641
      show WP g _ _ _ (.int (sr_b (cl_kn (cl_G now r) (cl_mf (cl_ml n k) m))) :: _) _ _
      refine wp_if_ne_b (tgt := 57) dX6_chooseEven_51 (by decide) (fun c642 => ?_) (fun c642 => ?_)
      · have hkn := c642
        refine wp_aload_n dX6_chooseEven_57 rfl rfl ?_
        refine wp_getR (r := 14) dX6_chooseEven_58 fl_X6_26 (by decide) rfl rfl rfl ?_
        refine wp_callV (M2 := M_X1_scaledValue) (n := 0) (As := []) (st := []) dX6_chooseEven_61 (c_X1_scaledValue14 g E632 (cl_G now r) (hci.pr pr636).2.2.2 (cl_mf (cl_ml n k) m) hfm) ca_X6_282 ⟨nm_X1_scaledValue, by decide, by decide⟩ rfl (by decide) rfl rfl rfl (Nat.le_of_ble_eq_true rfl) (fun r643 E644 q645 => ?_)
        obtain ⟨rfl, rfl⟩ := q645
        show WP g _ _ _ (.long (cl_val (cl_G now r) (cl_mf (cl_ml n k) m)) :: _) _ _
        refine wp_abs dX6_chooseEven_64 ab_X6_294 (by decide) (Nat.le_of_ble_eq_true rfl) ?_
        refine wp_lstore (lv' := [(0, .ref 0), (1, .int k), (2, .int (nI ((cl_ev (cl_G now r) (cl_ml n k) m).1))), (3, .long ((cl_ev (cl_G now r) (cl_ml n k) m).2.1)), (5, .int (nI ((cl_ml n k).length))), (6, .int (nI m)), (7, .long (sr_abs (cl_val (cl_G now r) (cl_mf (cl_ml n k) m))))]) dX6_chooseEven_67 (by decide) rfl ?_
        refine wp_iload_n dX6_chooseEven_69 rfl rfl ?_
        refine wp_if_eq_n (tgt := 80) dX6_chooseEven_70 (by decide) (by first | omega | (split <;> omega)) (fun c646 => ?_) (fun c646 => ?_)
        · have hz0 := c646
          refine wp_iconst (v := nI 1) dX6_chooseEven_80 rfl ?_
          refine wp_istore_n (lv' := [(0, .ref 0), (1, .int k), (2, .int (nI 1)), (3, .long ((cl_ev (cl_G now r) (cl_ml n k) m).2.1)), (5, .int (nI ((cl_ml n k).length))), (6, .int (nI m)), (7, .long (sr_abs (cl_val (cl_G now r) (cl_mf (cl_ml n k) m))))]) dX6_chooseEven_81 rfl (by decide) rfl ?_
          refine wp_lload dX6_chooseEven_82 rfl ?_
          refine wp_lstore_n (lv' := [(0, .ref 0), (1, .int k), (2, .int (nI 1)), (3, .long (sr_abs (cl_val (cl_G now r) (cl_mf (cl_ml n k) m)))), (5, .int (nI ((cl_ml n k).length))), (6, .int (nI m)), (7, .long (sr_abs (cl_val (cl_G now r) (cl_mf (cl_ml n k) m))))]) dX6_chooseEven_84 rfl (by decide) rfl ?_
          refine wp_aload_n dX6_chooseEven_85 rfl rfl ?_
          refine wp_getR (r := 59) dX6_chooseEven_86 fl_X6_49 (by decide) rfl rfl rfl ?_
          refine wp_aload_n dX6_chooseEven_89 rfl rfl ?_
          refine wp_getR (r := 61) dX6_chooseEven_90 fl_X6_53 (by decide) rfl rfl rfl ?_
          refine wp_iload dX6_chooseEven_93 rfl ?_
          refine wp_iald dX6_chooseEven_95 (by decide) rfl (show _ < 45 by omega) (by first | omega | (split <;> omega)) ?_
          rw [(lat637 m (by omega)).1]
          refine wp_putI dX6_chooseEven_96 fl_X6_222 (by decide) rfl rfl ?_
          refine wp_D (fun D647 eD647 => ?_)
          have pr648 : cl_pr D D647 := (pr636).tr (by rw [eD647]; exact ⟨fun o a b => by funext z; rw [sr_sI_1, if_neg (fun y => b (by omega))], fun _ _ => rfl⟩)
          have lat649 : cl_lat D647 (cl_ml n k) := fun z hz => by rw [eD647, sr_sI_1, if_neg (by omega), sr_sI_1, if_neg (by omega)]; exact lat637 z hz
          refine wp_aload_n dX6_chooseEven_99 rfl rfl ?_
          refine wp_getR (r := 59) dX6_chooseEven_100 fl_X6_49 (by decide) rfl rfl rfl ?_
          refine wp_aload_n dX6_chooseEven_103 rfl rfl ?_
          refine wp_getR (r := 62) dX6_chooseEven_104 fl_X6_57 (by decide) rfl rfl rfl ?_
          refine wp_iload dX6_chooseEven_107 rfl ?_
          refine wp_iald dX6_chooseEven_109 (by decide) rfl (show _ < 45 by omega) (by first | omega | (split <;> omega)) ?_
          rw [(lat649 m (by omega)).2]
          refine wp_putI dX6_chooseEven_110 fl_X6_225 (by decide) rfl rfl ?_
          refine wp_D (fun D650 eD650 => ?_)
          have pr651 : cl_pr D D650 := (pr648).tr (by rw [eD650]; exact ⟨fun o a b => by funext z; rw [sr_sI_1, if_neg (fun y => b (by omega))], fun _ _ => rfl⟩)
          have lat652 : cl_lat D650 (cl_ml n k) := fun z hz => by rw [eD650, sr_sI_1, if_neg (by omega), sr_sI_1, if_neg (by omega)]; exact lat649 z hz
          refine wp_iinc_n (b := 1) (lv' := [(0, .ref 0), (1, .int k), (2, .int (nI 1)), (3, .long (sr_abs (cl_val (cl_G now r) (cl_mf (cl_ml n k) m)))), (5, .int (nI ((cl_ml n k).length))), (6, .int (nI (m + 1))), (7, .long (sr_abs (cl_val (cl_G now r) (cl_mf (cl_ml n k) m))))]) dX6_chooseEven_113 rfl rfl (by decide) rfl ?_
          refine wp_goto (tgt := 14) dX6_chooseEven_116 (by decide) ?_
          have hS : cl_ev (cl_G now r) (cl_ml n k) (m + 1) = _ := if_pos ⟨hkn, Or.inl hz0⟩
          have h := ih (by omega) D650 (pr651) lat652 (by rw [hS]; intro _; exact ⟨by rw [eD650, sr_sI_1, if_neg (by decide), eD647, sr_sI_1, if_pos ⟨rfl, rfl⟩], by rw [eD650, sr_sI_1, if_pos ⟨rfl, rfl⟩]⟩)
          rw [hS] at h
          try dsimp only at h
          exact wp_pick [0, 1, 2, 3, 4, 5] rfl h
        · have hz0 := c646
          refine wp_lload dX6_chooseEven_73 rfl ?_
          refine wp_lload_n dX6_chooseEven_75 rfl rfl ?_
          refine wp_lcmp_ge (tgt := 113) dX6_chooseEven_76 dX6_chooseEven_77 (by decide) (fun c653 => ?_) (fun c653 => ?_)
          · have hge := c653
            refine wp_iinc_n (b := 1) (lv' := [(0, .ref 0), (1, .int k), (2, .int (nI ((cl_ev (cl_G now r) (cl_ml n k) m).1))), (3, .long ((cl_ev (cl_G now r) (cl_ml n k) m).2.1)), (5, .int (nI ((cl_ml n k).length))), (6, .int (nI (m + 1))), (7, .long (sr_abs (cl_val (cl_G now r) (cl_mf (cl_ml n k) m))))]) dX6_chooseEven_113 rfl rfl (by decide) rfl ?_
            refine wp_goto (tgt := 14) dX6_chooseEven_116 (by decide) ?_
            have hS : cl_ev (cl_G now r) (cl_ml n k) (m + 1) = cl_ev (cl_G now r) (cl_ml n k) m := if_neg (fun z => z.2.elim hz0 (fun y => by rw [Int64.lt_iff_toInt_lt] at y; rw [Int64.le_iff_toInt_le] at hge; omega))
            have h := ih (by omega) E632 (pr636) lat637 (by rw [hS]; exact ch638)
            rw [hS] at h
            try dsimp only at h
            exact wp_pick [0, 1, 2, 3, 4, 5] rfl h
          · have hge := c653
            refine wp_iconst (v := nI 1) dX6_chooseEven_80 rfl ?_
            refine wp_istore_n (lv' := [(0, .ref 0), (1, .int k), (2, .int (nI 1)), (3, .long ((cl_ev (cl_G now r) (cl_ml n k) m).2.1)), (5, .int (nI ((cl_ml n k).length))), (6, .int (nI m)), (7, .long (sr_abs (cl_val (cl_G now r) (cl_mf (cl_ml n k) m))))]) dX6_chooseEven_81 rfl (by decide) rfl ?_
            refine wp_lload dX6_chooseEven_82 rfl ?_
            refine wp_lstore_n (lv' := [(0, .ref 0), (1, .int k), (2, .int (nI 1)), (3, .long (sr_abs (cl_val (cl_G now r) (cl_mf (cl_ml n k) m)))), (5, .int (nI ((cl_ml n k).length))), (6, .int (nI m)), (7, .long (sr_abs (cl_val (cl_G now r) (cl_mf (cl_ml n k) m))))]) dX6_chooseEven_84 rfl (by decide) rfl ?_
            refine wp_aload_n dX6_chooseEven_85 rfl rfl ?_
            refine wp_getR (r := 59) dX6_chooseEven_86 fl_X6_49 (by decide) rfl rfl rfl ?_
            refine wp_aload_n dX6_chooseEven_89 rfl rfl ?_
            refine wp_getR (r := 61) dX6_chooseEven_90 fl_X6_53 (by decide) rfl rfl rfl ?_
            refine wp_iload dX6_chooseEven_93 rfl ?_
            refine wp_iald dX6_chooseEven_95 (by decide) rfl (show _ < 45 by omega) (by first | omega | (split <;> omega)) ?_
            rw [(lat637 m (by omega)).1]
            refine wp_putI dX6_chooseEven_96 fl_X6_222 (by decide) rfl rfl ?_
            refine wp_D (fun D654 eD654 => ?_)
            have pr655 : cl_pr D D654 := (pr636).tr (by rw [eD654]; exact ⟨fun o a b => by funext z; rw [sr_sI_1, if_neg (fun y => b (by omega))], fun _ _ => rfl⟩)
            have lat656 : cl_lat D654 (cl_ml n k) := fun z hz => by rw [eD654, sr_sI_1, if_neg (by omega), sr_sI_1, if_neg (by omega)]; exact lat637 z hz
            refine wp_aload_n dX6_chooseEven_99 rfl rfl ?_
            refine wp_getR (r := 59) dX6_chooseEven_100 fl_X6_49 (by decide) rfl rfl rfl ?_
            refine wp_aload_n dX6_chooseEven_103 rfl rfl ?_
            refine wp_getR (r := 62) dX6_chooseEven_104 fl_X6_57 (by decide) rfl rfl rfl ?_
            refine wp_iload dX6_chooseEven_107 rfl ?_
            refine wp_iald dX6_chooseEven_109 (by decide) rfl (show _ < 45 by omega) (by first | omega | (split <;> omega)) ?_
            rw [(lat656 m (by omega)).2]
            refine wp_putI dX6_chooseEven_110 fl_X6_225 (by decide) rfl rfl ?_
            refine wp_D (fun D657 eD657 => ?_)
            have pr658 : cl_pr D D657 := (pr655).tr (by rw [eD657]; exact ⟨fun o a b => by funext z; rw [sr_sI_1, if_neg (fun y => b (by omega))], fun _ _ => rfl⟩)
            have lat659 : cl_lat D657 (cl_ml n k) := fun z hz => by rw [eD657, sr_sI_1, if_neg (by omega), sr_sI_1, if_neg (by omega)]; exact lat656 z hz
            refine wp_iinc_n (b := 1) (lv' := [(0, .ref 0), (1, .int k), (2, .int (nI 1)), (3, .long (sr_abs (cl_val (cl_G now r) (cl_mf (cl_ml n k) m)))), (5, .int (nI ((cl_ml n k).length))), (6, .int (nI (m + 1))), (7, .long (sr_abs (cl_val (cl_G now r) (cl_mf (cl_ml n k) m))))]) dX6_chooseEven_113 rfl rfl (by decide) rfl ?_
            refine wp_goto (tgt := 14) dX6_chooseEven_116 (by decide) ?_
            have hS : cl_ev (cl_G now r) (cl_ml n k) (m + 1) = _ := if_pos ⟨hkn, Or.inr (by rw [Int64.lt_iff_toInt_lt]; rw [Int64.le_iff_toInt_le] at hge; omega)⟩
            have h := ih (by omega) D657 (pr658) lat659 (by rw [hS]; intro _; exact ⟨by rw [eD657, sr_sI_1, if_neg (by decide), eD654, sr_sI_1, if_pos ⟨rfl, rfl⟩], by rw [eD657, sr_sI_1, if_pos ⟨rfl, rfl⟩]⟩)
            rw [hS] at h
            try dsimp only at h
            exact wp_pick [0, 1, 2, 3, 4, 5] rfl h
      · have hkn := c642
        refine wp_goto (tgt := 113) dX6_chooseEven_54 (by decide) ?_
        refine wp_iinc_n (b := 1) (lv' := [(0, .ref 0), (1, .int k), (2, .int (nI ((cl_ev (cl_G now r) (cl_ml n k) m).1))), (3, .long ((cl_ev (cl_G now r) (cl_ml n k) m).2.1)), (5, .int (nI ((cl_ml n k).length))), (6, .int (nI (m + 1)))]) dX6_chooseEven_113 rfl rfl (by decide) rfl ?_
        refine wp_goto (tgt := 14) dX6_chooseEven_116 (by decide) ?_
        have hS : cl_ev (cl_G now r) (cl_ml n k) (m + 1) = cl_ev (cl_G now r) (cl_ml n k) m := if_neg (fun z => by rw [hkn] at z; exact absurd z.1 (by decide))
        have h := ih (by omega) E632 (pr636) lat637 (by rw [hS]; exact ch638)
        rw [hS] at h
        try dsimp only at h
        exact wp_pick [0, 1, 2, 3, 4, 5] rfl h
  refine wp_iconst (v := nI 0) dX6_chooseEven_0 rfl ?_
  refine wp_istore_n (lv' := [(0, .ref 0), (1, .int k), (2, .int (nI 0))]) dX6_chooseEven_1 rfl (by decide) rfl ?_
  refine wp_lconst (v := 0) dX6_chooseEven_2 rfl ?_
  refine wp_lstore_n (lv' := [(0, .ref 0), (1, .int k), (2, .int (nI 0)), (3, .long 0)]) dX6_chooseEven_3 rfl (by decide) rfl ?_
  refine wp_aload_n dX6_chooseEven_4 rfl rfl ?_
  refine wp_iload_n dX6_chooseEven_5 rfl rfl ?_
  refine wp_callV (M2 := M_X6_listMatches) (n := 1) (As := [.int k]) (st := []) dX6_chooseEven_6 (c_X6_listMatches g D n hci.2.1.1 hn6 k) ca_X6_247 ⟨nm_X6_listMatches, by decide, by decide⟩ rfl (by decide) rfl rfl rfl (Nat.le_of_ble_eq_true rfl) (fun r660 E661 q662 => ?_)
  obtain ⟨rfl, hla0, hpl0⟩ := q662
  show WP g _ _ _ (.int (nI ((cl_ml n k).length)) :: _) _ _
  refine wp_istore (lv' := [(0, .ref 0), (1, .int k), (2, .int (nI 0)), (3, .long 0), (5, .int (nI ((cl_ml n k).length)))]) dX6_chooseEven_9 (by decide) rfl ?_
  refine wp_iconst (v := nI 0) dX6_chooseEven_11 rfl ?_
  refine wp_istore (lv' := [(0, .ref 0), (1, .int k), (2, .int (nI 0)), (3, .long 0), (5, .int (nI ((cl_ml n k).length))), (6, .int (nI 0))]) dX6_chooseEven_12 (by decide) rfl ?_
  exact hL 0 (by omega) E661 ((cl_pr.rf).tr hpl0.pr) hla0 (fun z => absurd (show (0 : Nat) = 1 from z) (by decide))
set_option maxHeartbeats 400000 in
set_option maxRecDepth 100000 in
theorem c_X6_even (g : sr_G) (D : sr_St) (now : Nat → Int32) (n r : Nat) (hci : CI now n r D) (k w : Int32) : Con g M_X6_even [.ref 0, .int k, .int w] D (fun qa D' => qa = some (.int (if (sr_isIn w (nI 0) (nI 1) && decide ((cl_ev (cl_G now r) (cl_ml n k) (cl_ml n k).length).1 = 1)) = true then (if w = nI 0 then nI (cl_ev (cl_G now r) (cl_ml n k) (cl_ml n k).length).2.2.1 else nI (cl_ev (cl_G now r) (cl_ml n k) (cl_ml n k).length).2.2.2) else -1)) ∧ cl_pr D D') := by
  refine Con.of pn_X6_even (Nat.le_of_ble_eq_true rfl) ?_
  show WP g M_X6_even 0 [(0, .ref 0), (1, .int k), (2, .int w)] [] D _
  have hn6 := hci.n6
  have hr12 := hci.r12
  have he1 := cl_ev_1 (Y := (cl_G now r)) (L := (cl_ml n k)) (cl_ml n k).length
  refine wp_iload_n dX6_even_0 rfl rfl ?_
  refine wp_if_lt (tgt := 17) dX6_even_1 (by decide) (fun c663 => ?_) (fun c663 => ?_)
  · have hw0 := c663
    refine wp_iconst (v := -1) dX6_even_17 rfl ?_
    refine wp_iret dX6_even_18 rfl ⟨?_, cl_pr.rf⟩
    rw [show sr_isIn w (nI 0) (nI 1) = false from sr_in_f1 hw0]; rfl
  · have hw0 := c663
    refine wp_iload_n dX6_even_4 rfl rfl ?_
    refine wp_iconst (v := nI 1) dX6_even_5 rfl ?_
    refine wp_icmp_gt (tgt := 17) dX6_even_6 (by decide) (fun c664 => ?_) (fun c664 => ?_)
    · have hw1 := c664
      refine wp_iconst (v := -1) dX6_even_17 rfl ?_
      refine wp_iret dX6_even_18 rfl ⟨?_, cl_pr.rf⟩
      rw [show sr_isIn w (nI 0) (nI 1) = false from sr_in_f2 hw1]; rfl
    · have hw1 := c664
      refine wp_aload_n dX6_even_9 rfl rfl ?_
      refine wp_iload_n dX6_even_10 rfl rfl ?_
      refine wp_callV (M2 := M_X6_chooseEven) (n := 1) (As := [.int k]) (st := []) dX6_even_11 (c_X6_chooseEven g D now n r hci k) ca_X6_273 ⟨nm_X6_chooseEven, by decide, by decide⟩ rfl (by decide) rfl rfl rfl (Nat.le_of_ble_eq_true rfl) (fun r665 E666 q667 => ?_)
      obtain ⟨rfl, pr1, ch1⟩ := q667
      show WP g _ _ _ (.int (nI ((cl_ev (cl_G now r) (cl_ml n k) (cl_ml n k).length).1)) :: _) _ _
      refine wp_if_ne_n (tgt := 19) dX6_even_14 (by decide) (by first | omega | (split <;> omega)) (fun c668 => ?_) (fun c668 => ?_)
      · have hf := c668
        refine wp_iload_n dX6_even_19 rfl rfl ?_
        refine wp_if_ne (tgt := 33) dX6_even_20 (by decide) (fun c669 => ?_) (fun c669 => ?_)
        · have hw := c669
          refine wp_aload_n dX6_even_33 rfl rfl ?_
          refine wp_getR (r := 59) dX6_even_34 fl_X6_49 (by decide) rfl rfl rfl ?_
          refine wp_getI dX6_even_37 fl_X6_225 (by decide) rfl rfl ?_
          refine wp_iret dX6_even_40 rfl ⟨?_, pr1⟩
          have hf1 : (cl_ev (cl_G now r) (cl_ml n k) (cl_ml n k).length).1 = 1 := by omega
          rw [show sr_isIn w (nI 0) (nI 1) = true from sr_in_t hw0 hw1, decide_eq_true hf1, if_pos (show (true && true) = true from rfl)]
          rw [if_neg (show ¬ w = nI 0 from hw), (ch1 hf1).2]
        · have hw := c669
          refine wp_aload_n dX6_even_23 rfl rfl ?_
          refine wp_getR (r := 59) dX6_even_24 fl_X6_49 (by decide) rfl rfl rfl ?_
          refine wp_getI dX6_even_27 fl_X6_222 (by decide) rfl rfl ?_
          refine wp_goto (tgt := 40) dX6_even_30 (by decide) ?_
          refine wp_iret dX6_even_40 rfl ⟨?_, pr1⟩
          have hf1 : (cl_ev (cl_G now r) (cl_ml n k) (cl_ml n k).length).1 = 1 := by omega
          rw [show sr_isIn w (nI 0) (nI 1) = true from sr_in_t hw0 hw1, decide_eq_true hf1, if_pos (show (true && true) = true from rfl)]
          rw [if_pos (show w = nI 0 from hw), (ch1 hf1).1]
      · have hf := c668
        refine wp_iconst (v := -1) dX6_even_17 rfl ?_
        refine wp_iret dX6_even_18 rfl ⟨?_, pr1⟩
        rw [decide_eq_false (by omega), Bool.and_false]; rfl
