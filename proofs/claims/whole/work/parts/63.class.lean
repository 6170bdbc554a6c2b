/-! ===== next ===== -/
def cl_nY (Y : cl_T) (L : cl_L) (m : Nat) : cl_T := cl_inc (nI 1) (cl_mf L m) (cl_f0 Y)
def cl_nk (Y : cl_T) (n : Nat) (L : cl_L) (m : Nat) : Nat := (cl_cs (cl_nY Y L m) n n).1
def cl_nu (Y : cl_T) (n : Nat) (L : cl_L) (m : Nat) : Nat := cl_fu (cl_cs (cl_nY Y L m) n n).2 (cl_by (cl_nY Y L m))
def cl_nb (Y : cl_T) (n : Nat) (L : cl_L) (m : Nat) : Nat := cl_fd (cl_cs (cl_nY Y L m) n n).2 (cl_by (cl_nY Y L m))
abbrev cl_N : Type := Nat × Nat × Nat × Nat × Nat
def cl_nx (Y : cl_T) (n : Nat) (L : cl_L) : Nat → cl_N
  | 0 => (0, 0, 0, 0, 1)
  | m + 1 => if m = 0 ∨ (cl_nx Y n L m).2.2.1 < cl_nk Y n L m ∨ (cl_nk Y n L m = (cl_nx Y n L m).2.2.1 ∧ cl_nu Y n L m * (cl_nx Y n L m).2.2.2.2 < (cl_nx Y n L m).2.2.2.1 * cl_nb Y n L m) then ((L.getD m (0, 0)).1, (L.getD m (0, 0)).2, cl_nk Y n L m, cl_nu Y n L m, cl_nb Y n L m) else cl_nx Y n L m
def cl_nok (Y : cl_T) (n : Nat) (L : cl_L) : Prop := ∀ m, m < L.length → cl_sm (cl_cs (cl_nY Y L m) n n).2 (cl_by (cl_nY Y L m))
theorem cl_nk_le {Y : cl_T} {n : Nat} {L : cl_L} {m : Nat} (hn : n ≤ 6) : cl_nk Y n L m ≤ 36 := Nat.le_trans (cl_cs_le n) (Nat.mul_le_mul hn hn)
theorem cl_nx_ok {Y : cl_T} {n : Nat} {L : cl_L} (hn : n ≤ 6) (h : cl_nok Y n L) : ∀ m, m ≤ L.length → (cl_nx Y n L m).2.2.1 ≤ 36 ∧ (cl_nx Y n L m).2.2.2.1 < 2 ^ 63 ∧ (cl_nx Y n L m).2.2.2.2 < 2 ^ 31 ∧ 0 < (cl_nx Y n L m).2.2.2.2 := by
  intro m
  induction m with
  | zero => intro _; exact ⟨(show 0 ≤ 36 by decide), (show 0 < 2 ^ 63 by decide), (show 1 < 2 ^ 31 by decide), (show 0 < 1 by decide)⟩
  | succ m ih =>
    intro hm
    have hb := cl_sm_n (h m (by omega)) (cl_go_pos 7).1
    unfold cl_nx
    split
    · exact ⟨cl_nk_le hn, hb.2.2.1, hb.2.2.2.1, hb.2.2.2.2⟩
    · exact ih (by omega)
/-- the choice as it stands -/
def cl_cho (E : sr_St) (s : cl_N) : Prop := E.1 59 0 = nI s.1 ∧ E.1 59 1 = nI s.2.1 ∧ E.1 59 2 = nI s.2.2.1 ∧ E.2 60 0 = lN s.2.2.2.1 ∧ E.2 60 1 = lN s.2.2.2.2
def cl_cn (E : sr_St) (m : Nat) (s : cl_N) : Prop := (m = 0 → E.1 59 2 = -1) ∧ (¬ m = 0 → cl_cho E s)
theorem sr_m1 {x : Nat} (h : x < 2 ^ 31) : (-1 : Int32) ≤ nI x ∧ (-1 : Int32) < nI x := by
  rw [Int32.le_iff_toInt_le, Int32.lt_iff_toInt_lt, nI_toInt h]
  have e : (-1 : Int32).toInt = -1 := rfl
  omega
set_option maxHeartbeats 400000 in
set_option maxRecDepth 100000 in
theorem c_X6_chooseNext (g : sr_G) (D : sr_St) (now : Nat → Int32) (n r : Nat) (hci : CI now n r D) (k : Int32) (hno : cl_nok (cl_G now r) n (cl_ml n k)) : Con g M_X6_chooseNext [.ref 0, .int k] D (fun qa D' => qa = some (.int (sr_b (decide (0 < (cl_ml n k).length)))) ∧ cl_pr D D' ∧ (0 < (cl_ml n k).length → cl_cho D' (cl_nx (cl_G now r) n (cl_ml n k) (cl_ml n k).length))) := by
  refine Con.of pn_X6_chooseNext (Nat.le_of_ble_eq_true rfl) ?_
  show WP g M_X6_chooseNext 0 [(0, .ref 0), (1, .int k)] [] D _
  have hn6 := hci.n6
  have hr12 := hci.r12
  have hl45 : (cl_ml n k).length ≤ 45 := cl_fa_len _
  have hbo := cl_nx_ok hn6 hno
  have hL : ∀ m, m ≤ (cl_ml n k).length → ∀ E : sr_St, cl_pr D E → cl_lat E (cl_ml n k) → cl_cn E m (cl_nx (cl_G now r) n (cl_ml n k) m) → WP g M_X6_chooseNext 16 [(0, .ref 0), (1, .int k), (2, .int (nI ((cl_ml n k).length))), (3, .int (nI m))] [] E (fun qa D' => qa = some (.int (sr_b (decide (0 < (cl_ml n k).length)))) ∧ cl_pr D D' ∧ (0 < (cl_ml n k).length → cl_cho D' (cl_nx (cl_G now r) n (cl_ml n k) (cl_ml n k).length))) := by
    refine sr_up (fun m hm ih E hpr hla hcn => ?_)
    have h64 := fun h : m < (cl_ml n k).length => cl_ml_lt hn6 h
    obtain ⟨b0, b2, b3, b4⟩ := hbo m hm
    have hnk : cl_nk (cl_G now r) n (cl_ml n k) m ≤ 36 := cl_nk_le hn6
    have h156 : m < (cl_ml n k).length → m = 0 ∨ (cl_nx (cl_G now r) n (cl_ml n k) m).2.2.1 < cl_nk (cl_G now r) n (cl_ml n k) m ∨ (cl_nk (cl_G now r) n (cl_ml n k) m = (cl_nx (cl_G now r) n (cl_ml n k) m).2.2.1 ∧ cl_nu (cl_G now r) n (cl_ml n k) m * (cl_nx (cl_G now r) n (cl_ml n k) m).2.2.2.2 < (cl_nx (cl_G now r) n (cl_ml n k) m).2.2.2.1 * cl_nb (cl_G now r) n (cl_ml n k) m) → ∀ F : sr_St, cl_pr D F → cl_lat F (cl_ml n k) → F.2 57 0 = lN (cl_nu (cl_G now r) n (cl_ml n k) m) → F.2 57 1 = lN (cl_nb (cl_G now r) n (cl_ml n k) m) → WP g M_X6_chooseNext 156 [(0, .ref 0), (1, .int k), (2, .int (nI ((cl_ml n k).length))), (3, .int (nI m)), (4, .int (nI (cl_nk (cl_G now r) n (cl_ml n k) m)))] [] F (fun qa D' => qa = some (.int (sr_b (decide (0 < (cl_ml n k).length)))) ∧ cl_pr D D' ∧ (0 < (cl_ml n k).length → cl_cho D' (cl_nx (cl_G now r) n (cl_ml n k) (cl_ml n k).length))) := by
      intro hml hc F hpr hla k1 k2
      refine wp_aload_n dX6_chooseNext_156 rfl rfl ?_
      refine wp_getR (r := 59) dX6_chooseNext_157 fl_X6_49 (by decide) rfl rfl rfl ?_
      refine wp_aload_n dX6_chooseNext_160 rfl rfl ?_
      refine wp_getR (r := 61) dX6_chooseNext_161 fl_X6_53 (by decide) rfl rfl rfl ?_
      refine wp_iload_n dX6_chooseNext_164 rfl rfl ?_
      refine wp_iald dX6_chooseNext_165 (by decide) rfl (show _ < 45 by omega) (by first | omega | (split <;> omega)) ?_
      rw [(hla m (by omega)).1]
      refine wp_putI dX6_chooseNext_166 fl_X6_222 (by decide) rfl rfl ?_
      refine wp_D (fun D798 eD798 => ?_)
      have pr799 : cl_pr D D798 := (hpr).tr (by rw [eD798]; exact ⟨fun o a b => by funext z; rw [sr_sI_1, if_neg (fun y => b (by omega))], fun _ _ => rfl⟩)
      have lat800 : cl_lat D798 (cl_ml n k) := fun z hz => by rw [eD798, sr_sI_1, if_neg (by omega), sr_sI_1, if_neg (by omega)]; exact hla z hz
      refine wp_aload_n dX6_chooseNext_169 rfl rfl ?_
      refine wp_getR (r := 59) dX6_chooseNext_170 fl_X6_49 (by decide) rfl rfl rfl ?_
      refine wp_aload_n dX6_chooseNext_173 rfl rfl ?_
      refine wp_getR (r := 62) dX6_chooseNext_174 fl_X6_57 (by decide) rfl rfl rfl ?_
      refine wp_iload_n dX6_chooseNext_177 rfl rfl ?_
      refine wp_iald dX6_chooseNext_178 (by decide) rfl (show _ < 45 by omega) (by first | omega | (split <;> omega)) ?_
      rw [(lat800 m (by omega)).2]
      refine wp_putI dX6_chooseNext_179 fl_X6_225 (by decide) rfl rfl ?_
      refine wp_D (fun D801 eD801 => ?_)
      have pr802 : cl_pr D D801 := (pr799).tr (by rw [eD801]; exact ⟨fun o a b => by funext z; rw [sr_sI_1, if_neg (fun y => b (by omega))], fun _ _ => rfl⟩)
      have lat803 : cl_lat D801 (cl_ml n k) := fun z hz => by rw [eD801, sr_sI_1, if_neg (by omega), sr_sI_1, if_neg (by omega)]; exact lat800 z hz
      refine wp_aload_n dX6_chooseNext_182 rfl rfl ?_
      refine wp_getR (r := 59) dX6_chooseNext_183 fl_X6_49 (by decide) rfl rfl rfl ?_
      refine wp_iload dX6_chooseNext_186 rfl ?_
      refine wp_putI dX6_chooseNext_188 fl_X6_228 (by decide) rfl rfl ?_
      refine wp_D (fun D804 eD804 => ?_)
      have pr805 : cl_pr D D804 := (pr802).tr (by rw [eD804]; exact ⟨fun o a b => by funext z; rw [sr_sI_1, if_neg (fun y => b (by omega))], fun _ _ => rfl⟩)
      have lat806 : cl_lat D804 (cl_ml n k) := fun z hz => by rw [eD804, sr_sI_1, if_neg (by omega), sr_sI_1, if_neg (by omega)]; exact lat803 z hz
      refine wp_aload_n dX6_chooseNext_191 rfl rfl ?_
      refine wp_getR (r := 59) dX6_chooseNext_192 fl_X6_49 (by decide) rfl rfl rfl ?_
      refine wp_getR (r := 60) dX6_chooseNext_195 fl_X6_231 (by decide) rfl rfl rfl ?_
      refine wp_aload_n dX6_chooseNext_198 rfl rfl ?_
      refine wp_getR (r := 57) dX6_chooseNext_199 fl_X6_40 (by decide) rfl rfl rfl ?_
      refine wp_callV (M2 := M_X2_copyFrom) (n := 1) (As := [.ref 57]) (st := []) dX6_chooseNext_202 (c_X2_copyFrom60 g D804) ca_X6_270 ⟨nm_X2_copyFrom, by decide, by decide⟩ rfl (by decide) rfl rfl rfl (Nat.le_of_ble_eq_true rfl) (fun r807 E808 q809 => ?_)
      obtain ⟨rfl, eE808⟩ := q809
      have eE808 := eE808.symm
      show WP g _ _ _ _ _ _
      refine wp_iinc_n (b := 1) (lv' := [(0, .ref 0), (1, .int k), (2, .int (nI ((cl_ml n k).length))), (3, .int (nI (m + 1))), (4, .int (nI (cl_nk (cl_G now r) n (cl_ml n k) m)))]) dX6_chooseNext_205 rfl rfl (by decide) rfl ?_
      refine wp_goto (tgt := 16) dX6_chooseNext_208 (by decide) ?_
      have hS : cl_nx (cl_G now r) n (cl_ml n k) (m + 1) = _ := if_pos hc
      have hp4 : cl_pr D E808 := (pr805).tr (by rw [eE808]; exact ⟨fun _ _ _ => rfl, fun o ho => by funext y; rw [sr_sJ_2, if_neg (by omega), sr_sJ_2, if_neg (by omega)]⟩)
      have hl4 : cl_lat E808 (cl_ml n k) := fun z hz => by rw [eE808]; exact lat806 z hz
      have hc4 : cl_cho E808 (cl_nx (cl_G now r) n (cl_ml n k) (m + 1)) := by
        rw [hS]
        refine ⟨?_, ?_, ?_, ?_, ?_⟩
        · rw [eE808, sr_sJ_1, sr_sJ_1, eD804, sr_sI_1, if_neg (by decide), eD801, sr_sI_1, if_neg (by decide), eD798, sr_sI_1, if_pos ⟨rfl, rfl⟩]
        · rw [eE808, sr_sJ_1, sr_sJ_1, eD804, sr_sI_1, if_neg (by decide), eD801, sr_sI_1, if_pos ⟨rfl, rfl⟩]
        · rw [eE808, sr_sJ_1, sr_sJ_1, eD804, sr_sI_1, if_pos ⟨rfl, rfl⟩]
        · rw [eE808, sr_sJ_2, if_neg (by decide), sr_sJ_2, if_pos ⟨rfl, rfl⟩, eD804, sr_sI_2, eD801, sr_sI_2, eD798, sr_sI_2]; exact k1
        · rw [eE808, sr_sJ_2, if_pos ⟨rfl, rfl⟩, eD804, sr_sI_2, eD801, sr_sI_2, eD798, sr_sI_2]; exact k2
      exact wp_pick [0, 1, 2, 3] rfl (ih (by omega) E808 hp4 hl4 ⟨fun h => absurd h (by omega), fun _ => hc4⟩)
    have h127 : m < (cl_ml n k).length → (¬ m = 0 → ¬ cl_nk (cl_G now r) n (cl_ml n k) m < (cl_nx (cl_G now r) n (cl_ml n k) m).2.2.1) → ∀ F : sr_St, cl_pr D F → cl_lat F (cl_ml n k) → cl_cn F m (cl_nx (cl_G now r) n (cl_ml n k) m) → F.2 57 0 = lN (cl_nu (cl_G now r) n (cl_ml n k) m) → F.2 57 1 = lN (cl_nb (cl_G now r) n (cl_ml n k) m) → WP g M_X6_chooseNext 127 [(0, .ref 0), (1, .int k), (2, .int (nI ((cl_ml n k).length))), (3, .int (nI m)), (4, .int (nI (cl_nk (cl_G now r) n (cl_ml n k) m)))] [] F (fun qa D' => qa = some (.int (sr_b (decide (0 < (cl_ml n k).length)))) ∧ cl_pr D D' ∧ (0 < (cl_ml n k).length → cl_cho D' (cl_nx (cl_G now r) n (cl_ml n k) (cl_ml n k).length))) := by
      intro hml hge F hpr hla hcn k1 k2
      obtain ⟨_, _, c1, c2, c3⟩ := cl_sm_n (hno m hml) (cl_go_pos 7).1
      by_cases hm0 : m = 0
      · refine wp_iload dX6_chooseNext_127 rfl ?_
        refine wp_aload_n dX6_chooseNext_129 rfl rfl ?_
        refine wp_getR (r := 59) dX6_chooseNext_130 fl_X6_49 (by decide) rfl rfl rfl ?_
        refine wp_getI dX6_chooseNext_133 fl_X6_228 (by decide) rfl rfl ?_
        rw [hcn.1 hm0]
        refine wp_icmp_gt (tgt := 156) dX6_chooseNext_136 (by decide) (fun c810 => ?_) (fun c810 => ?_)
        · exact h156 hml (Or.inl hm0) F hpr hla k1 k2
        · exact absurd (sr_m1 (by omega)).2 c810
      · refine wp_iload dX6_chooseNext_127 rfl ?_
        refine wp_aload_n dX6_chooseNext_129 rfl rfl ?_
        refine wp_getR (r := 59) dX6_chooseNext_130 fl_X6_49 (by decide) rfl rfl rfl ?_
        refine wp_getI dX6_chooseNext_133 fl_X6_228 (by decide) rfl rfl ?_
        rw [(hcn.2 hm0).2.2.1]
        refine wp_icmp_gt_n (tgt := 156) dX6_chooseNext_136 (by decide) (by first | omega | (split <;> omega)) (by first | omega | (split <;> omega)) (fun c811 => ?_) (fun c811 => ?_)
        · have hc : m = 0 ∨ (cl_nx (cl_G now r) n (cl_ml n k) m).2.2.1 < cl_nk (cl_G now r) n (cl_ml n k) m ∨ (cl_nk (cl_G now r) n (cl_ml n k) m = (cl_nx (cl_G now r) n (cl_ml n k) m).2.2.1 ∧ cl_nu (cl_G now r) n (cl_ml n k) m * (cl_nx (cl_G now r) n (cl_ml n k) m).2.2.2.2 < (cl_nx (cl_G now r) n (cl_ml n k) m).2.2.2.1 * cl_nb (cl_G now r) n (cl_ml n k) m) := Or.inr (Or.inl c811)
          exact h156 hml hc F hpr hla k1 k2
        · have hgt := c811
          refine wp_aload_n dX6_chooseNext_139 rfl rfl ?_
          refine wp_getR (r := 57) dX6_chooseNext_140 fl_X6_40 (by decide) rfl rfl rfl ?_
          refine wp_aload_n dX6_chooseNext_143 rfl rfl ?_
          refine wp_getR (r := 59) dX6_chooseNext_144 fl_X6_49 (by decide) rfl rfl rfl ?_
          refine wp_getR (r := 60) dX6_chooseNext_147 fl_X6_231 (by decide) rfl rfl rfl ?_
          refine wp_callV (M2 := M_X2_isBelow) (n := 1) (As := [.ref 60]) (st := []) dX6_chooseNext_150 (c_X2_isBelow60 g F (cl_nu (cl_G now r) n (cl_ml n k) m) (cl_nb (cl_G now r) n (cl_ml n k) m) (cl_nx (cl_G now r) n (cl_ml n k) m).2.2.2.1 (cl_nx (cl_G now r) n (cl_ml n k) m).2.2.2.2 k1 k2 (hcn.2 hm0).2.2.2.1 (hcn.2 hm0).2.2.2.2 c1 (by unfold cl_nb; omega) b2 (by omega) (by unfold cl_nb; omega) b4 (cl_q31 c2 b3)) ca_X6_266 ⟨nm_X2_isBelow, by decide, by decide⟩ rfl (by decide) rfl rfl rfl (Nat.le_of_ble_eq_true rfl) (fun r812 E813 q814 => ?_)
          obtain ⟨rfl, rfl⟩ := q814
          show WP g _ _ _ (.int (sr_b (decide (cl_nu (cl_G now r) n (cl_ml n k) m * (cl_nx (cl_G now r) n (cl_ml n k) m).2.2.2.2 < (cl_nx (cl_G now r) n (cl_ml n k) m).2.2.2.1 * cl_nb (cl_G now r) n (cl_ml n k) m))) :: _) _ _
          refine wp_if_eq_b (tgt := 205) dX6_chooseNext_153 (by decide) (fun c815 => ?_) (fun c815 => ?_)
          · have hc : ¬ (m = 0 ∨ (cl_nx (cl_G now r) n (cl_ml n k) m).2.2.1 < cl_nk (cl_G now r) n (cl_ml n k) m ∨ (cl_nk (cl_G now r) n (cl_ml n k) m = (cl_nx (cl_G now r) n (cl_ml n k) m).2.2.1 ∧ cl_nu (cl_G now r) n (cl_ml n k) m * (cl_nx (cl_G now r) n (cl_ml n k) m).2.2.2.2 < (cl_nx (cl_G now r) n (cl_ml n k) m).2.2.2.1 * cl_nb (cl_G now r) n (cl_ml n k) m)) := fun zz => zz.elim hm0 (fun zz => zz.elim (fun y => by omega) (fun y => (of_decide_eq_false c815) y.2))
            refine wp_iinc_n (b := 1) (lv' := [(0, .ref 0), (1, .int k), (2, .int (nI ((cl_ml n k).length))), (3, .int (nI (m + 1))), (4, .int (nI (cl_nk (cl_G now r) n (cl_ml n k) m)))]) dX6_chooseNext_205 rfl rfl (by decide) rfl ?_
            refine wp_goto (tgt := 16) dX6_chooseNext_208 (by decide) ?_
            have hS : cl_nx (cl_G now r) n (cl_ml n k) (m + 1) = cl_nx (cl_G now r) n (cl_ml n k) m := if_neg hc
            exact wp_pick [0, 1, 2, 3] rfl (ih (by omega) F hpr hla ⟨fun h => absurd h (by omega), fun _ => by rw [hS]; exact hcn.2 hm0⟩)
          · have hc : m = 0 ∨ (cl_nx (cl_G now r) n (cl_ml n k) m).2.2.1 < cl_nk (cl_G now r) n (cl_ml n k) m ∨ (cl_nk (cl_G now r) n (cl_ml n k) m = (cl_nx (cl_G now r) n (cl_ml n k) m).2.2.1 ∧ cl_nu (cl_G now r) n (cl_ml n k) m * (cl_nx (cl_G now r) n (cl_ml n k) m).2.2.2.2 < (cl_nx (cl_G now r) n (cl_ml n k) m).2.2.2.1 * cl_nb (cl_G now r) n (cl_ml n k) m) := Or.inr (Or.inr ⟨by have := hge hm0; omega, of_decide_eq_true c815⟩)
            exact h156 hml hc F hpr hla k1 k2
    have h84 : m < (cl_ml n k).length → ∀ F : sr_St, cl_pr D F → cl_lat F (cl_ml n k) → cl_cn F m (cl_nx (cl_G now r) n (cl_ml n k) m) → cl_ok 35 45 54 (cl_nY (cl_G now r) (cl_ml n k) m) F → WP g M_X6_chooseNext 84 [(0, .ref 0), (1, .int k), (2, .int (nI ((cl_ml n k).length))), (3, .int (nI m)), (4, .int (nI (cl_nk (cl_G now r) n (cl_ml n k) m)))] [] F (fun qa D' => qa = some (.int (sr_b (decide (0 < (cl_ml n k).length)))) ∧ cl_pr D D' ∧ (0 < (cl_ml n k).length → cl_cho D' (cl_nx (cl_G now r) n (cl_ml n k) (cl_ml n k).length))) := by
      intro hml F hpr hla hcn hok1
      by_cases hm0 : m = 0
      · refine wp_iload dX6_chooseNext_84 rfl ?_
        refine wp_aload_n dX6_chooseNext_86 rfl rfl ?_
        refine wp_getR (r := 59) dX6_chooseNext_87 fl_X6_49 (by decide) rfl rfl rfl ?_
        refine wp_getI dX6_chooseNext_90 fl_X6_228 (by decide) rfl rfl ?_
        rw [hcn.1 hm0]
        refine wp_icmp_ge (tgt := 99) dX6_chooseNext_93 (by decide) (fun c816 => ?_) (fun c816 => ?_)
        · refine wp_aload_n dX6_chooseNext_99 rfl rfl ?_
          refine wp_getR (r := 57) dX6_chooseNext_100 fl_X6_40 (by decide) rfl rfl rfl ?_
          refine wp_aload_n dX6_chooseNext_103 rfl rfl ?_
          refine wp_getR (r := 35) dX6_chooseNext_104 fl_X6_30 (by decide) rfl rfl rfl ?_
          refine wp_aload_n dX6_chooseNext_107 rfl rfl ?_
          refine wp_getR (r := 1) dX6_chooseNext_108 fl_X6_10 (by decide) rfl rfl rfl ?_
          refine wp_getI_n (n := n) dX6_chooseNext_111 fl_X6_132 (by decide) rfl rfl ((hci.pr hpr).2.1.1) ?_
          refine wp_callV (M2 := M_X1_scaledDoubts) (n := 1) (As := [.int (nI n)]) (st := [.ref 57]) dX6_chooseNext_114 (c_X1_scaledDoubts35 g F (cl_nY (cl_G now r) (cl_ml n k) m) hok1 n (by omega)) ca_X6_291 ⟨nm_X1_scaledDoubts, by decide, by decide⟩ rfl (by decide) rfl rfl rfl (Nat.le_of_ble_eq_true rfl) (fun r817 E818 q819 => ?_)
          obtain ⟨rfl, fa820⟩ := q819
          show WP g _ _ _ (.long ((cl_cs (cl_nY (cl_G now r) (cl_ml n k) m) n n).2) :: _) _ _
          have ok821 := cl_ok_fa hok1 fa820 (by decide) (by decide)
          have pr822 : cl_pr D E818 := (hpr).tr fa820.pr2
          have kc823 := (cl_kc.rf).tr fa820.kc
          refine wp_aload_n dX6_chooseNext_117 rfl rfl ?_
          refine wp_getR (r := 35) dX6_chooseNext_118 fl_X6_30 (by decide) rfl rfl rfl ?_
          refine wp_getJ dX6_chooseNext_121 fl_X6_180 (by decide) rfl rfl ?_
          rw [ok821.2.1]
          show WP g _ _ _ (.long (cl_by (cl_nY (cl_G now r) (cl_ml n k) m)) :: _) _ _
          refine wp_callV (M2 := M_X2_set) (n := 2) (As := [.long ((cl_cs (cl_nY (cl_G now r) (cl_ml n k) m) n n).2), .long (cl_by (cl_nY (cl_G now r) (cl_ml n k) m))]) (st := []) dX6_chooseNext_124 (c_X2_set57 g E818 (cl_cs (cl_nY (cl_G now r) (cl_ml n k) m) n n).2 (cl_by (cl_nY (cl_G now r) (cl_ml n k) m)) (by have := (hno m hml).1; omega) (cl_go_pos 7).1) ca_X6_262 ⟨nm_X2_set, by decide, by decide⟩ rfl (by decide) rfl rfl rfl (Nat.le_of_ble_eq_true rfl) (fun r824 E825 q826 => ?_)
          obtain ⟨rfl, eE825⟩ := q826
          have eE825 := eE825.symm
          show WP g _ _ _ _ _ _
          obtain ⟨t1, t2, _, _, _⟩ := cl_sm_n (hno m hml) (cl_go_pos 7).1
          refine h127 hml (fun h => absurd hm0 h) E825 ((pr822).tr (by rw [eE825]; exact sr_setF_pr (by decide))) ?_ ?_ ?_ ?_
          · intro z hz; rw [eE825]; exact kc823.lat hla z hz
          · rw [eE825]; refine ⟨fun h0 => ?_, fun h0 => ?_⟩
            · show _ = _; unfold sr_setF; rw [sr_sJ_1, sr_sJ_1, kc823.1]; exact hcn.1 h0
            · have hq := hcn.2 h0; unfold cl_cho sr_setF; rw [sr_sJ_1, sr_sJ_1, kc823.1, sr_sJ_2, if_neg (by decide), sr_sJ_2, if_neg (by decide), sr_sJ_2, if_neg (by decide), sr_sJ_2, if_neg (by decide), kc823.2.2.2.2.2]; exact hq
          · rw [eE825]; unfold sr_setF; rw [sr_sJ_2, if_neg (by decide), sr_sJ_2, if_pos ⟨rfl, rfl⟩]; exact t1
          · rw [eE825]; unfold sr_setF; rw [sr_sJ_2, if_pos ⟨rfl, rfl⟩]; exact t2
        · exact absurd (sr_m1 (by omega)).1 c816
      · refine wp_iload dX6_chooseNext_84 rfl ?_
        refine wp_aload_n dX6_chooseNext_86 rfl rfl ?_
        refine wp_getR (r := 59) dX6_chooseNext_87 fl_X6_49 (by decide) rfl rfl rfl ?_
        refine wp_getI dX6_chooseNext_90 fl_X6_228 (by decide) rfl rfl ?_
        rw [(hcn.2 hm0).2.2.1]
        refine wp_icmp_ge_n (tgt := 99) dX6_chooseNext_93 (by decide) (by first | omega | (split <;> omega)) (by first | omega | (split <;> omega)) (fun c827 => ?_) (fun c827 => ?_)
        · have hge0 := c827
          refine wp_aload_n dX6_chooseNext_99 rfl rfl ?_
          refine wp_getR (r := 57) dX6_chooseNext_100 fl_X6_40 (by decide) rfl rfl rfl ?_
          refine wp_aload_n dX6_chooseNext_103 rfl rfl ?_
          refine wp_getR (r := 35) dX6_chooseNext_104 fl_X6_30 (by decide) rfl rfl rfl ?_
          refine wp_aload_n dX6_chooseNext_107 rfl rfl ?_
          refine wp_getR (r := 1) dX6_chooseNext_108 fl_X6_10 (by decide) rfl rfl rfl ?_
          refine wp_getI_n (n := n) dX6_chooseNext_111 fl_X6_132 (by decide) rfl rfl ((hci.pr hpr).2.1.1) ?_
          refine wp_callV (M2 := M_X1_scaledDoubts) (n := 1) (As := [.int (nI n)]) (st := [.ref 57]) dX6_chooseNext_114 (c_X1_scaledDoubts35 g F (cl_nY (cl_G now r) (cl_ml n k) m) hok1 n (by omega)) ca_X6_291 ⟨nm_X1_scaledDoubts, by decide, by decide⟩ rfl (by decide) rfl rfl rfl (Nat.le_of_ble_eq_true rfl) (fun r828 E829 q830 => ?_)
          obtain ⟨rfl, fa831⟩ := q830
          show WP g _ _ _ (.long ((cl_cs (cl_nY (cl_G now r) (cl_ml n k) m) n n).2) :: _) _ _
          have ok832 := cl_ok_fa hok1 fa831 (by decide) (by decide)
          have pr833 : cl_pr D E829 := (hpr).tr fa831.pr2
          have kc834 := (cl_kc.rf).tr fa831.kc
          refine wp_aload_n dX6_chooseNext_117 rfl rfl ?_
          refine wp_getR (r := 35) dX6_chooseNext_118 fl_X6_30 (by decide) rfl rfl rfl ?_
          refine wp_getJ dX6_chooseNext_121 fl_X6_180 (by decide) rfl rfl ?_
          rw [ok832.2.1]
          show WP g _ _ _ (.long (cl_by (cl_nY (cl_G now r) (cl_ml n k) m)) :: _) _ _
          refine wp_callV (M2 := M_X2_set) (n := 2) (As := [.long ((cl_cs (cl_nY (cl_G now r) (cl_ml n k) m) n n).2), .long (cl_by (cl_nY (cl_G now r) (cl_ml n k) m))]) (st := []) dX6_chooseNext_124 (c_X2_set57 g E829 (cl_cs (cl_nY (cl_G now r) (cl_ml n k) m) n n).2 (cl_by (cl_nY (cl_G now r) (cl_ml n k) m)) (by have := (hno m hml).1; omega) (cl_go_pos 7).1) ca_X6_262 ⟨nm_X2_set, by decide, by decide⟩ rfl (by decide) rfl rfl rfl (Nat.le_of_ble_eq_true rfl) (fun r835 E836 q837 => ?_)
          obtain ⟨rfl, eE836⟩ := q837
          have eE836 := eE836.symm
          show WP g _ _ _ _ _ _
          obtain ⟨t1, t2, _, _, _⟩ := cl_sm_n (hno m hml) (cl_go_pos 7).1
          refine h127 hml (fun _ => by omega) E836 ((pr833).tr (by rw [eE836]; exact sr_setF_pr (by decide))) ?_ ?_ ?_ ?_
          · intro z hz; rw [eE836]; exact kc834.lat hla z hz
          · rw [eE836]; refine ⟨fun h0 => ?_, fun h0 => ?_⟩
            · show _ = _; unfold sr_setF; rw [sr_sJ_1, sr_sJ_1, kc834.1]; exact hcn.1 h0
            · have hq := hcn.2 h0; unfold cl_cho sr_setF; rw [sr_sJ_1, sr_sJ_1, kc834.1, sr_sJ_2, if_neg (by decide), sr_sJ_2, if_neg (by decide), sr_sJ_2, if_neg (by decide), sr_sJ_2, if_neg (by decide), kc834.2.2.2.2.2]; exact hq
          · rw [eE836]; unfold sr_setF; rw [sr_sJ_2, if_neg (by decide), sr_sJ_2, if_pos ⟨rfl, rfl⟩]; exact t1
          · rw [eE836]; unfold sr_setF; rw [sr_sJ_2, if_pos ⟨rfl, rfl⟩]; exact t2
        · have hlt := c827
          refine wp_goto (tgt := 205) dX6_chooseNext_96 (by decide) ?_
          refine wp_iinc_n (b := 1) (lv' := [(0, .ref 0), (1, .int k), (2, .int (nI ((cl_ml n k).length))), (3, .int (nI (m + 1))), (4, .int (nI (cl_nk (cl_G now r) n (cl_ml n k) m)))]) dX6_chooseNext_205 rfl rfl (by decide) rfl ?_
          refine wp_goto (tgt := 16) dX6_chooseNext_208 (by decide) ?_
          have hS : cl_nx (cl_G now r) n (cl_ml n k) (m + 1) = cl_nx (cl_G now r) n (cl_ml n k) m := if_neg (fun zz => zz.elim hm0 (fun zz => zz.elim (fun y => by omega) (fun y => by omega)))
          exact wp_pick [0, 1, 2, 3] rfl (ih (by omega) F hpr hla ⟨fun h => absurd h (by omega), fun _ => by rw [hS]; exact hcn.2 hm0⟩)
    refine wp_iload_n dX6_chooseNext_16 rfl rfl ?_
    refine wp_iload_n dX6_chooseNext_17 rfl rfl ?_
    refine wp_icmp_ge_n (tgt := 211) dX6_chooseNext_18 (by decide) (by first | omega | (split <;> omega)) (by first | omega | (split <;> omega)) (fun c838 => ?_) (fun c838 => ?_)
    · refine wp_iload_n dX6_chooseNext_211 rfl rfl ?_
      refine wp_if_le_n (tgt := 219) dX6_chooseNext_212 (by decide) (by first | omega | (split <;> omega)) (fun c839 => ?_) (fun c839 => ?_)
      · have hl0 := c839
        refine wp_iconst (v := nI 0) dX6_chooseNext_219 rfl ?_
        have hme : m = (cl_ml n k).length := by omega
        rw [hme] at hcn
        refine wp_zret dX6_chooseNext_220 rfl (Or.inl rfl) ⟨?_, hpr, fun h => hcn.2 (by omega)⟩
        rw [decide_eq_false (by omega)]; rfl
      · have hl0 := c839
        refine wp_iconst (v := nI 1) dX6_chooseNext_215 rfl ?_
        refine wp_goto (tgt := 220) dX6_chooseNext_216 (by decide) ?_
        have hme : m = (cl_ml n k).length := by omega
        rw [hme] at hcn
        refine wp_zret dX6_chooseNext_220 rfl (Or.inr rfl) ⟨?_, hpr, fun h => hcn.2 (by omega)⟩
        rw [decide_eq_true (by omega)]; rfl
    · refine wp_aload_n dX6_chooseNext_21 rfl rfl ?_
      refine wp_getR (r := 35) dX6_chooseNext_22 fl_X6_30 (by decide) rfl rfl rfl ?_
      refine wp_aload_n dX6_chooseNext_25 rfl rfl ?_
      refine wp_getR (r := 14) dX6_chooseNext_26 fl_X6_26 (by decide) rfl rfl rfl ?_
      refine wp_callV (M2 := M_X1_copyForms) (n := 1) (As := [.ref 14]) (st := []) dX6_chooseNext_29 (c_X1_copyForms g E (cl_G now r) (hci.pr hpr).2.2.1) ca_X6_240 ⟨nm_X1_copyForms, by decide, by decide⟩ rfl (by decide) rfl rfl rfl (Nat.le_of_ble_eq_true rfl) (fun r840 E841 q842 => ?_)
      obtain ⟨rfl, g843, f844⟩ := q842
      show WP g _ _ _ _ _ _
      have pr845 : cl_pr D E841 := (hpr).tr f844.pr
      have kc846 := (cl_kc.rf).tr f844.kc
      refine wp_aload_n dX6_chooseNext_32 rfl rfl ?_
      refine wp_getR (r := 35) dX6_chooseNext_33 fl_X6_30 (by decide) rfl rfl rfl ?_
      refine wp_aload_n dX6_chooseNext_36 rfl rfl ?_
      refine wp_getR (r := 61) dX6_chooseNext_37 fl_X6_53 (by decide) rfl rfl rfl ?_
      refine wp_iload_n dX6_chooseNext_40 rfl rfl ?_
      refine wp_iald dX6_chooseNext_41 (by decide) rfl (show _ < 45 by omega) (by first | omega | (split <;> omega)) ?_
      rw [((kc846.lat hla) m (by omega)).1]
      refine wp_aload_n dX6_chooseNext_42 rfl rfl ?_
      refine wp_getR (r := 62) dX6_chooseNext_43 fl_X6_57 (by decide) rfl rfl rfl ?_
      refine wp_iload_n dX6_chooseNext_46 rfl rfl ?_
      refine wp_iald dX6_chooseNext_47 (by decide) rfl (show _ < 45 by omega) (by first | omega | (split <;> omega)) ?_
      rw [((kc846.lat hla) m (by omega)).2]
      refine wp_iconst (v := nI 0) dX6_chooseNext_48 rfl ?_
      refine wp_iconst (v := nI 0) dX6_chooseNext_49 rfl ?_
      refine wp_callV (M2 := M_X1_load) (n := 4) (As := [.int (nI (((cl_ml n k).getD m (0, 0)).1)), .int (nI (((cl_ml n k).getD m (0, 0)).2)), .int (nI 0), .int (nI 0)]) (st := []) dX6_chooseNext_50 (c_X1_load35 g E841 (((cl_ml n k).getD m (0, 0)).1) (((cl_ml n k).getD m (0, 0)).2) (by omega) (by omega) (nI 0) (nI 0)) ca_X6_250 ⟨nm_X1_load, by decide, by decide⟩ rfl (by decide) rfl rfl rfl (Nat.le_of_ble_eq_true rfl) (fun r847 E848 q849 => ?_)
      obtain ⟨rfl, hf850, fa851⟩ := q849
      show WP g _ _ _ _ _ _
      have hf852 : ∀ z, z < 8 → E848.1 55 z = (cl_mf (cl_ml n k) m) z := hf850
      have g853 : mx 36 E848 (cl_f0 (cl_G now r)) := fun i j hi hj => by rw [fa851.1]; exact g843 i j hi hj
      have pr854 : cl_pr D E848 := (pr845).tr fa851.pr2
      have kc855 := (kc846).tr fa851.kc
      refine wp_aload_n dX6_chooseNext_53 rfl rfl ?_
      refine wp_getR (r := 35) dX6_chooseNext_54 fl_X6_30 (by decide) rfl rfl rfl ?_
      refine wp_iconst (v := nI 1) dX6_chooseNext_57 rfl ?_
      refine wp_callV (M2 := M_X1_include) (n := 1) (As := [.int (nI 1)]) (st := []) dX6_chooseNext_58 (c_X1_include35 g E848 (nI 1) (cl_f0 (cl_G now r)) g853) ca_X6_256 ⟨nm_X1_include, by decide, by decide⟩ rfl (by decide) rfl rfl rfl (Nat.le_of_ble_eq_true rfl) (fun r856 E857 q858 => ?_)
      obtain ⟨rfl, g859, f860⟩ := q858
      show WP g _ _ _ _ _ _
      have g861 : mx 36 E857 (cl_inc (nI 1) (cl_mf (cl_ml n k) m) (cl_f0 (cl_G now r))) := mx_ext g859 (fun i j hi hj => by rw [hf852 i hi, hf852 j hj]; rfl)
      have pr862 : cl_pr D E857 := (pr854).tr f860.pr
      have kc863 := (kc855).tr f860.kc
      have g864 : mx 36 E857 (cl_nY (cl_G now r) (cl_ml n k) m) := g861
      refine wp_aload_n dX6_chooseNext_61 rfl rfl ?_
      refine wp_getR (r := 35) dX6_chooseNext_62 fl_X6_30 (by decide) rfl rfl rfl ?_
      refine wp_callV (M2 := M_X1_solve) (n := 0) (As := []) (st := []) dX6_chooseNext_65 (c_X1_solve35 g E857 (cl_nY (cl_G now r) (cl_ml n k) m) g864) ca_X6_244 ⟨nm_X1_solve, by decide, by decide⟩ rfl (by decide) rfl rfl rfl (Nat.le_of_ble_eq_true rfl) (fun r865 E866 q867 => ?_)
      obtain ⟨rfl, ok868, f869⟩ := q867
      show WP g _ _ _ _ _ _
      have g870 : mx 36 E866 (cl_nY (cl_G now r) (cl_ml n k) m) := mx_cong g864 (fun o _ _ => f869.2 o (by omega) (by omega))
      have pr871 : cl_pr D E866 := (pr862).tr f869.pr
      have kc872 := (kc863).tr f869.kc
      refine wp_aload_n dX6_chooseNext_68 rfl rfl ?_
      refine wp_getR (r := 35) dX6_chooseNext_69 fl_X6_30 (by decide) rfl rfl rfl ?_
      refine wp_aload_n dX6_chooseNext_72 rfl rfl ?_
      refine wp_getR (r := 1) dX6_chooseNext_73 fl_X6_10 (by decide) rfl rfl rfl ?_
      refine wp_getI_n (n := n) dX6_chooseNext_76 fl_X6_132 (by decide) rfl rfl ((hci.pr pr871).2.1.1) ?_
      refine wp_callV (M2 := M_X1_couplesKnown) (n := 1) (As := [.int (nI n)]) (st := []) dX6_chooseNext_79 (c_X1_couplesKnown35 g E866 (cl_nY (cl_G now r) (cl_ml n k) m) ok868 n (by omega)) ca_X6_135 ⟨nm_X1_couplesKnown, by decide, by decide⟩ rfl (by decide) rfl rfl rfl (Nat.le_of_ble_eq_true rfl) (fun r873 E874 q875 => ?_)
      obtain ⟨rfl, fa876⟩ := q875
      show WP g _ _ _ (.int (nI ((cl_cs (cl_nY (cl_G now r) (cl_ml n k) m) n n).1)) :: _) _ _
      have ok877 := cl_ok_fa ok868 fa876 (by decide) (by decide)
      have pr878 : cl_pr D E874 := (pr871).tr fa876.pr2
      have kc879 := (kc872).tr fa876.kc
      refine wp_istore (lv' := [(0, .ref 0), (1, .int k), (2, .int (nI ((cl_ml n k).length))), (3, .int (nI m)), (4, .int (nI ((cl_cs (cl_nY (cl_G now r) (cl_ml n k) m) n n).1)))]) dX6_chooseNext_82 (by decide) rfl ?_
      exact h84 (by omega) E874 pr878 (kc879.lat hla) ⟨fun h0 => by rw [kc879.1]; exact hcn.1 h0, fun h0 => by unfold cl_cho; rw [kc879.1, kc879.2.2.2.2.2]; exact hcn.2 h0⟩ ok877
  refine wp_aload_n dX6_chooseNext_0 rfl rfl ?_
  refine wp_getR (r := 59) dX6_chooseNext_1 fl_X6_49 (by decide) rfl rfl rfl ?_
  refine wp_iconst (v := -1) dX6_chooseNext_4 rfl ?_
  refine wp_putI dX6_chooseNext_5 fl_X6_228 (by decide) rfl rfl ?_
  refine wp_D (fun D880 eD880 => ?_)
  have pr0 : cl_pr D D880 := by rw [eD880]; exact ⟨fun o a b => by funext z; rw [sr_sI_1, if_neg (fun y => b (by omega))], fun _ _ => rfl⟩
  have kn0 : D880.1 59 2 = -1 := by rw [eD880, sr_sI_1, if_pos ⟨rfl, rfl⟩]
  refine wp_aload_n dX6_chooseNext_8 rfl rfl ?_
  refine wp_iload_n dX6_chooseNext_9 rfl rfl ?_
  refine wp_callV (M2 := M_X6_listMatches) (n := 1) (As := [.int k]) (st := []) dX6_chooseNext_10 (c_X6_listMatches g D880 n (hci.pr pr0).2.1.1 hn6 k) ca_X6_247 ⟨nm_X6_listMatches, by decide, by decide⟩ rfl (by decide) rfl rfl rfl (Nat.le_of_ble_eq_true rfl) (fun r881 E882 q883 => ?_)
  obtain ⟨rfl, hla0, hpl0⟩ := q883
  show WP g _ _ _ (.int (nI ((cl_ml n k).length)) :: _) _ _
  refine wp_istore_n (lv' := [(0, .ref 0), (1, .int k), (2, .int (nI ((cl_ml n k).length)))]) dX6_chooseNext_13 rfl (by decide) rfl ?_
  refine wp_iconst (v := nI 0) dX6_chooseNext_14 rfl ?_
  refine wp_istore_n (lv' := [(0, .ref 0), (1, .int k), (2, .int (nI ((cl_ml n k).length))), (3, .int (nI 0))]) dX6_chooseNext_15 rfl (by decide) rfl ?_
  exact hL 0 (by omega) E882 ((pr0).tr hpl0.pr) hla0 ⟨fun _ => by rw [hpl0.1 59 (by decide) (by decide)]; exact kn0, fun h => absurd rfl h⟩
def cl_nxa (Y : cl_T) (n : Nat) (L : cl_L) (w : Nat) : Int64 := if w = 0 then (nI (cl_nx Y n L L.length).1).toInt64 else if w = 1 then (nI (cl_nx Y n L L.length).2.1).toInt64 else if w = 2 then (nI (cl_nx Y n L L.length).2.2.1).toInt64 else if w = 3 then lN (cl_nx Y n L L.length).2.2.2.1 else lN (cl_nx Y n L L.length).2.2.2.2
set_option maxHeartbeats 400000 in
set_option maxRecDepth 100000 in
theorem c_X6_next (g : sr_G) (D : sr_St) (now : Nat → Int32) (n r : Nat) (hci : CI now n r D) (k w : Int32) (hno : cl_nok (cl_G now r) n (cl_ml n k)) : Con g M_X6_next [.ref 0, .int k, .int w] D (fun qa D' => qa = some (.long (if (sr_isIn w (nI 0) (nI 4) && decide (0 < (cl_ml n k).length)) = true then cl_nxa (cl_G now r) n (cl_ml n k) w.toNatClampNeg else -1)) ∧ cl_pr D D') := by
  refine Con.of pn_X6_next (Nat.le_of_ble_eq_true rfl) ?_
  show WP g M_X6_next 0 [(0, .ref 0), (1, .int k), (2, .int w)] [] D _
  have hn6 := hci.n6
  have hr12 := hci.r12
  refine wp_iload_n dX6_next_0 rfl rfl ?_
  refine wp_if_lt (tgt := 17) dX6_next_1 (by decide) (fun c884 => ?_) (fun c884 => ?_)
  · have hw0 := c884
    refine wp_ldc2 (v := -1) dX6_next_17 ct_X6_220 ?_
    refine wp_lret dX6_next_20 rfl ⟨?_, cl_pr.rf⟩
    rw [show sr_isIn w (nI 0) (nI 4) = false from sr_in_f1 hw0]; rfl
  · have hw0 := c884
    refine wp_iload_n dX6_next_4 rfl rfl ?_
    refine wp_iconst (v := nI 4) dX6_next_5 rfl ?_
    refine wp_icmp_gt (tgt := 17) dX6_next_6 (by decide) (fun c885 => ?_) (fun c885 => ?_)
    · have hw1 := c885
      refine wp_ldc2 (v := -1) dX6_next_17 ct_X6_220 ?_
      refine wp_lret dX6_next_20 rfl ⟨?_, cl_pr.rf⟩
      rw [show sr_isIn w (nI 0) (nI 4) = false from sr_in_f2 hw1]; rfl
    · have hw1 := c885
      refine wp_aload_n dX6_next_9 rfl rfl ?_
      refine wp_iload_n dX6_next_10 rfl rfl ?_
      refine wp_callV (M2 := M_X6_chooseNext) (n := 1) (As := [.int k]) (st := []) dX6_next_11 (c_X6_chooseNext g D now n r hci k hno) ca_X6_217 ⟨nm_X6_chooseNext, by decide, by decide⟩ rfl (by decide) rfl rfl rfl (Nat.le_of_ble_eq_true rfl) (fun r886 E887 q888 => ?_)
      obtain ⟨rfl, pr1, ch1⟩ := q888
      show WP g _ _ _ (.int (sr_b (decide (0 < (cl_ml n k).length))) :: _) _ _
      refine wp_if_ne_b (tgt := 21) dX6_next_14 (by decide) (fun c889 => ?_) (fun c889 => ?_)
      · have hf := c889
        refine wp_iload_n dX6_next_21 rfl rfl ?_
        by_cases hw890 : w = nI 0
        · subst hw890
          refine wp_tableIn (off := 30) (tgt := 52) dX6_next_22 (by decide) (by decide) rfl (by decide) ?_
          refine wp_aload_n dX6_next_52 rfl rfl ?_
          refine wp_getR (r := 59) dX6_next_53 fl_X6_49 (by decide) rfl rfl rfl ?_
          refine wp_getI dX6_next_56 fl_X6_222 (by decide) rfl rfl ?_
          refine wp_i2l dX6_next_59 ?_
          refine wp_lret dX6_next_60 rfl ⟨?_, pr1⟩
          have hch := ch1 (of_decide_eq_true hf)
          rw [show sr_isIn (nI 0) (nI 0) (nI 4) = true from sr_in_t hw0 hw1, hf, if_pos (show (true && true) = true from rfl)]
          rw [nI_clamp (by decide)]
          unfold cl_nxa
          rw [if_pos rfl, hch.1]
        by_cases hw891 : w = nI 1
        · subst hw891
          refine wp_tableIn (off := 39) (tgt := 61) dX6_next_22 (by decide) (by decide) rfl (by decide) ?_
          refine wp_aload_n dX6_next_61 rfl rfl ?_
          refine wp_getR (r := 59) dX6_next_62 fl_X6_49 (by decide) rfl rfl rfl ?_
          refine wp_getI dX6_next_65 fl_X6_225 (by decide) rfl rfl ?_
          refine wp_i2l dX6_next_68 ?_
          refine wp_lret dX6_next_69 rfl ⟨?_, pr1⟩
          have hch := ch1 (of_decide_eq_true hf)
          rw [show sr_isIn (nI 1) (nI 0) (nI 4) = true from sr_in_t hw0 hw1, hf, if_pos (show (true && true) = true from rfl)]
          rw [nI_clamp (by decide)]
          unfold cl_nxa
          rw [if_neg (by decide), if_pos rfl, hch.2.1]
        by_cases hw892 : w = nI 2
        · subst hw892
          refine wp_tableIn (off := 48) (tgt := 70) dX6_next_22 (by decide) (by decide) rfl (by decide) ?_
          refine wp_aload_n dX6_next_70 rfl rfl ?_
          refine wp_getR (r := 59) dX6_next_71 fl_X6_49 (by decide) rfl rfl rfl ?_
          refine wp_getI dX6_next_74 fl_X6_228 (by decide) rfl rfl ?_
          refine wp_i2l dX6_next_77 ?_
          refine wp_lret dX6_next_78 rfl ⟨?_, pr1⟩
          have hch := ch1 (of_decide_eq_true hf)
          rw [show sr_isIn (nI 2) (nI 0) (nI 4) = true from sr_in_t hw0 hw1, hf, if_pos (show (true && true) = true from rfl)]
          rw [nI_clamp (by decide)]
          unfold cl_nxa
          rw [if_neg (by decide), if_neg (by decide), if_pos rfl, hch.2.2.1]
        by_cases hw893 : w = nI 3
        · subst hw893
          refine wp_tableIn (off := 57) (tgt := 79) dX6_next_22 (by decide) (by decide) rfl (by decide) ?_
          refine wp_aload_n dX6_next_79 rfl rfl ?_
          refine wp_getR (r := 59) dX6_next_80 fl_X6_49 (by decide) rfl rfl rfl ?_
          refine wp_getR (r := 60) dX6_next_83 fl_X6_231 (by decide) rfl rfl rfl ?_
          refine wp_getJ dX6_next_86 fl_X6_234 (by decide) rfl rfl ?_
          refine wp_lret dX6_next_89 rfl ⟨?_, pr1⟩
          have hch := ch1 (of_decide_eq_true hf)
          rw [show sr_isIn (nI 3) (nI 0) (nI 4) = true from sr_in_t hw0 hw1, hf, if_pos (show (true && true) = true from rfl)]
          rw [nI_clamp (by decide)]
          unfold cl_nxa
          rw [if_neg (by decide), if_neg (by decide), if_neg (by decide), if_pos rfl, hch.2.2.2.1]
        refine wp_tableOut (tgt := 90) dX6_next_22 (sr_tsw 3 (by decide) (fun v hv => by rcases (show v = 0 ∨ v = 1 ∨ v = 2 ∨ v = 3 by omega) with rfl | rfl | rfl | rfl <;> assumption)) (by decide) ?_
        refine wp_aload_n dX6_next_90 rfl rfl ?_
        refine wp_getR (r := 59) dX6_next_91 fl_X6_49 (by decide) rfl rfl rfl ?_
        refine wp_getR (r := 60) dX6_next_94 fl_X6_231 (by decide) rfl rfl rfl ?_
        refine wp_getJ dX6_next_97 fl_X6_237 (by decide) rfl rfl ?_
        refine wp_lret dX6_next_100 rfl ⟨?_, pr1⟩
        have hch := ch1 (of_decide_eq_true hf)
        rw [show sr_isIn (w) (nI 0) (nI 4) = true from sr_in_t hw0 hw1, hf, if_pos (show (true && true) = true from rfl)]
        obtain ⟨z, hz, rfl⟩ := (sr_in_n (n := 5) (by decide)).mp (sr_in_t hw0 hw1)
        rw [nI_clamp (by omega)]
        unfold cl_nxa
        have hne : ∀ y, y < 4 → ¬ z = y := by
          intro y hy he
          rcases (show y = 0 ∨ y = 1 ∨ y = 2 ∨ y = 3 by omega) with rfl | rfl | rfl | rfl <;> (subst he; contradiction)
        rw [if_neg (hne 0 (by decide)), if_neg (hne 1 (by decide)), if_neg (hne 2 (by decide)), if_neg (hne 3 (by decide)), hch.2.2.2.2]
      · have hf := c889
        refine wp_ldc2 (v := -1) dX6_next_17 ct_X6_220 ?_
        refine wp_lret dX6_next_20 rfl ⟨?_, pr1⟩
        rw [hf, Bool.and_false]; rfl
