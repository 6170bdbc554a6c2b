/-! ===== the list of matches ===== -/
abbrev cl_L : Type := List (Nat × Nat)
def cl_mF (n : Nat) (k : Int32) : Nat → Nat → cl_L → cl_L := fun a b s => if sr_bc (nI a) = k ∧ s.length < 45 ∧ cl_mt n a b = true then s ++ [(a, b)] else s
def cl_ml (n : Nat) (k : Int32) : cl_L := sr_fa (cl_mF n k) (2 ^ n) (2 ^ n - 1) []
def cl_lat (D : sr_St) (L : cl_L) : Prop := ∀ i, i < L.length → D.1 61 i = nI (L.getD i (0, 0)).1 ∧ D.1 62 i = nI (L.getD i (0, 0)).2
/-- nothing but the lists changed -/
def cl_pl (D E : sr_St) : Prop := (∀ o, ¬ o = 61 → ¬ o = 62 → E.1 o = D.1 o) ∧ E.2 = D.2
theorem cl_pl.rf {D : sr_St} : cl_pl D D := ⟨fun _ _ _ => rfl, rfl⟩
theorem cl_pl.pr {D E : sr_St} (h : cl_pl D E) : cl_pr D E := ⟨fun o _ b => h.1 o (by omega) (by omega), fun o _ => by rw [h.2]⟩
theorem cl_fb_skip {n : Nat} {k : Int32} {a : Nat} (h : ¬ sr_bc (nI a) = k) : ∀ j s, sr_fb (cl_mF n k) a j s = s
  | 0, _ => rfl
  | j + 1, s => by
    show cl_mF n k a (1 + j) (sr_fb (cl_mF n k) a j s) = s
    rw [cl_fb_skip h j s]
    unfold cl_mF; rw [if_neg (fun z => h z.1)]
theorem cl_fb_full {n : Nat} {k : Int32} {a : Nat} {s : cl_L} {j : Nat} (h : ¬ (sr_fb (cl_mF n k) a j s).length < 45) : ∀ d, sr_fb (cl_mF n k) a (j + d) s = sr_fb (cl_mF n k) a j s
  | 0 => rfl
  | d + 1 => by
    show cl_mF n k a (1 + (j + d)) (sr_fb (cl_mF n k) a (j + d) s) = _
    rw [cl_fb_full h d]
    unfold cl_mF; rw [if_neg (fun z => h z.2.1)]
theorem cl_mF_len {n : Nat} {k : Int32} {a b : Nat} {s : cl_L} (h : s.length ≤ 45) : (cl_mF n k a b s).length ≤ 45 := by
  unfold cl_mF
  split
  · next z => rw [List.length_append]; show s.length + 1 ≤ 45; omega
  · exact h
theorem cl_fb_len {n : Nat} {k : Int32} {a : Nat} : ∀ j (s : cl_L), s.length ≤ 45 → (sr_fb (cl_mF n k) a j s).length ≤ 45
  | 0, _, h => h
  | j + 1, s, h => cl_mF_len (cl_fb_len j s h)
theorem cl_fa_len {n : Nat} {k : Int32} {N : Nat} : ∀ i, (sr_fa (cl_mF n k) N i []).length ≤ 45
  | 0 => Nat.zero_le _
  | i + 1 => cl_fb_len _ _ (cl_fa_len i)
set_option maxHeartbeats 4000000 in
set_option maxRecDepth 100000 in
theorem c_X6_listMatches (g : sr_G) (D : sr_St) (n : Nat) (hn : D.1 1 0 = nI n) (hn6 : n ≤ 6) (k : Int32) : Con g M_X6_listMatches [.ref 0, .int k] D (fun qa D' => qa = some (.int (nI (cl_ml n k).length)) ∧ cl_lat D' (cl_ml n k) ∧ cl_pl D D') := by
  refine Con.of pn_X6_listMatches (Nat.le_of_ble_eq_true rfl) ?_
  show WP g M_X6_listMatches 0 [(0, .ref 0), (1, .int k)] [] D _
  have hpw := sr_pw hn6
  have hpp := Nat.two_pow_pos n
  have hL : ∀ i, i ≤ 2 ^ n - 1 → ∀ E : sr_St, cl_lat E (sr_fa (cl_mF n k) (2 ^ n) i []) → cl_pl D E → WP g M_X6_listMatches 15 [(0, .ref 0), (1, .int k), (2, .int (nI (1 * 2 ^ n))), (3, .int (nI ((sr_fa (cl_mF n k) (2 ^ n) i []).length))), (4, .int (nI (1 + i)))] [] E (fun qa D' => qa = some (.int (nI (cl_ml n k).length)) ∧ cl_lat D' (cl_ml n k) ∧ cl_pl D D') := by
    refine sr_up (fun i hi ih E hla hpl => ?_)
    have hl1 : (sr_fa (cl_mF n k) (2 ^ n) i []).length ≤ 45 := cl_fa_len i
    have h84 : i < 2 ^ n - 1 → ∀ E : sr_St, cl_lat E (sr_fa (cl_mF n k) (2 ^ n) (i + 1) []) → cl_pl D E → WP g M_X6_listMatches 84 [(0, .ref 0), (1, .int k), (2, .int (nI (1 * 2 ^ n))), (3, .int (nI ((sr_fa (cl_mF n k) (2 ^ n) (i + 1) []).length))), (4, .int (nI (1 + i)))] [] E (fun qa D' => qa = some (.int (nI (cl_ml n k).length)) ∧ cl_lat D' (cl_ml n k) ∧ cl_pl D D') := by
      intro hin E hla hpl
      refine wp_iinc_n (b := 1) (lv' := [(0, .ref 0), (1, .int k), (2, .int (nI (1 * 2 ^ n))), (3, .int (nI ((sr_fa (cl_mF n k) (2 ^ n) (i + 1) []).length))), (4, .int (nI (1 + (i + 1))))]) dX6_listMatches_84 rfl rfl (by decide) rfl ?_
      refine wp_goto (tgt := 15) dX6_listMatches_87 (by decide) ?_
      exact ih (by omega) E hla hpl
    have hI : i < 2 ^ n - 1 → sr_bc (nI (1 + i)) = k → ∀ j, j ≤ 2 ^ n - 1 → ∀ E : sr_St, cl_lat E (sr_fb (cl_mF n k) (1 + i) j (sr_fa (cl_mF n k) (2 ^ n) i [])) → cl_pl D E → WP g M_X6_listMatches 36 [(0, .ref 0), (1, .int k), (2, .int (nI (1 * 2 ^ n))), (3, .int (nI ((sr_fb (cl_mF n k) (1 + i) j (sr_fa (cl_mF n k) (2 ^ n) i [])).length))), (4, .int (nI (1 + i))), (5, .int (nI (1 + j)))] [] E (fun qa D' => qa = some (.int (nI (cl_ml n k).length)) ∧ cl_lat D' (cl_ml n k) ∧ cl_pl D D') := by
      intro hin hbk
      refine sr_up (fun j hj ihj E hla hpl => ?_)
      have hl2 : (sr_fb (cl_mF n k) (1 + i) j (sr_fa (cl_mF n k) (2 ^ n) i [])).length ≤ 45 := cl_fb_len _ _ hl1
      refine wp_iload dX6_listMatches_36 rfl ?_
      refine wp_iload_n dX6_listMatches_38 rfl rfl ?_
      refine wp_icmp_ge_n (tgt := 84) dX6_listMatches_39 (by decide) (by first | omega | (split <;> omega)) (by first | omega | (split <;> omega)) (fun c617 => ?_) (fun c617 => ?_)
      · have hje : j = 2 ^ n - 1 := by omega
        have hq := h84 hin E
        rw [show sr_fa (cl_mF n k) (2 ^ n) (i + 1) [] = sr_fb (cl_mF n k) (1 + i) j (sr_fa (cl_mF n k) (2 ^ n) i []) by rw [hje]; rfl] at hq
        exact wp_pick [0, 1, 2, 3, 4] rfl (hq hla hpl)
      · refine wp_iload_n dX6_listMatches_42 rfl rfl ?_
        refine wp_bipush (v := nI 45) dX6_listMatches_43 rfl ?_
        refine wp_icmp_ge_n (tgt := 84) dX6_listMatches_45 (by decide) (by first | omega | (split <;> omega)) (by first | omega | (split <;> omega)) (fun c618 => ?_) (fun c618 => ?_)
        · have hd : ∃ d, 2 ^ n - 1 = j + d := ⟨2 ^ n - 1 - j, by omega⟩
          obtain ⟨d, hd⟩ := hd
          have hq := h84 hin E
          rw [show sr_fa (cl_mF n k) (2 ^ n) (i + 1) [] = sr_fb (cl_mF n k) (1 + i) j (sr_fa (cl_mF n k) (2 ^ n) i []) by show sr_fb (cl_mF n k) (1 + i) (2 ^ n - 1) _ = _; rw [hd]; exact cl_fb_full (by omega) d] at hq
          exact wp_pick [0, 1, 2, 3, 4] rfl (hq hla hpl)
        · have h45 := c618
          refine wp_aload_n dX6_listMatches_48 rfl rfl ?_
          refine wp_iload dX6_listMatches_49 rfl ?_
          refine wp_iload dX6_listMatches_51 rfl ?_
          refine wp_callV (M2 := M_X6_isMatch) (n := 2) (As := [.int (nI (1 + i)), .int (nI (1 + j))]) (st := []) dX6_listMatches_53 (c_X6_isMatch g E n (by rw [hpl.1 1 (by decide) (by decide)]; exact hn) hn6 (1 + i) (1 + j)) ca_X6_288 ⟨nm_X6_isMatch, by decide, by decide⟩ rfl (by decide) rfl rfl rfl (Nat.le_of_ble_eq_true rfl) (fun r619 E620 q621 => ?_)
          obtain ⟨rfl, rfl⟩ := q621
          show WP g _ _ _ (.int (sr_b (cl_mt n (1 + i) (1 + j))) :: _) _ _
          refine wp_if_eq_b (tgt := 78) dX6_listMatches_56 (by decide) (fun c622 => ?_) (fun c622 => ?_)
          · have hmt := c622
            refine wp_iinc_n (b := 1) (lv' := [(0, .ref 0), (1, .int k), (2, .int (nI (1 * 2 ^ n))), (3, .int (nI ((sr_fb (cl_mF n k) (1 + i) j (sr_fa (cl_mF n k) (2 ^ n) i [])).length))), (4, .int (nI (1 + i))), (5, .int (nI (1 + (j + 1))))]) dX6_listMatches_78 rfl rfl (by decide) rfl ?_
            refine wp_goto (tgt := 36) dX6_listMatches_81 (by decide) ?_
            have hS : sr_fb (cl_mF n k) (1 + i) (j + 1) (sr_fa (cl_mF n k) (2 ^ n) i []) = sr_fb (cl_mF n k) (1 + i) j (sr_fa (cl_mF n k) (2 ^ n) i []) := if_neg (fun z => by rw [hmt] at z; exact absurd z.2.2 (by decide))
            have h := ihj (by omega) E
            rw [hS] at h
            exact h hla hpl
          · have hmt := c622
            refine wp_aload_n dX6_listMatches_59 rfl rfl ?_
            refine wp_getR (r := 61) dX6_listMatches_60 fl_X6_53 (by decide) rfl rfl rfl ?_
            refine wp_iload_n dX6_listMatches_63 rfl rfl ?_
            refine wp_iload dX6_listMatches_64 rfl ?_
            refine wp_iast dX6_listMatches_66 (by decide) rfl (show _ < 45 by omega) (by first | omega | (split <;> omega)) ?_
            refine wp_D (fun D623 eD623 => ?_)
            refine wp_aload_n dX6_listMatches_67 rfl rfl ?_
            refine wp_getR (r := 62) dX6_listMatches_68 fl_X6_57 (by decide) rfl rfl rfl ?_
            refine wp_iload_n dX6_listMatches_71 rfl rfl ?_
            refine wp_iload dX6_listMatches_72 rfl ?_
            refine wp_iast dX6_listMatches_74 (by decide) rfl (show _ < 45 by omega) (by first | omega | (split <;> omega)) ?_
            refine wp_D (fun D624 eD624 => ?_)
            refine wp_iinc_n (b := 1) (lv' := [(0, .ref 0), (1, .int k), (2, .int (nI (1 * 2 ^ n))), (3, .int (nI ((sr_fb (cl_mF n k) (1 + i) j (sr_fa (cl_mF n k) (2 ^ n) i [])).length + 1))), (4, .int (nI (1 + i))), (5, .int (nI (1 + j)))]) dX6_listMatches_75 rfl rfl (by decide) rfl ?_
            refine wp_iinc_n (b := 1) (lv' := [(0, .ref 0), (1, .int k), (2, .int (nI (1 * 2 ^ n))), (3, .int (nI ((sr_fb (cl_mF n k) (1 + i) j (sr_fa (cl_mF n k) (2 ^ n) i [])).length + 1))), (4, .int (nI (1 + i))), (5, .int (nI (1 + (j + 1))))]) dX6_listMatches_78 rfl rfl (by decide) rfl ?_
            refine wp_goto (tgt := 36) dX6_listMatches_81 (by decide) ?_
            refine wp_D (fun F eF => ?_)
            have hS : sr_fb (cl_mF n k) (1 + i) (j + 1) (sr_fa (cl_mF n k) (2 ^ n) i []) = sr_fb (cl_mF n k) (1 + i) j (sr_fa (cl_mF n k) (2 ^ n) i []) ++ [(1 + i, 1 + j)] := if_pos ⟨hbk, by omega, hmt⟩
            have h := ihj (by omega) F
            rw [hS, List.length_append] at h
            refine h ?_ ?_
            · rw [eF]; subst eD623 eD624
              intro z hz
              rw [List.length_append] at hz
              have hz2 : z < (sr_fb (cl_mF n k) (1 + i) j (sr_fa (cl_mF n k) (2 ^ n) i [])).length + 1 := hz
              rw [sr_sI_1, sr_sI_1, sr_sI_1, sr_sI_1]
              by_cases e : z = (sr_fb (cl_mF n k) (1 + i) j (sr_fa (cl_mF n k) (2 ^ n) i [])).length
              · subst e; rw [if_neg (by omega), if_pos ⟨rfl, rfl⟩, if_pos ⟨rfl, rfl⟩]
                rw [List.getD_eq_getElem?_getD, List.getElem?_append_right (Nat.le_refl _), Nat.sub_self]; exact ⟨rfl, rfl⟩
              · rw [if_neg (by omega), if_neg (by omega), if_neg (by omega), if_neg (by omega)]
                rw [List.getD_eq_getElem?_getD, List.getElem?_append_left (by omega), ← List.getD_eq_getElem?_getD]; exact hla z (by omega)
            · rw [eF]; subst eD623 eD624
              exact ⟨fun o a b => by funext z; rw [sr_sI_1, if_neg (fun y => b y.1), sr_sI_1, if_neg (fun y => a y.1)]; exact congrFun (hpl.1 o a b) z, hpl.2⟩
    refine wp_iload dX6_listMatches_15 rfl ?_
    refine wp_iload_n dX6_listMatches_17 rfl rfl ?_
    refine wp_icmp_ge_n (tgt := 90) dX6_listMatches_18 (by decide) (by first | omega | (split <;> omega)) (by first | omega | (split <;> omega)) (fun c625 => ?_) (fun c625 => ?_)
    · refine wp_iload_n dX6_listMatches_90 rfl rfl ?_
      have hie : i = 2 ^ n - 1 := by omega
      subst hie
      exact wp_iret dX6_listMatches_91 rfl ⟨rfl, hla, hpl⟩
    · refine wp_iload dX6_listMatches_21 rfl ?_
      refine wp_callS (M2 := M_J6_bitCount_0f7a4) (n := 1) (As := [.int (nI (1 + i))]) (st := []) dX6_listMatches_23 (c_J6_bitCount_0f7a4 g E (nI (1 + i))) ca_X6_196 ⟨nm_J6_bitCount_0f7a4, by decide, by decide⟩ rfl rfl (Nat.le_of_ble_eq_true rfl) (fun r626 E627 q628 => ?_)
      obtain ⟨rfl, rfl⟩ := q628
      show WP g _ _ _ (.int (sr_bc (nI (1 + i))) :: _) _ _
      refine wp_iload_n dX6_listMatches_26 rfl rfl ?_
      refine wp_icmp_eq (tgt := 33) dX6_listMatches_27 (by decide) (fun c629 => ?_) (fun c629 => ?_)
      · have hbk := c629
        refine wp_iconst (v := nI 1) dX6_listMatches_33 rfl ?_
        refine wp_istore (lv' := [(0, .ref 0), (1, .int k), (2, .int (nI (1 * 2 ^ n))), (3, .int (nI ((sr_fa (cl_mF n k) (2 ^ n) i []).length))), (4, .int (nI (1 + i))), (5, .int (nI 1))]) dX6_listMatches_34 (by decide) rfl ?_
        exact hI (by omega) hbk 0 (by omega) E hla hpl
      · have hbk := c629
        refine wp_goto (tgt := 84) dX6_listMatches_30 (by decide) ?_
        have hq := h84 (by omega) E
        rw [show sr_fa (cl_mF n k) (2 ^ n) (i + 1) [] = sr_fa (cl_mF n k) (2 ^ n) i [] from cl_fb_skip hbk _ _] at hq
        exact hq hla hpl
  refine wp_iconst (v := nI 1) dX6_listMatches_0 rfl ?_
  refine wp_aload_n dX6_listMatches_1 rfl rfl ?_
  refine wp_getR (r := 1) dX6_listMatches_2 fl_X6_10 (by decide) rfl rfl rfl ?_
  refine wp_getI_n (n := n) dX6_listMatches_5 fl_X6_132 (by decide) rfl rfl (hn) ?_
  refine wp_ishl_n dX6_listMatches_8 (by omega) (sr_pw1 (by omega)) ?_
  refine wp_istore_n (lv' := [(0, .ref 0), (1, .int k), (2, .int (nI (1 * 2 ^ n)))]) dX6_listMatches_9 rfl (by decide) rfl ?_
  refine wp_iconst (v := nI 0) dX6_listMatches_10 rfl ?_
  refine wp_istore_n (lv' := [(0, .ref 0), (1, .int k), (2, .int (nI (1 * 2 ^ n))), (3, .int (nI 0))]) dX6_listMatches_11 rfl (by decide) rfl ?_
  refine wp_iconst (v := nI 1) dX6_listMatches_12 rfl ?_
  refine wp_istore (lv' := [(0, .ref 0), (1, .int k), (2, .int (nI (1 * 2 ^ n))), (3, .int (nI 0)), (4, .int (nI 1))]) dX6_listMatches_13 (by decide) rfl ?_
  exact hL 0 (by omega) D (fun i h => absurd h (Nat.not_lt_zero i)) cl_pl.rf
