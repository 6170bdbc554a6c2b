theorem sr_tsw {x : Int32} (n : Nat) (hn : n ≤ 100) (h : ∀ v, v ≤ n → ¬ x = nI v) : x.toInt < 0 ∨ (n : Int) < x.toInt := by
  rcases sr_cases x with hx | ⟨k, hk, rfl⟩
  · left; rw [Int32.lt_iff_toInt_lt] at hx; exact hx
  · right
    rw [nI_toInt hk]
    have : ¬ k ≤ n := fun z => h k z rfl
    omega
theorem sr_tsw2 {x : Int32} (lo n : Nat) (hn : n ≤ 100) (h : ∀ v, lo ≤ v → v ≤ n → ¬ x = nI v) : x.toInt < (lo : Int) ∨ (n : Int) < x.toInt := by
  rcases sr_cases x with hx | ⟨k, hk, rfl⟩
  · left; rw [Int32.lt_iff_toInt_lt] at hx; have : (0 : Int32).toInt = 0 := rfl; omega
  · rw [nI_toInt hk]
    by_cases e : lo ≤ k
    · right
      have : ¬ k ≤ n := fun z => h k e z rfl
      omega
    · left; omega
/-- how many are ahead (0), surely ahead (1), of how many he is surely ahead (2): among the first m -/
def md_rc (n : Nat) (p s : Nat → Int64) (lim : Int32) (i k : Nat) : Nat → Nat
  | 0 => 0
  | m + 1 => md_rc n p s lim i k m + (if (if k = 0 then 0 else 1) < (if m = i then 0 else if k = 2 then md_ah n p s lim i m else md_ah n p s lim m i) then 1 else 0)
theorem md_ah_le {n : Nat} {p s : Nat → Int64} {lim : Int32} {i j : Nat} : md_ah n p s lim i j ≤ 2 := by unfold md_ah; (repeat' split) <;> omega
set_option maxHeartbeats 4000000 in
set_option maxRecDepth 100000 in
theorem c_X7_rank (g : sr_G) (D : sr_St) (n r : Nat) (hlo : sr_logOk (D.1 64) n r) (hgood : md_good (n + 1) (md_P (D.1 64) n r)) (v w : Int32) : Con g M_X7_rank [.ref 63, .int v, .int w] D (fun qa D' => qa = some (.int (if (sr_row n v && sr_isIn w (nI 0) (nI 3)) = true then (if w = nI 3 then nI (md_gr n (md_P (D.1 64) n r) v.toNatClampNeg n) else nI (md_rc n (md_P (D.1 64) n r) (md_S1 (D.1 64) n r) (D.1 64 1) v.toNatClampNeg w.toNatClampNeg n)) else -1)) ∧ sr_per D D') := by
  refine Con.of pn_X7_rank (Nat.le_of_ble_eq_true rfl) ?_
  have hn := hlo.1.1
  have hn6 := hlo.1.2.1
  have hr := hlo.1.2.2.1
  have hr12 := hlo.1.2.2.2
  by_cases hok : (sr_row n v && sr_isIn w (nI 0) (nI 3)) = true
  · obtain ⟨h1, h2⟩ := Bool.and_eq_true_iff.mp hok
    obtain ⟨x, hx, rfl⟩ := (sr_row_n hn6).mp h1
    obtain ⟨k, hk, rfl⟩ := (sr_in_n (n := 4) (by decide)).mp h2
    have hL : ¬ k = 3 → ∀ m, m ≤ n → ∀ E : sr_St, sr_per D E → md_laid (n + 1) (md_P (D.1 64) n r) (md_S1 (D.1 64) n r) E → WP g M_X7_rank 44 [(0, .ref 63), (1, .int (nI x)), (2, .int (nI k)), (3, .int (nI (md_rc n (md_P (D.1 64) n r) (md_S1 (D.1 64) n r) (D.1 64 1) x k m))), (4, .int (nI m))] [] E (fun qa D' => qa = some (.int (if (sr_row n (nI x) && sr_isIn (nI k) (nI 0) (nI 3)) = true then (if nI k = nI 3 then nI (md_gr n (md_P (D.1 64) n r) (nI x).toNatClampNeg n) else nI (md_rc n (md_P (D.1 64) n r) (md_S1 (D.1 64) n r) (D.1 64 1) (nI x).toNatClampNeg (nI k).toNatClampNeg n)) else -1)) ∧ sr_per D D') := by
      intro hk3
      refine sr_up (fun m hm ih E hper hl => ?_)
      have hah : ∀ i j, md_ah n (md_P (D.1 64) n r) (md_S1 (D.1 64) n r) (D.1 64 1) i j ≤ 2 := fun i j => md_ah_le
      refine wp_iload dX7_rank_44 rfl ?_
      refine wp_aload_n dX7_rank_46 rfl rfl ?_
      refine wp_callV (M2 := M_X7_n) (n := 0) (As := []) (st := [.int (nI m)]) dX7_rank_47 (c_X7_n_n g E n (by rw [(hper).n64]; exact hn)) ca_X7_46 ⟨nm_X7_n, by decide, by decide⟩ rfl (by decide) rfl rfl rfl (Nat.le_of_ble_eq_true rfl) (fun r399 E400 q401 => ?_)
      obtain ⟨rfl, rfl⟩ := q401
      show WP g _ _ _ (.int (nI n) :: _) _ _
      refine wp_icmp_ge_n (tgt := 115) dX7_rank_50 (by decide) (by first | omega | (split <;> omega)) (by first | omega | (split <;> omega)) (fun c402 => ?_) (fun c402 => ?_)
      · refine wp_iload_n dX7_rank_115 rfl rfl ?_
        have hmn : m = n := by omega
        subst hmn
        refine wp_iret dX7_rank_116 rfl ⟨?_, hper⟩
        rw [if_pos hok, nI_clamp (by omega), nI_clamp (by omega), if_neg (fun z => hk3 ((nI_eq (by omega) (by omega)).mp z))]
      · refine wp_iload dX7_rank_53 rfl ?_
        refine wp_iload_n dX7_rank_55 rfl rfl ?_
        refine wp_icmp_ne_n (tgt := 63) dX7_rank_56 (by decide) (by first | omega | (split <;> omega)) (by first | omega | (split <;> omega)) (fun c403 => ?_) (fun c403 => ?_)
        · have hmi := c403
          refine wp_iload_n dX7_rank_63 rfl rfl ?_
          refine wp_iconst (v := nI 2) dX7_rank_64 rfl ?_
          refine wp_icmp_ne_n (tgt := 78) dX7_rank_65 (by decide) (by first | omega | (split <;> omega)) (by first | omega | (split <;> omega)) (fun c404 => ?_) (fun c404 => ?_)
          · have hk2 := c404
            refine wp_aload_n dX7_rank_78 rfl rfl ?_
            refine wp_iload dX7_rank_79 rfl ?_
            refine wp_iload_n dX7_rank_81 rfl rfl ?_
            refine wp_callV (M2 := M_X7_isAhead) (n := 2) (As := [.int (nI m), .int (nI x)]) (st := []) dX7_rank_82 (c_X7_isAhead g E n (by rw [(hper).n64]; exact hn) hn6 (md_P (D.1 64) n r) (md_S1 (D.1 64) n r) hl hgood m x (by omega) (by omega)) ca_X7_215 ⟨nm_X7_isAhead, by decide, by decide⟩ rfl (by decide) rfl rfl rfl (Nat.le_of_ble_eq_true rfl) (fun r405 E406 q407 => ?_)
            rw [(hper).n64] at q407
            obtain ⟨rfl, kp408, la409⟩ := q407
            show WP g _ _ _ (.int (nI (md_ah n (md_P (D.1 64) n r) (md_S1 (D.1 64) n r) (D.1 64 1) m x)) :: _) _ _
            refine wp_istore (lv' := [(0, .ref 63), (1, .int (nI x)), (2, .int (nI k)), (3, .int (nI (md_rc n (md_P (D.1 64) n r) (md_S1 (D.1 64) n r) (D.1 64 1) x k m))), (4, .int (nI m)), (5, .int (nI (md_ah n (md_P (D.1 64) n r) (md_S1 (D.1 64) n r) (D.1 64 1) m x)))]) dX7_rank_85 (by decide) rfl ?_
            refine wp_iload_n dX7_rank_87 rfl rfl ?_
            refine wp_iload dX7_rank_88 rfl ?_
            refine wp_iload_n dX7_rank_90 rfl rfl ?_
            refine wp_if_ne_n (tgt := 98) dX7_rank_91 (by decide) (by first | omega | (split <;> omega)) (fun c410 => ?_) (fun c410 => ?_)
            · have hk0 := c410
              refine wp_iconst (v := nI 1) dX7_rank_98 rfl ?_
              refine wp_icmp_le_n (tgt := 106) dX7_rank_99 (by decide) (by have := hah m x; have := hah x m; omega) (by first | omega | (split <;> omega)) (fun c411 => ?_) (fun c411 => ?_)
              · have hgt := c411
                refine wp_iconst (v := nI 0) dX7_rank_106 rfl ?_
                refine wp_iadd_n dX7_rank_107 ?_
                refine wp_istore_n (lv' := [(0, .ref 63), (1, .int (nI x)), (2, .int (nI k)), (3, .int (nI ((md_rc n (md_P (D.1 64) n r) (md_S1 (D.1 64) n r) (D.1 64 1) x k m) + 0))), (4, .int (nI m)), (5, .int (nI (md_ah n (md_P (D.1 64) n r) (md_S1 (D.1 64) n r) (D.1 64 1) m x)))]) dX7_rank_108 rfl (by decide) rfl ?_
                refine wp_iinc_n (b := 1) (lv' := [(0, .ref 63), (1, .int (nI x)), (2, .int (nI k)), (3, .int (nI ((md_rc n (md_P (D.1 64) n r) (md_S1 (D.1 64) n r) (D.1 64 1) x k m) + 0))), (4, .int (nI (m + 1))), (5, .int (nI (md_ah n (md_P (D.1 64) n r) (md_S1 (D.1 64) n r) (D.1 64 1) m x)))]) dX7_rank_109 rfl rfl (by decide) rfl ?_
                refine wp_goto (tgt := 44) dX7_rank_112 (by decide) ?_
                have h := ih (by omega) E406 ((hper).tr kp408.1) la409
                rw [show md_rc n (md_P (D.1 64) n r) (md_S1 (D.1 64) n r) (D.1 64 1) x k (m + 1) = md_rc n (md_P (D.1 64) n r) (md_S1 (D.1 64) n r) (D.1 64 1) x k m + (if (if k = 0 then 0 else 1) < (if m = x then 0 else if k = 2 then md_ah n (md_P (D.1 64) n r) (md_S1 (D.1 64) n r) (D.1 64 1) x m else md_ah n (md_P (D.1 64) n r) (md_S1 (D.1 64) n r) (D.1 64 1) m x) then 1 else 0) from rfl] at h
                have hif : (if (if k = 0 then 0 else 1) < (if m = x then 0 else if k = 2 then md_ah n (md_P (D.1 64) n r) (md_S1 (D.1 64) n r) (D.1 64 1) x m else md_ah n (md_P (D.1 64) n r) (md_S1 (D.1 64) n r) (D.1 64 1) m x) then 1 else 0) = 0 := by
                  rw [if_neg hmi]; rw [if_neg hk2]; (first | rw [if_pos hk0] | rw [if_neg hk0]); rw [if_neg (by omega)]
                rw [hif] at h
                exact wp_pick [0, 1, 2, 3, 4] rfl h
              · have hgt := c411
                refine wp_iconst (v := nI 1) dX7_rank_102 rfl ?_
                refine wp_goto (tgt := 107) dX7_rank_103 (by decide) ?_
                refine wp_iadd_n dX7_rank_107 ?_
                refine wp_istore_n (lv' := [(0, .ref 63), (1, .int (nI x)), (2, .int (nI k)), (3, .int (nI ((md_rc n (md_P (D.1 64) n r) (md_S1 (D.1 64) n r) (D.1 64 1) x k m) + 1))), (4, .int (nI m)), (5, .int (nI (md_ah n (md_P (D.1 64) n r) (md_S1 (D.1 64) n r) (D.1 64 1) m x)))]) dX7_rank_108 rfl (by decide) rfl ?_
                refine wp_iinc_n (b := 1) (lv' := [(0, .ref 63), (1, .int (nI x)), (2, .int (nI k)), (3, .int (nI ((md_rc n (md_P (D.1 64) n r) (md_S1 (D.1 64) n r) (D.1 64 1) x k m) + 1))), (4, .int (nI (m + 1))), (5, .int (nI (md_ah n (md_P (D.1 64) n r) (md_S1 (D.1 64) n r) (D.1 64 1) m x)))]) dX7_rank_109 rfl rfl (by decide) rfl ?_
                refine wp_goto (tgt := 44) dX7_rank_112 (by decide) ?_
                have h := ih (by omega) E406 ((hper).tr kp408.1) la409
                rw [show md_rc n (md_P (D.1 64) n r) (md_S1 (D.1 64) n r) (D.1 64 1) x k (m + 1) = md_rc n (md_P (D.1 64) n r) (md_S1 (D.1 64) n r) (D.1 64 1) x k m + (if (if k = 0 then 0 else 1) < (if m = x then 0 else if k = 2 then md_ah n (md_P (D.1 64) n r) (md_S1 (D.1 64) n r) (D.1 64 1) x m else md_ah n (md_P (D.1 64) n r) (md_S1 (D.1 64) n r) (D.1 64 1) m x) then 1 else 0) from rfl] at h
                have hif : (if (if k = 0 then 0 else 1) < (if m = x then 0 else if k = 2 then md_ah n (md_P (D.1 64) n r) (md_S1 (D.1 64) n r) (D.1 64 1) x m else md_ah n (md_P (D.1 64) n r) (md_S1 (D.1 64) n r) (D.1 64 1) m x) then 1 else 0) = 1 := by
                  rw [if_neg hmi]; rw [if_neg hk2]; (first | rw [if_pos hk0] | rw [if_neg hk0]); rw [if_pos (by omega)]
                rw [hif] at h
                exact wp_pick [0, 1, 2, 3, 4] rfl h
            · have hk0 := c410
              refine wp_iconst (v := nI 0) dX7_rank_94 rfl ?_
              refine wp_goto (tgt := 99) dX7_rank_95 (by decide) ?_
              refine wp_icmp_le_n (tgt := 106) dX7_rank_99 (by decide) (by have := hah m x; have := hah x m; omega) (by first | omega | (split <;> omega)) (fun c412 => ?_) (fun c412 => ?_)
              · have hgt := c412
                refine wp_iconst (v := nI 0) dX7_rank_106 rfl ?_
                refine wp_iadd_n dX7_rank_107 ?_
                refine wp_istore_n (lv' := [(0, .ref 63), (1, .int (nI x)), (2, .int (nI k)), (3, .int (nI ((md_rc n (md_P (D.1 64) n r) (md_S1 (D.1 64) n r) (D.1 64 1) x k m) + 0))), (4, .int (nI m)), (5, .int (nI (md_ah n (md_P (D.1 64) n r) (md_S1 (D.1 64) n r) (D.1 64 1) m x)))]) dX7_rank_108 rfl (by decide) rfl ?_
                refine wp_iinc_n (b := 1) (lv' := [(0, .ref 63), (1, .int (nI x)), (2, .int (nI k)), (3, .int (nI ((md_rc n (md_P (D.1 64) n r) (md_S1 (D.1 64) n r) (D.1 64 1) x k m) + 0))), (4, .int (nI (m + 1))), (5, .int (nI (md_ah n (md_P (D.1 64) n r) (md_S1 (D.1 64) n r) (D.1 64 1) m x)))]) dX7_rank_109 rfl rfl (by decide) rfl ?_
                refine wp_goto (tgt := 44) dX7_rank_112 (by decide) ?_
                have h := ih (by omega) E406 ((hper).tr kp408.1) la409
                rw [show md_rc n (md_P (D.1 64) n r) (md_S1 (D.1 64) n r) (D.1 64 1) x k (m + 1) = md_rc n (md_P (D.1 64) n r) (md_S1 (D.1 64) n r) (D.1 64 1) x k m + (if (if k = 0 then 0 else 1) < (if m = x then 0 else if k = 2 then md_ah n (md_P (D.1 64) n r) (md_S1 (D.1 64) n r) (D.1 64 1) x m else md_ah n (md_P (D.1 64) n r) (md_S1 (D.1 64) n r) (D.1 64 1) m x) then 1 else 0) from rfl] at h
                have hif : (if (if k = 0 then 0 else 1) < (if m = x then 0 else if k = 2 then md_ah n (md_P (D.1 64) n r) (md_S1 (D.1 64) n r) (D.1 64 1) x m else md_ah n (md_P (D.1 64) n r) (md_S1 (D.1 64) n r) (D.1 64 1) m x) then 1 else 0) = 0 := by
                  rw [if_neg hmi]; rw [if_neg hk2]; (first | rw [if_pos hk0] | rw [if_neg hk0]); rw [if_neg (by omega)]
                rw [hif] at h
                exact wp_pick [0, 1, 2, 3, 4] rfl h
              · have hgt := c412
                refine wp_iconst (v := nI 1) dX7_rank_102 rfl ?_
                refine wp_goto (tgt := 107) dX7_rank_103 (by decide) ?_
                refine wp_iadd_n dX7_rank_107 ?_
                refine wp_istore_n (lv' := [(0, .ref 63), (1, .int (nI x)), (2, .int (nI k)), (3, .int (nI ((md_rc n (md_P (D.1 64) n r) (md_S1 (D.1 64) n r) (D.1 64 1) x k m) + 1))), (4, .int (nI m)), (5, .int (nI (md_ah n (md_P (D.1 64) n r) (md_S1 (D.1 64) n r) (D.1 64 1) m x)))]) dX7_rank_108 rfl (by decide) rfl ?_
                refine wp_iinc_n (b := 1) (lv' := [(0, .ref 63), (1, .int (nI x)), (2, .int (nI k)), (3, .int (nI ((md_rc n (md_P (D.1 64) n r) (md_S1 (D.1 64) n r) (D.1 64 1) x k m) + 1))), (4, .int (nI (m + 1))), (5, .int (nI (md_ah n (md_P (D.1 64) n r) (md_S1 (D.1 64) n r) (D.1 64 1) m x)))]) dX7_rank_109 rfl rfl (by decide) rfl ?_
                refine wp_goto (tgt := 44) dX7_rank_112 (by decide) ?_
                have h := ih (by omega) E406 ((hper).tr kp408.1) la409
                rw [show md_rc n (md_P (D.1 64) n r) (md_S1 (D.1 64) n r) (D.1 64 1) x k (m + 1) = md_rc n (md_P (D.1 64) n r) (md_S1 (D.1 64) n r) (D.1 64 1) x k m + (if (if k = 0 then 0 else 1) < (if m = x then 0 else if k = 2 then md_ah n (md_P (D.1 64) n r) (md_S1 (D.1 64) n r) (D.1 64 1) x m else md_ah n (md_P (D.1 64) n r) (md_S1 (D.1 64) n r) (D.1 64 1) m x) then 1 else 0) from rfl] at h
                have hif : (if (if k = 0 then 0 else 1) < (if m = x then 0 else if k = 2 then md_ah n (md_P (D.1 64) n r) (md_S1 (D.1 64) n r) (D.1 64 1) x m else md_ah n (md_P (D.1 64) n r) (md_S1 (D.1 64) n r) (D.1 64 1) m x) then 1 else 0) = 1 := by
                  rw [if_neg hmi]; rw [if_neg hk2]; (first | rw [if_pos hk0] | rw [if_neg hk0]); rw [if_pos (by omega)]
                rw [hif] at h
                exact wp_pick [0, 1, 2, 3, 4] rfl h
          · have hk2 := c404
            refine wp_aload_n dX7_rank_68 rfl rfl ?_
            refine wp_iload_n dX7_rank_69 rfl rfl ?_
            refine wp_iload dX7_rank_70 rfl ?_
            refine wp_callV (M2 := M_X7_isAhead) (n := 2) (As := [.int (nI x), .int (nI m)]) (st := []) dX7_rank_72 (c_X7_isAhead g E n (by rw [(hper).n64]; exact hn) hn6 (md_P (D.1 64) n r) (md_S1 (D.1 64) n r) hl hgood x m (by omega) (by omega)) ca_X7_215 ⟨nm_X7_isAhead, by decide, by decide⟩ rfl (by decide) rfl rfl rfl (Nat.le_of_ble_eq_true rfl) (fun r413 E414 q415 => ?_)
            rw [(hper).n64] at q415
            obtain ⟨rfl, kp416, la417⟩ := q415
            show WP g _ _ _ (.int (nI (md_ah n (md_P (D.1 64) n r) (md_S1 (D.1 64) n r) (D.1 64 1) x m)) :: _) _ _
            refine wp_goto (tgt := 85) dX7_rank_75 (by decide) ?_
            refine wp_istore (lv' := [(0, .ref 63), (1, .int (nI x)), (2, .int (nI k)), (3, .int (nI (md_rc n (md_P (D.1 64) n r) (md_S1 (D.1 64) n r) (D.1 64 1) x k m))), (4, .int (nI m)), (5, .int (nI (md_ah n (md_P (D.1 64) n r) (md_S1 (D.1 64) n r) (D.1 64 1) x m)))]) dX7_rank_85 (by decide) rfl ?_
            refine wp_iload_n dX7_rank_87 rfl rfl ?_
            refine wp_iload dX7_rank_88 rfl ?_
            refine wp_iload_n dX7_rank_90 rfl rfl ?_
            refine wp_if_ne_n (tgt := 98) dX7_rank_91 (by decide) (by first | omega | (split <;> omega)) (fun c418 => ?_) (fun c418 => ?_)
            · have hk0 := c418
              refine wp_iconst (v := nI 1) dX7_rank_98 rfl ?_
              refine wp_icmp_le_n (tgt := 106) dX7_rank_99 (by decide) (by have := hah m x; have := hah x m; omega) (by first | omega | (split <;> omega)) (fun c419 => ?_) (fun c419 => ?_)
              · have hgt := c419
                refine wp_iconst (v := nI 0) dX7_rank_106 rfl ?_
                refine wp_iadd_n dX7_rank_107 ?_
                refine wp_istore_n (lv' := [(0, .ref 63), (1, .int (nI x)), (2, .int (nI k)), (3, .int (nI ((md_rc n (md_P (D.1 64) n r) (md_S1 (D.1 64) n r) (D.1 64 1) x k m) + 0))), (4, .int (nI m)), (5, .int (nI (md_ah n (md_P (D.1 64) n r) (md_S1 (D.1 64) n r) (D.1 64 1) x m)))]) dX7_rank_108 rfl (by decide) rfl ?_
                refine wp_iinc_n (b := 1) (lv' := [(0, .ref 63), (1, .int (nI x)), (2, .int (nI k)), (3, .int (nI ((md_rc n (md_P (D.1 64) n r) (md_S1 (D.1 64) n r) (D.1 64 1) x k m) + 0))), (4, .int (nI (m + 1))), (5, .int (nI (md_ah n (md_P (D.1 64) n r) (md_S1 (D.1 64) n r) (D.1 64 1) x m)))]) dX7_rank_109 rfl rfl (by decide) rfl ?_
                refine wp_goto (tgt := 44) dX7_rank_112 (by decide) ?_
                have h := ih (by omega) E414 ((hper).tr kp416.1) la417
                rw [show md_rc n (md_P (D.1 64) n r) (md_S1 (D.1 64) n r) (D.1 64 1) x k (m + 1) = md_rc n (md_P (D.1 64) n r) (md_S1 (D.1 64) n r) (D.1 64 1) x k m + (if (if k = 0 then 0 else 1) < (if m = x then 0 else if k = 2 then md_ah n (md_P (D.1 64) n r) (md_S1 (D.1 64) n r) (D.1 64 1) x m else md_ah n (md_P (D.1 64) n r) (md_S1 (D.1 64) n r) (D.1 64 1) m x) then 1 else 0) from rfl] at h
                have hif : (if (if k = 0 then 0 else 1) < (if m = x then 0 else if k = 2 then md_ah n (md_P (D.1 64) n r) (md_S1 (D.1 64) n r) (D.1 64 1) x m else md_ah n (md_P (D.1 64) n r) (md_S1 (D.1 64) n r) (D.1 64 1) m x) then 1 else 0) = 0 := by
                  rw [if_neg hmi]; rw [if_pos hk2]; (first | rw [if_pos hk0] | rw [if_neg hk0]); rw [if_neg (by omega)]
                rw [hif] at h
                exact wp_pick [0, 1, 2, 3, 4] rfl h
              · have hgt := c419
                refine wp_iconst (v := nI 1) dX7_rank_102 rfl ?_
                refine wp_goto (tgt := 107) dX7_rank_103 (by decide) ?_
                refine wp_iadd_n dX7_rank_107 ?_
                refine wp_istore_n (lv' := [(0, .ref 63), (1, .int (nI x)), (2, .int (nI k)), (3, .int (nI ((md_rc n (md_P (D.1 64) n r) (md_S1 (D.1 64) n r) (D.1 64 1) x k m) + 1))), (4, .int (nI m)), (5, .int (nI (md_ah n (md_P (D.1 64) n r) (md_S1 (D.1 64) n r) (D.1 64 1) x m)))]) dX7_rank_108 rfl (by decide) rfl ?_
                refine wp_iinc_n (b := 1) (lv' := [(0, .ref 63), (1, .int (nI x)), (2, .int (nI k)), (3, .int (nI ((md_rc n (md_P (D.1 64) n r) (md_S1 (D.1 64) n r) (D.1 64 1) x k m) + 1))), (4, .int (nI (m + 1))), (5, .int (nI (md_ah n (md_P (D.1 64) n r) (md_S1 (D.1 64) n r) (D.1 64 1) x m)))]) dX7_rank_109 rfl rfl (by decide) rfl ?_
                refine wp_goto (tgt := 44) dX7_rank_112 (by decide) ?_
                have h := ih (by omega) E414 ((hper).tr kp416.1) la417
                rw [show md_rc n (md_P (D.1 64) n r) (md_S1 (D.1 64) n r) (D.1 64 1) x k (m + 1) = md_rc n (md_P (D.1 64) n r) (md_S1 (D.1 64) n r) (D.1 64 1) x k m + (if (if k = 0 then 0 else 1) < (if m = x then 0 else if k = 2 then md_ah n (md_P (D.1 64) n r) (md_S1 (D.1 64) n r) (D.1 64 1) x m else md_ah n (md_P (D.1 64) n r) (md_S1 (D.1 64) n r) (D.1 64 1) m x) then 1 else 0) from rfl] at h
                have hif : (if (if k = 0 then 0 else 1) < (if m = x then 0 else if k = 2 then md_ah n (md_P (D.1 64) n r) (md_S1 (D.1 64) n r) (D.1 64 1) x m else md_ah n (md_P (D.1 64) n r) (md_S1 (D.1 64) n r) (D.1 64 1) m x) then 1 else 0) = 1 := by
                  rw [if_neg hmi]; rw [if_pos hk2]; (first | rw [if_pos hk0] | rw [if_neg hk0]); rw [if_pos (by omega)]
                rw [hif] at h
                exact wp_pick [0, 1, 2, 3, 4] rfl h
            · have hk0 := c418
              refine wp_iconst (v := nI 0) dX7_rank_94 rfl ?_
              refine wp_goto (tgt := 99) dX7_rank_95 (by decide) ?_
              refine wp_icmp_le_n (tgt := 106) dX7_rank_99 (by decide) (by have := hah m x; have := hah x m; omega) (by first | omega | (split <;> omega)) (fun c420 => ?_) (fun c420 => ?_)
              · have hgt := c420
                refine wp_iconst (v := nI 0) dX7_rank_106 rfl ?_
                refine wp_iadd_n dX7_rank_107 ?_
                refine wp_istore_n (lv' := [(0, .ref 63), (1, .int (nI x)), (2, .int (nI k)), (3, .int (nI ((md_rc n (md_P (D.1 64) n r) (md_S1 (D.1 64) n r) (D.1 64 1) x k m) + 0))), (4, .int (nI m)), (5, .int (nI (md_ah n (md_P (D.1 64) n r) (md_S1 (D.1 64) n r) (D.1 64 1) x m)))]) dX7_rank_108 rfl (by decide) rfl ?_
                refine wp_iinc_n (b := 1) (lv' := [(0, .ref 63), (1, .int (nI x)), (2, .int (nI k)), (3, .int (nI ((md_rc n (md_P (D.1 64) n r) (md_S1 (D.1 64) n r) (D.1 64 1) x k m) + 0))), (4, .int (nI (m + 1))), (5, .int (nI (md_ah n (md_P (D.1 64) n r) (md_S1 (D.1 64) n r) (D.1 64 1) x m)))]) dX7_rank_109 rfl rfl (by decide) rfl ?_
                refine wp_goto (tgt := 44) dX7_rank_112 (by decide) ?_
                have h := ih (by omega) E414 ((hper).tr kp416.1) la417
                rw [show md_rc n (md_P (D.1 64) n r) (md_S1 (D.1 64) n r) (D.1 64 1) x k (m + 1) = md_rc n (md_P (D.1 64) n r) (md_S1 (D.1 64) n r) (D.1 64 1) x k m + (if (if k = 0 then 0 else 1) < (if m = x then 0 else if k = 2 then md_ah n (md_P (D.1 64) n r) (md_S1 (D.1 64) n r) (D.1 64 1) x m else md_ah n (md_P (D.1 64) n r) (md_S1 (D.1 64) n r) (D.1 64 1) m x) then 1 else 0) from rfl] at h
                have hif : (if (if k = 0 then 0 else 1) < (if m = x then 0 else if k = 2 then md_ah n (md_P (D.1 64) n r) (md_S1 (D.1 64) n r) (D.1 64 1) x m else md_ah n (md_P (D.1 64) n r) (md_S1 (D.1 64) n r) (D.1 64 1) m x) then 1 else 0) = 0 := by
                  rw [if_neg hmi]; rw [if_pos hk2]; (first | rw [if_pos hk0] | rw [if_neg hk0]); rw [if_neg (by omega)]
                rw [hif] at h
                exact wp_pick [0, 1, 2, 3, 4] rfl h
              · have hgt := c420
                refine wp_iconst (v := nI 1) dX7_rank_102 rfl ?_
                refine wp_goto (tgt := 107) dX7_rank_103 (by decide) ?_
                refine wp_iadd_n dX7_rank_107 ?_
                refine wp_istore_n (lv' := [(0, .ref 63), (1, .int (nI x)), (2, .int (nI k)), (3, .int (nI ((md_rc n (md_P (D.1 64) n r) (md_S1 (D.1 64) n r) (D.1 64 1) x k m) + 1))), (4, .int (nI m)), (5, .int (nI (md_ah n (md_P (D.1 64) n r) (md_S1 (D.1 64) n r) (D.1 64 1) x m)))]) dX7_rank_108 rfl (by decide) rfl ?_
                refine wp_iinc_n (b := 1) (lv' := [(0, .ref 63), (1, .int (nI x)), (2, .int (nI k)), (3, .int (nI ((md_rc n (md_P (D.1 64) n r) (md_S1 (D.1 64) n r) (D.1 64 1) x k m) + 1))), (4, .int (nI (m + 1))), (5, .int (nI (md_ah n (md_P (D.1 64) n r) (md_S1 (D.1 64) n r) (D.1 64 1) x m)))]) dX7_rank_109 rfl rfl (by decide) rfl ?_
                refine wp_goto (tgt := 44) dX7_rank_112 (by decide) ?_
                have h := ih (by omega) E414 ((hper).tr kp416.1) la417
                rw [show md_rc n (md_P (D.1 64) n r) (md_S1 (D.1 64) n r) (D.1 64 1) x k (m + 1) = md_rc n (md_P (D.1 64) n r) (md_S1 (D.1 64) n r) (D.1 64 1) x k m + (if (if k = 0 then 0 else 1) < (if m = x then 0 else if k = 2 then md_ah n (md_P (D.1 64) n r) (md_S1 (D.1 64) n r) (D.1 64 1) x m else md_ah n (md_P (D.1 64) n r) (md_S1 (D.1 64) n r) (D.1 64 1) m x) then 1 else 0) from rfl] at h
                have hif : (if (if k = 0 then 0 else 1) < (if m = x then 0 else if k = 2 then md_ah n (md_P (D.1 64) n r) (md_S1 (D.1 64) n r) (D.1 64 1) x m else md_ah n (md_P (D.1 64) n r) (md_S1 (D.1 64) n r) (D.1 64 1) m x) then 1 else 0) = 1 := by
                  rw [if_neg hmi]; rw [if_pos hk2]; (first | rw [if_pos hk0] | rw [if_neg hk0]); rw [if_pos (by omega)]
                rw [hif] at h
                exact wp_pick [0, 1, 2, 3, 4] rfl h
        · have hmi := c403
          refine wp_iconst (v := nI 0) dX7_rank_59 rfl ?_
          refine wp_goto (tgt := 85) dX7_rank_60 (by decide) ?_
          refine wp_istore (lv' := [(0, .ref 63), (1, .int (nI x)), (2, .int (nI k)), (3, .int (nI (md_rc n (md_P (D.1 64) n r) (md_S1 (D.1 64) n r) (D.1 64 1) x k m))), (4, .int (nI m)), (5, .int (nI 0))]) dX7_rank_85 (by decide) rfl ?_
          refine wp_iload_n dX7_rank_87 rfl rfl ?_
          refine wp_iload dX7_rank_88 rfl ?_
          refine wp_iload_n dX7_rank_90 rfl rfl ?_
          refine wp_if_ne_n (tgt := 98) dX7_rank_91 (by decide) (by first | omega | (split <;> omega)) (fun c421 => ?_) (fun c421 => ?_)
          · have hk0 := c421
            refine wp_iconst (v := nI 1) dX7_rank_98 rfl ?_
            refine wp_icmp_le (tgt := 106) dX7_rank_99 (by decide) (fun _ => ?_) (fun c422 => absurd c422 (by decide))
            refine wp_iconst (v := nI 0) dX7_rank_106 rfl ?_
            refine wp_iadd_n dX7_rank_107 ?_
            refine wp_istore_n (lv' := [(0, .ref 63), (1, .int (nI x)), (2, .int (nI k)), (3, .int (nI ((md_rc n (md_P (D.1 64) n r) (md_S1 (D.1 64) n r) (D.1 64 1) x k m) + 0))), (4, .int (nI m)), (5, .int (nI 0))]) dX7_rank_108 rfl (by decide) rfl ?_
            refine wp_iinc_n (b := 1) (lv' := [(0, .ref 63), (1, .int (nI x)), (2, .int (nI k)), (3, .int (nI ((md_rc n (md_P (D.1 64) n r) (md_S1 (D.1 64) n r) (D.1 64 1) x k m) + 0))), (4, .int (nI (m + 1))), (5, .int (nI 0))]) dX7_rank_109 rfl rfl (by decide) rfl ?_
            refine wp_goto (tgt := 44) dX7_rank_112 (by decide) ?_
            have h := ih (by omega) E (hper) hl
            rw [show md_rc n (md_P (D.1 64) n r) (md_S1 (D.1 64) n r) (D.1 64 1) x k (m + 1) = md_rc n (md_P (D.1 64) n r) (md_S1 (D.1 64) n r) (D.1 64 1) x k m + (if (if k = 0 then 0 else 1) < (if m = x then 0 else if k = 2 then md_ah n (md_P (D.1 64) n r) (md_S1 (D.1 64) n r) (D.1 64 1) x m else md_ah n (md_P (D.1 64) n r) (md_S1 (D.1 64) n r) (D.1 64 1) m x) then 1 else 0) from rfl] at h
            have hif : (if (if k = 0 then 0 else 1) < (if m = x then 0 else if k = 2 then md_ah n (md_P (D.1 64) n r) (md_S1 (D.1 64) n r) (D.1 64 1) x m else md_ah n (md_P (D.1 64) n r) (md_S1 (D.1 64) n r) (D.1 64 1) m x) then 1 else 0) = 0 := by
              rw [if_pos hmi]; (first | rw [if_pos hk0] | rw [if_neg hk0]); rw [if_neg (by omega)]
            rw [hif] at h
            exact wp_pick [0, 1, 2, 3, 4] rfl h
          · have hk0 := c421
            refine wp_iconst (v := nI 0) dX7_rank_94 rfl ?_
            refine wp_goto (tgt := 99) dX7_rank_95 (by decide) ?_
            refine wp_icmp_le (tgt := 106) dX7_rank_99 (by decide) (fun _ => ?_) (fun c423 => absurd c423 (by decide))
            refine wp_iconst (v := nI 0) dX7_rank_106 rfl ?_
            refine wp_iadd_n dX7_rank_107 ?_
            refine wp_istore_n (lv' := [(0, .ref 63), (1, .int (nI x)), (2, .int (nI k)), (3, .int (nI ((md_rc n (md_P (D.1 64) n r) (md_S1 (D.1 64) n r) (D.1 64 1) x k m) + 0))), (4, .int (nI m)), (5, .int (nI 0))]) dX7_rank_108 rfl (by decide) rfl ?_
            refine wp_iinc_n (b := 1) (lv' := [(0, .ref 63), (1, .int (nI x)), (2, .int (nI k)), (3, .int (nI ((md_rc n (md_P (D.1 64) n r) (md_S1 (D.1 64) n r) (D.1 64 1) x k m) + 0))), (4, .int (nI (m + 1))), (5, .int (nI 0))]) dX7_rank_109 rfl rfl (by decide) rfl ?_
            refine wp_goto (tgt := 44) dX7_rank_112 (by decide) ?_
            have h := ih (by omega) E (hper) hl
            rw [show md_rc n (md_P (D.1 64) n r) (md_S1 (D.1 64) n r) (D.1 64 1) x k (m + 1) = md_rc n (md_P (D.1 64) n r) (md_S1 (D.1 64) n r) (D.1 64 1) x k m + (if (if k = 0 then 0 else 1) < (if m = x then 0 else if k = 2 then md_ah n (md_P (D.1 64) n r) (md_S1 (D.1 64) n r) (D.1 64 1) x m else md_ah n (md_P (D.1 64) n r) (md_S1 (D.1 64) n r) (D.1 64 1) m x) then 1 else 0) from rfl] at h
            have hif : (if (if k = 0 then 0 else 1) < (if m = x then 0 else if k = 2 then md_ah n (md_P (D.1 64) n r) (md_S1 (D.1 64) n r) (D.1 64 1) x m else md_ah n (md_P (D.1 64) n r) (md_S1 (D.1 64) n r) (D.1 64 1) m x) then 1 else 0) = 0 := by
              rw [if_pos hmi]; (first | rw [if_pos hk0] | rw [if_neg hk0]); rw [if_neg (by omega)]
            rw [hif] at h
            exact wp_pick [0, 1, 2, 3, 4] rfl h
    refine wp_aload_n dX7_rank_0 rfl rfl ?_
    refine wp_iconst (v := nI 0) dX7_rank_1 rfl ?_
    refine wp_putI dX7_rank_2 fl_X7_43 (by decide) rfl rfl ?_
    refine wp_D (fun D424 eD424 => ?_)
    have p425 : sr_per D D424 := by rw [eD424]; exact sr_per_th
    refine wp_aload_n dX7_rank_5 rfl rfl ?_
    refine wp_iload_n dX7_rank_6 rfl rfl ?_
    refine wp_callV (M2 := M_X7_isRower) (n := 1) (As := [.int (nI x)]) (st := []) dX7_rank_7 (c_X7_isRower g D424 (nI x)) ca_X7_113 ⟨nm_X7_isRower, by decide, by decide⟩ rfl (by decide) rfl rfl rfl (Nat.le_of_ble_eq_true rfl) (fun r426 E427 q428 => ?_)
    rw [congrFun (((sr_per.rf).tr p425).n64) 0, hn] at q428
    obtain ⟨rfl, rfl⟩ := q428
    show WP g _ _ _ (.int (sr_b (sr_isIn (nI x) (nI 0) (nI n - nI 1))) :: _) _ _
    refine wp_if_eq_b (tgt := 22) dX7_rank_10 (by decide) (fun c429 => ?_) (fun c429 => ?_)
    · exact absurd h1 (by unfold sr_row; rw [c429]; decide)
    · refine wp_iload_n dX7_rank_13 rfl rfl ?_
      refine wp_iconst (v := nI 0) dX7_rank_14 rfl ?_
      refine wp_iconst (v := nI 3) dX7_rank_15 rfl ?_
      refine wp_callS (M2 := M_X7_isIn) (n := 3) (As := [.int (nI k), .int (nI 0), .int (nI 3)]) (st := []) dX7_rank_16 (c_X7_isIn g D424 (nI k) (nI 0) (nI 3)) ca_X7_50 ⟨nm_X7_isIn, by decide, by decide⟩ rfl rfl (Nat.le_of_ble_eq_true rfl) (fun r430 E431 q432 => ?_)
      obtain ⟨rfl, rfl⟩ := q432
      show WP g _ _ _ (.int (sr_b (sr_isIn (nI k) (nI 0) (nI 3))) :: _) _ _
      refine wp_if_ne_b (tgt := 24) dX7_rank_19 (by decide) (fun c433 => ?_) (fun c433 => ?_)
      · refine wp_aload_n dX7_rank_24 rfl rfl ?_
        refine wp_callV (M2 := M_X7_lays) (n := 0) (As := []) (st := []) dX7_rank_25 (c_X7_lays g D424 n r (by rw [((sr_per.rf).tr p425).n64]; exact hlo)) ca_X7_183 ⟨nm_X7_lays, by decide, by decide⟩ rfl (by decide) rfl rfl rfl (Nat.le_of_ble_eq_true rfl) (fun r434 E435 q436 => ?_)
        rw [((sr_per.rf).tr p425).n64] at q436
        obtain ⟨rfl, p437, la438, h65439, h63440, g63441⟩ := q436
        show WP g _ _ _ _ _ _
        refine wp_iload_n dX7_rank_28 rfl rfl ?_
        refine wp_iconst (v := nI 3) dX7_rank_29 rfl ?_
        refine wp_icmp_ne_n (tgt := 39) dX7_rank_30 (by decide) (by first | omega | (split <;> omega)) (by first | omega | (split <;> omega)) (fun c442 => ?_) (fun c442 => ?_)
        · refine wp_iconst (v := nI 0) dX7_rank_39 rfl ?_
          refine wp_istore_n (lv' := [(0, .ref 63), (1, .int (nI x)), (2, .int (nI k)), (3, .int (nI 0))]) dX7_rank_40 rfl (by decide) rfl ?_
          refine wp_iconst (v := nI 0) dX7_rank_41 rfl ?_
          refine wp_istore (lv' := [(0, .ref 63), (1, .int (nI x)), (2, .int (nI k)), (3, .int (nI 0)), (4, .int (nI 0))]) dX7_rank_42 (by decide) rfl ?_
          exact hL c442 0 (by omega) E435 (((sr_per.rf).tr p425).tr p437) la438
        · refine wp_aload_n dX7_rank_33 rfl rfl ?_
          refine wp_iload_n dX7_rank_34 rfl rfl ?_
          refine wp_callV (M2 := M_X7_groupOf) (n := 1) (As := [.int (nI x)]) (st := []) dX7_rank_35 (c_X7_groupOf g E435 n (by rw [(((sr_per.rf).tr p425).tr p437).n64]; exact hn) hn6 (md_P (D.1 64) n r) (md_S1 (D.1 64) n r) la438 hgood x (by omega)) ca_X7_212 ⟨nm_X7_groupOf, by decide, by decide⟩ rfl (by decide) rfl rfl rfl (Nat.le_of_ble_eq_true rfl) (fun r443 E444 q445 => ?_)
          obtain ⟨rfl, kp446, la447⟩ := q445
          show WP g _ _ _ (.int (nI (md_gr n (md_P (D.1 64) n r) x n)) :: _) _ _
          refine wp_iret dX7_rank_38 rfl ⟨?_, (((sr_per.rf).tr p425).tr p437).tr kp446.1⟩
          rw [if_pos hok, nI_clamp (by omega), if_pos (by rw [c442])]
      · exact absurd h2 (by rw [c433]; decide)
  · refine wp_aload_n dX7_rank_0 rfl rfl ?_
    refine wp_iconst (v := nI 0) dX7_rank_1 rfl ?_
    refine wp_putI dX7_rank_2 fl_X7_43 (by decide) rfl rfl ?_
    refine wp_D (fun D448 eD448 => ?_)
    have p449 : sr_per D D448 := by rw [eD448]; exact sr_per_th
    refine wp_aload_n dX7_rank_5 rfl rfl ?_
    refine wp_iload_n dX7_rank_6 rfl rfl ?_
    refine wp_callV (M2 := M_X7_isRower) (n := 1) (As := [.int v]) (st := []) dX7_rank_7 (c_X7_isRower g D448 v) ca_X7_113 ⟨nm_X7_isRower, by decide, by decide⟩ rfl (by decide) rfl rfl rfl (Nat.le_of_ble_eq_true rfl) (fun r450 E451 q452 => ?_)
    rw [congrFun (((sr_per.rf).tr p449).n64) 0, hn] at q452
    obtain ⟨rfl, rfl⟩ := q452
    show WP g _ _ _ (.int (sr_b (sr_isIn v (nI 0) (nI n - nI 1))) :: _) _ _
    refine wp_if_eq_b (tgt := 22) dX7_rank_10 (by decide) (fun c453 => ?_) (fun c453 => ?_)
    · refine wp_iconst (v := -1) dX7_rank_22 rfl ?_
      refine wp_iret dX7_rank_23 rfl ⟨?_, (sr_per.rf).tr p449⟩
      rw [if_neg hok]
    · have h1 := c453
      refine wp_iload_n dX7_rank_13 rfl rfl ?_
      refine wp_iconst (v := nI 0) dX7_rank_14 rfl ?_
      refine wp_iconst (v := nI 3) dX7_rank_15 rfl ?_
      refine wp_callS (M2 := M_X7_isIn) (n := 3) (As := [.int w, .int (nI 0), .int (nI 3)]) (st := []) dX7_rank_16 (c_X7_isIn g D448 w (nI 0) (nI 3)) ca_X7_50 ⟨nm_X7_isIn, by decide, by decide⟩ rfl rfl (Nat.le_of_ble_eq_true rfl) (fun r454 E455 q456 => ?_)
      obtain ⟨rfl, rfl⟩ := q456
      show WP g _ _ _ (.int (sr_b (sr_isIn w (nI 0) (nI 3))) :: _) _ _
      refine wp_if_ne_b (tgt := 24) dX7_rank_19 (by decide) (fun c457 => ?_) (fun c457 => ?_)
      · exact absurd (by unfold sr_row; rw [h1, c457]; rfl) hok
      · refine wp_iconst (v := -1) dX7_rank_22 rfl ?_
        refine wp_iret dX7_rank_23 rfl ⟨?_, (sr_per.rf).tr p449⟩
        rw [if_neg hok]
def md_cnt (n r : Nat) (D : sr_St) (v : Int32) : Int32 :=
  if v = nI 0 then nI n else if v = nI 1 then nI r else if v = nI 2 then D.1 64 1 else if v = nI 3 then D.1 63 4
  else if v = nI 4 then nI (md_cs n (md_P (D.1 64) n r) n).1 else if v = nI 5 then nI (md_gs n (md_P (D.1 64) n r) n)
  else if v = nI 6 then (if md_kn (n + 1) (md_P (D.1 64) n r) (sr_l (fun _ => nI 0)) = true then nI (md_rk (n + 1) (md_P (D.1 64) n r) (sr_l (fun _ => nI 0))) else nI 0) else -1
set_option maxHeartbeats 4000000 in
set_option maxRecDepth 100000 in
theorem c_X7_count (g : sr_G) (D : sr_St) (n r : Nat) (hlo : sr_logOk (D.1 64) n r) (hgood : md_good (n + 1) (md_P (D.1 64) n r)) (hz0 : md_kn (n + 1) (md_P (D.1 64) n r) (sr_l (fun _ => nI 0)) = true) (v : Int32) : Con g M_X7_count [.ref 63, .int v] D (fun qa D' => qa = some (.int (md_cnt n r D v)) ∧ sr_per D D') := by
  refine Con.of pn_X7_count (Nat.le_of_ble_eq_true rfl) ?_
  have hn := hlo.1.1
  have hn6 := hlo.1.2.1
  have hr := hlo.1.2.2.1
  have hr12 := hlo.1.2.2.2
  refine wp_aload_n dX7_count_0 rfl rfl ?_
  refine wp_iconst (v := nI 0) dX7_count_1 rfl ?_
  refine wp_putI dX7_count_2 fl_X7_43 (by decide) rfl rfl ?_
  refine wp_D (fun D458 eD458 => ?_)
  have p459 : sr_per D D458 := by rw [eD458]; exact sr_per_th
  refine wp_aload_n dX7_count_5 rfl rfl ?_
  refine wp_callV (M2 := M_X7_lays) (n := 0) (As := []) (st := []) dX7_count_6 (c_X7_lays g D458 n r (by rw [((sr_per.rf).tr p459).n64]; exact hlo)) ca_X7_183 ⟨nm_X7_lays, by decide, by decide⟩ rfl (by decide) rfl rfl rfl (Nat.le_of_ble_eq_true rfl) (fun r460 E461 q462 => ?_)
  rw [((sr_per.rf).tr p459).n64] at q462
  obtain ⟨rfl, p463, la464, h65465, h63466, g63467⟩ := q462
  show WP g _ _ _ _ _ _
  refine wp_iload_n dX7_count_9 rfl rfl ?_
  by_cases hw468 : v = nI 0
  · subst hw468
    refine wp_tableIn (off := 42) (tgt := 52) dX7_count_10 (by decide) (by decide) rfl (by decide) ?_
    refine wp_aload_n dX7_count_52 rfl rfl ?_
    refine wp_callV (M2 := M_X7_n) (n := 0) (As := []) (st := []) dX7_count_53 (c_X7_n_n g E461 n (by rw [(((sr_per.rf).tr p459).tr p463).n64]; exact hn)) ca_X7_46 ⟨nm_X7_n, by decide, by decide⟩ rfl (by decide) rfl rfl rfl (Nat.le_of_ble_eq_true rfl) (fun r469 E470 q471 => ?_)
    obtain ⟨rfl, rfl⟩ := q471
    show WP g _ _ _ (.int (nI n) :: _) _ _
    refine wp_iret dX7_count_56 rfl ⟨?_, ((sr_per.rf).tr p459).tr p463⟩
    unfold md_cnt
    rw [if_pos (show (nI 0 : Int32) = nI 0 from rfl)]
  by_cases hw472 : v = nI 1
  · subst hw472
    refine wp_tableIn (off := 47) (tgt := 57) dX7_count_10 (by decide) (by decide) rfl (by decide) ?_
    refine wp_aload_n dX7_count_57 rfl rfl ?_
    refine wp_callV (M2 := M_X7_races) (n := 0) (As := []) (st := []) dX7_count_58 (c_X7_races_n g E461 r (by rw [(((sr_per.rf).tr p459).tr p463).n64]; exact hr)) ca_X7_58 ⟨nm_X7_races, by decide, by decide⟩ rfl (by decide) rfl rfl rfl (Nat.le_of_ble_eq_true rfl) (fun r473 E474 q475 => ?_)
    obtain ⟨rfl, rfl⟩ := q475
    show WP g _ _ _ (.int (nI r) :: _) _ _
    refine wp_iret dX7_count_61 rfl ⟨?_, ((sr_per.rf).tr p459).tr p463⟩
    unfold md_cnt
    rw [if_neg (show ¬ (nI 1 : Int32) = nI 0 by decide), if_pos (show (nI 1 : Int32) = nI 1 from rfl)]
  by_cases hw476 : v = nI 2
  · subst hw476
    refine wp_tableIn (off := 52) (tgt := 62) dX7_count_10 (by decide) (by decide) rfl (by decide) ?_
    refine wp_aload_n dX7_count_62 rfl rfl ?_
    refine wp_getR (r := 64) dX7_count_63 fl_X7_7 (by decide) rfl rfl rfl ?_
    refine wp_iconst (v := nI 1) dX7_count_66 rfl ?_
    refine wp_iald dX7_count_67 (by decide) rfl (by decide) (by first | omega | (split <;> omega)) ?_
    rw [congrFun ((((sr_per.rf).tr p459).tr p463).n64) 1]
    refine wp_iret dX7_count_68 rfl ⟨?_, ((sr_per.rf).tr p459).tr p463⟩
    unfold md_cnt
    rw [if_neg (show ¬ (nI 2 : Int32) = nI 0 by decide), if_neg (show ¬ (nI 2 : Int32) = nI 1 by decide), if_pos (show (nI 2 : Int32) = nI 2 from rfl)]
  by_cases hw477 : v = nI 3
  · subst hw477
    refine wp_tableIn (off := 59) (tgt := 69) dX7_count_10 (by decide) (by decide) rfl (by decide) ?_
    refine wp_aload_n dX7_count_69 rfl rfl ?_
    refine wp_getI dX7_count_70 fl_X7_77 (by decide) rfl rfl ?_
    rw [(((sr_per.rf).tr p459).tr p463).2.1 4 (by decide) (by decide) (by decide) (by decide) (by decide) (by decide)]
    refine wp_iret dX7_count_73 rfl ⟨?_, ((sr_per.rf).tr p459).tr p463⟩
    unfold md_cnt
    rw [if_neg (show ¬ (nI 3 : Int32) = nI 0 by decide), if_neg (show ¬ (nI 3 : Int32) = nI 1 by decide), if_neg (show ¬ (nI 3 : Int32) = nI 2 by decide), if_pos (show (nI 3 : Int32) = nI 3 from rfl)]
  by_cases hw478 : v = nI 4
  · subst hw478
    refine wp_tableIn (off := 64) (tgt := 74) dX7_count_10 (by decide) (by decide) rfl (by decide) ?_
    refine wp_aload_n dX7_count_74 rfl rfl ?_
    refine wp_callV (M2 := M_X7_couples) (n := 0) (As := []) (st := []) dX7_count_75 (c_X7_couples g E461 n (by rw [(((sr_per.rf).tr p459).tr p463).n64]; exact hn) hn6 (md_P (D.1 64) n r) (md_S1 (D.1 64) n r) la464 hgood  hz0) ca_X7_221 ⟨nm_X7_couples, by decide, by decide⟩ rfl (by decide) rfl rfl rfl (Nat.le_of_ble_eq_true rfl) (fun r479 E480 q481 => ?_)
    obtain ⟨rfl, kp482, la483, j20h, byh⟩ := q481
    show WP g _ _ _ (.int (nI ((md_cs n (md_P (D.1 64) n r) n).1)) :: _) _ _
    refine wp_iret dX7_count_78 rfl ⟨?_, (((sr_per.rf).tr p459).tr p463).tr kp482.1⟩
    unfold md_cnt
    rw [if_neg (show ¬ (nI 4 : Int32) = nI 0 by decide), if_neg (show ¬ (nI 4 : Int32) = nI 1 by decide), if_neg (show ¬ (nI 4 : Int32) = nI 2 by decide), if_neg (show ¬ (nI 4 : Int32) = nI 3 by decide), if_pos (show (nI 4 : Int32) = nI 4 from rfl)]
  by_cases hw484 : v = nI 5
  · subst hw484
    refine wp_tableIn (off := 69) (tgt := 79) dX7_count_10 (by decide) (by decide) rfl (by decide) ?_
    refine wp_aload_n dX7_count_79 rfl rfl ?_
    refine wp_callV (M2 := M_X7_groups) (n := 0) (As := []) (st := []) dX7_count_80 (c_X7_groups g E461 n (by rw [(((sr_per.rf).tr p459).tr p463).n64]; exact hn) hn6 (md_P (D.1 64) n r) (md_S1 (D.1 64) n r) la464 hgood ) ca_X7_224 ⟨nm_X7_groups, by decide, by decide⟩ rfl (by decide) rfl rfl rfl (Nat.le_of_ble_eq_true rfl) (fun r485 E486 q487 => ?_)
    obtain ⟨rfl, kp488, la489⟩ := q487
    show WP g _ _ _ (.int (nI (md_gs n (md_P (D.1 64) n r) n)) :: _) _ _
    refine wp_iret dX7_count_83 rfl ⟨?_, (((sr_per.rf).tr p459).tr p463).tr kp488.1⟩
    unfold md_cnt
    rw [if_neg (show ¬ (nI 5 : Int32) = nI 0 by decide), if_neg (show ¬ (nI 5 : Int32) = nI 1 by decide), if_neg (show ¬ (nI 5 : Int32) = nI 2 by decide), if_neg (show ¬ (nI 5 : Int32) = nI 3 by decide), if_neg (show ¬ (nI 5 : Int32) = nI 4 by decide), if_pos (show (nI 5 : Int32) = nI 5 from rfl)]
  by_cases hw490 : v = nI 6
  · subst hw490
    refine wp_tableIn (off := 74) (tgt := 84) dX7_count_10 (by decide) (by decide) rfl (by decide) ?_
    refine wp_aload_n dX7_count_84 rfl rfl ?_
    refine wp_callV (M2 := M_X7_rankNow) (n := 0) (As := []) (st := []) dX7_count_85 (c_X7_rankNow g E461 n (by rw [(((sr_per.rf).tr p459).tr p463).n64]; exact hn) hn6 (md_P (D.1 64) n r) (md_S1 (D.1 64) n r) la464 hgood ) ca_X7_227 ⟨nm_X7_rankNow, by decide, by decide⟩ rfl (by decide) rfl rfl rfl (Nat.le_of_ble_eq_true rfl) (fun r491 E492 q493 => ?_)
    obtain ⟨rfl, kp494, la495⟩ := q493
    show WP g _ _ _ (.int (if md_kn (n + 1) (md_P (D.1 64) n r) (sr_l (fun _ => nI 0)) = true then nI (md_rk (n + 1) (md_P (D.1 64) n r) (sr_l (fun _ => nI 0))) else nI 0) :: _) _ _
    refine wp_iret dX7_count_88 rfl ⟨?_, (((sr_per.rf).tr p459).tr p463).tr kp494.1⟩
    unfold md_cnt
    rw [if_neg (show ¬ (nI 6 : Int32) = nI 0 by decide), if_neg (show ¬ (nI 6 : Int32) = nI 1 by decide), if_neg (show ¬ (nI 6 : Int32) = nI 2 by decide), if_neg (show ¬ (nI 6 : Int32) = nI 3 by decide), if_neg (show ¬ (nI 6 : Int32) = nI 4 by decide), if_neg (show ¬ (nI 6 : Int32) = nI 5 by decide), if_pos (show (nI 6 : Int32) = nI 6 from rfl)]
  refine wp_tableOut (tgt := 89) dX7_count_10 (sr_tsw 6 (by decide) (fun v hv => by rcases (show v = 0 ∨ v = 1 ∨ v = 2 ∨ v = 3 ∨ v = 4 ∨ v = 5 ∨ v = 6 by omega) with rfl | rfl | rfl | rfl | rfl | rfl | rfl <;> assumption)) (by decide) ?_
  refine wp_iconst (v := -1) dX7_count_89 rfl ?_
  refine wp_iret dX7_count_90 rfl ⟨?_, ((sr_per.rf).tr p459).tr p463⟩
  unfold md_cnt
  rw [if_neg (by assumption), if_neg (by assumption), if_neg (by assumption), if_neg (by assumption), if_neg (by assumption), if_neg (by assumption), if_neg (by assumption)]
