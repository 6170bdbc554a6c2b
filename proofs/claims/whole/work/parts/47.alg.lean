/-! ===== odd ===== -/
theorem sr_goes_ok {now : Nat → Int32} {n r q : Nat} (h : sr_logOk now n r) (hq : q < r) : sr_logOk (sr_goes now q r) n (r - 1) := by
  obtain ⟨⟨h0, h1, h2, h3⟩, h4⟩ := h
  refine ⟨⟨?_, h1, ?_, by omega⟩, ?_⟩
  · unfold sr_goes; rw [if_neg (by decide), if_neg (by omega)]; exact h0
  · unfold sr_goes; rw [if_pos rfl]
  · intro p hp
    have e : ∀ k, k < 4 → sr_goes now q r (3 + 4 * p + k) = now (3 + 4 * (if p < q then p else p + 1) + k) := by
      intro k hk
      unfold sr_goes
      rw [if_neg (by omega)]
      by_cases hpq : p < q
      · rw [if_neg (by omega), if_pos hpq]
      · rw [if_pos (by omega), if_neg hpq]; congr 1; omega
    have hp2 : (if p < q then p else p + 1) < r := by split <;> omega
    have h5 := h4 _ hp2
    generalize (if p < q then p else p + 1) = z at h5 e hp2
    have e0 := e 0 (by decide); have e1 := e 1 (by decide); have e2 := e 2 (by decide); have e3 := e 3 (by decide)
    simp only [Nat.add_zero] at e0
    have a1 : sr_ra (sr_goes now q r) p = sr_ra now z := by unfold sr_ra; rw [e0]
    have a2 : sr_rb (sr_goes now q r) p = sr_rb now z := by unfold sr_rb; rw [e1]
    rw [a1, a2, e0, e1, e2, e3]; exact h5
def md_odu (now : Nat → Int32) (n r q : Nat) : Nat := (md_su n (r - 1) (sr_goes now q r)).toInt.toNat
def md_odb (now : Nat → Int32) (n r q : Nat) : Nat := (md_b (n + 1) (md_P (sr_goes now q r) n (r - 1))).toInt.toNat
/-- what the algebra owes for a race that is left out -/
def md_odok (now : Nat → Int32) (n r q : Nat) : Prop := 0 < md_b (n + 1) (md_P (sr_goes now q r) n (r - 1)) ∧ 0 ≤ (md_su n (r - 1) (sr_goes now q r)).toInt
def md_od (now : Nat → Int32) (n r : Nat) : Nat → Nat × Nat × Nat
  | 0 => (0, 0, 1)
  | q + 1 => if q = 0 ∨ md_odu now n r q * (md_od now n r q).2.2 < (md_od now n r q).2.1 * md_odb now n r q then (q, md_odu now n r q, md_odb now n r q) else md_od now n r q
theorem md_od_b {now : Nat → Int32} {n r q : Nat} (h : md_odok now n r q) : md_odu now n r q < 2 ^ 63 ∧ md_odb now n r q < 2 ^ 63 ∧ 0 < md_odb now n r q ∧ md_su n (r - 1) (sr_goes now q r) = lN (md_odu now n r q) ∧ md_b (n + 1) (md_P (sr_goes now q r) n (r - 1)) = lN (md_odb now n r q) := by
  have hp := h.1
  rw [Int64.lt_iff_toInt_lt] at hp
  have e0 : (0 : Int64).toInt = 0 := rfl
  have h1 := sr_lN_of h.2
  have h2 := sr_lN_of (x := md_b (n + 1) (md_P (sr_goes now q r) n (r - 1))) (by omega)
  refine ⟨h1.2, h2.2, ?_, h1.1, h2.1⟩
  show 0 < (md_b (n + 1) (md_P (sr_goes now q r) n (r - 1))).toInt.toNat
  omega
theorem md_od_ok {now : Nat → Int32} {n r : Nat} (hr : r ≤ 12) (h : ∀ q, q < r → md_odok now n r q) : ∀ q, q ≤ r → (md_od now n r q).1 < 12 ∧ (md_od now n r q).2.1 < 2 ^ 63 ∧ (md_od now n r q).2.2 < 2 ^ 63 ∧ 0 < (md_od now n r q).2.2 := by
  intro q
  induction q with
  | zero => intro _; exact ⟨(show 0 < 12 by decide), (show 0 < 2 ^ 63 by decide), (show 1 < 2 ^ 63 by decide), (show 0 < 1 by decide)⟩
  | succ q ih =>
    intro hq
    have hb := md_od_b (h q (by omega))
    unfold md_od
    split
    · exact ⟨by show q < 12; omega, hb.1, hb.2.1, hb.2.2.1⟩
    · exact ih (by omega)
theorem sr_n1 {x : Nat} (h : x < 12) : ¬ nI x = -1 := by
  intro e
  have := congrArg Int32.toInt e
  rw [nI_toInt (by omega)] at this
  have e1 : (-1 : Int32).toInt = -1 := rfl
  omega
def md_oda (now : Nat → Int32) (n r w : Nat) : Int64 := if w = 0 then (nI (md_od now n r r).1).toInt64 else sr_told (lN (md_od now n r r).2.1) (lN (md_od now n r r).2.2) (if w = 2 then nI 1 else nI 0)
set_option maxHeartbeats 4000000 in
set_option maxRecDepth 100000 in
theorem c_X7_odd (g : sr_G) (D : sr_St) (n r : Nat) (hlo : sr_logOk (D.1 64) n r) (hgood : md_good (n + 1) (md_P (D.1 64) n r)) (w : Int32) (hod : ∀ q, q < r → md_odok (D.1 64) n r q) : Con g M_X7_odd [.ref 63, .int w] D (fun qa D' => qa = some (.long (if (decide (¬ r = 0) && sr_isIn w (nI 0) (nI 2)) = true then md_oda (D.1 64) n r w.toNatClampNeg else -1)) ∧ sr_per D D') := by
  refine Con.of pn_X7_odd (Nat.le_of_ble_eq_true rfl) ?_
  have hn := hlo.1.1
  have hn6 := hlo.1.2.1
  have hr := hlo.1.2.2.1
  have hr12 := hlo.1.2.2.2
  by_cases hok : (decide (¬ r = 0) && sr_isIn w (nI 0) (nI 2)) = true
  · obtain ⟨h1, h2⟩ := Bool.and_eq_true_iff.mp hok
    have hr0 := of_decide_eq_true h1
    obtain ⟨z, hz, rfl⟩ := (sr_in_n (n := 3) (by decide)).mp h2
    have hbo := md_od_ok hr12 hod
    have h163 : ∀ E : sr_St, sr_per D E → WP g M_X7_odd 163 [(0, .ref 63), (1, .int (nI z)), (2, .int (nI (md_od (D.1 64) n r r).1)), (3, .long (lN (md_od (D.1 64) n r r).2.1)), (5, .long (lN (md_od (D.1 64) n r r).2.2))] [] E (fun qa D' => qa = some (.long (if (decide (¬ r = 0) && sr_isIn (nI z) (nI 0) (nI 2)) = true then md_oda (D.1 64) n r (nI z).toNatClampNeg else -1)) ∧ sr_per D D') := by
      intro E hper
      obtain ⟨b1, b2, b3, b4⟩ := hbo r (Nat.le_refl _)
      refine wp_iload_n dX7_odd_163 rfl rfl ?_
      refine wp_if_ne_n (tgt := 172) dX7_odd_164 (by decide) (by first | omega | (split <;> omega)) (fun c1054 => ?_) (fun c1054 => ?_)
      · have hz0 := c1054
        refine wp_lload_n dX7_odd_172 rfl rfl ?_
        refine wp_lload dX7_odd_173 rfl ?_
        refine wp_iload_n dX7_odd_175 rfl rfl ?_
        refine wp_iconst (v := nI 2) dX7_odd_176 rfl ?_
        refine wp_icmp_ne_n (tgt := 184) dX7_odd_177 (by decide) (by first | omega | (split <;> omega)) (by first | omega | (split <;> omega)) (fun c1055 => ?_) (fun c1055 => ?_)
        · have hz2 := c1055
          refine wp_iconst (v := nI 0) dX7_odd_184 rfl ?_
          refine wp_callS (M2 := M_X7_told_) (n := 3) (As := [.long (lN (md_od (D.1 64) n r r).2.1), .long (lN (md_od (D.1 64) n r r).2.2), .int (nI 0)]) (st := []) dX7_odd_185 (c_X7_told_ g E (lN (md_od (D.1 64) n r r).2.1) (lN (md_od (D.1 64) n r r).2.2) (nI 0) (sr_lpos b2) (sr_lpos b3) (fun zz => by rw [sr_lz b3] at zz; omega)) ca_X7_196 ⟨nm_X7_told_, by decide, by decide⟩ rfl rfl (Nat.le_of_ble_eq_true rfl) (fun r1056 E1057 q1058 => ?_)
          obtain ⟨rfl, rfl⟩ := q1058
          show WP g _ _ _ (.long (sr_told (lN (md_od (D.1 64) n r r).2.1) (lN (md_od (D.1 64) n r r).2.2) (nI 0)) :: _) _ _
          refine wp_lret dX7_odd_188 rfl ⟨?_, hper⟩
          rw [if_pos hok, nI_clamp (by omega)]
          unfold md_oda
          rw [if_neg hz0, if_neg hz2]
        · have hz2 := c1055
          refine wp_iconst (v := nI 1) dX7_odd_180 rfl ?_
          refine wp_goto (tgt := 185) dX7_odd_181 (by decide) ?_
          refine wp_callS (M2 := M_X7_told_) (n := 3) (As := [.long (lN (md_od (D.1 64) n r r).2.1), .long (lN (md_od (D.1 64) n r r).2.2), .int (nI 1)]) (st := []) dX7_odd_185 (c_X7_told_ g E (lN (md_od (D.1 64) n r r).2.1) (lN (md_od (D.1 64) n r r).2.2) (nI 1) (sr_lpos b2) (sr_lpos b3) (fun zz => by rw [sr_lz b3] at zz; omega)) ca_X7_196 ⟨nm_X7_told_, by decide, by decide⟩ rfl rfl (Nat.le_of_ble_eq_true rfl) (fun r1059 E1060 q1061 => ?_)
          obtain ⟨rfl, rfl⟩ := q1061
          show WP g _ _ _ (.long (sr_told (lN (md_od (D.1 64) n r r).2.1) (lN (md_od (D.1 64) n r r).2.2) (nI 1)) :: _) _ _
          refine wp_lret dX7_odd_188 rfl ⟨?_, hper⟩
          rw [if_pos hok, nI_clamp (by omega)]
          unfold md_oda
          rw [if_neg hz0, if_pos hz2]
      · have hz0 := c1054
        refine wp_iload_n dX7_odd_167 rfl rfl ?_
        refine wp_i2l dX7_odd_168 ?_
        refine wp_goto (tgt := 188) dX7_odd_169 (by decide) ?_
        refine wp_lret dX7_odd_188 rfl ⟨?_, hper⟩
        rw [if_pos hok, nI_clamp (by omega)]
        unfold md_oda
        rw [if_pos hz0]
    have hM : ∀ q, q ≤ r → ∀ (E : sr_St) (t : Int32), sr_per D E → (∀ k, k < 60 → E.1 65 k = D.1 64 k) → (q = 0 → t = -1) → (¬ q = 0 → t = nI (md_od (D.1 64) n r q).1) → WP g M_X7_odd 71 [(0, .ref 63), (1, .int (nI z)), (2, .int t), (3, .long (lN (md_od (D.1 64) n r q).2.1)), (5, .long (lN (md_od (D.1 64) n r q).2.2)), (7, .int (nI r)), (8, .int (nI q))] [] E (fun qa D' => qa = some (.long (if (decide (¬ r = 0) && sr_isIn (nI z) (nI 0) (nI 2)) = true then md_oda (D.1 64) n r (nI z).toNatClampNeg else -1)) ∧ sr_per D D') := by
      refine sr_up (fun q hq ih E t hper hk65 ht0 ht1 => ?_)
      have hlq := fun h : q < r => sr_goes_ok hlo h
      have h118 : q < r → ∀ G : sr_St, sr_per D G → (∀ k, k < 60 → G.1 65 k = D.1 64 k) → G.2 63 19 = lN (md_odu (D.1 64) n r q) → G.2 63 17 = lN (md_odb (D.1 64) n r q) → WP g M_X7_odd 118 [(0, .ref 63), (1, .int (nI z)), (2, .int t), (3, .long (lN (md_od (D.1 64) n r q).2.1)), (5, .long (lN (md_od (D.1 64) n r q).2.2)), (7, .int (nI r)), (8, .int (nI q))] [] G (fun qa D' => qa = some (.long (if (decide (¬ r = 0) && sr_isIn (nI z) (nI 0) (nI 2)) = true then md_oda (D.1 64) n r (nI z).toNatClampNeg else -1)) ∧ sr_per D D') := by
        intro hqr G hper hk65 hj hb
        obtain ⟨b1, b2, b3, b4⟩ := hbo q (by omega)
        obtain ⟨c1, c2, c3, c4, c5⟩ := md_od_b (hod q hqr)
        refine wp_iload_n dX7_odd_118 rfl rfl ?_
        refine wp_iconst (v := -1) dX7_odd_119 rfl ?_
        refine wp_icmp_eq (tgt := 143) dX7_odd_120 (by decide) (fun c1062 => ?_) (fun c1062 => ?_)
        · have hc : q = 0 ∨ md_odu (D.1 64) n r q * (md_od (D.1 64) n r q).2.2 < (md_od (D.1 64) n r q).2.1 * md_odb (D.1 64) n r q := Or.inl (Decidable.not_not.mp (fun h => sr_n1 b1 ((ht1 h).symm.trans c1062)))
          refine wp_iload dX7_odd_143 rfl ?_
          refine wp_istore_n (lv' := [(0, .ref 63), (1, .int (nI z)), (2, .int (nI q)), (3, .long (lN (md_od (D.1 64) n r q).2.1)), (5, .long (lN (md_od (D.1 64) n r q).2.2)), (7, .int (nI r)), (8, .int (nI q))]) dX7_odd_145 rfl (by decide) rfl ?_
          refine wp_aload_n dX7_odd_146 rfl rfl ?_
          refine wp_getJ dX7_odd_147 fl_X7_206 (by decide) rfl rfl ?_
          rw [hj]
          refine wp_topl (fun x1063 ex1063 => ?_)
          refine wp_lstore_n (lv' := [(0, .ref 63), (1, .int (nI z)), (2, .int (nI q)), (3, .long x1063), (5, .long (lN (md_od (D.1 64) n r q).2.2)), (7, .int (nI r)), (8, .int (nI q))]) dX7_odd_150 rfl (by decide) rfl ?_
          refine wp_aload_n dX7_odd_151 rfl rfl ?_
          refine wp_getJ dX7_odd_152 fl_X7_159 (by decide) rfl rfl ?_
          rw [hb]
          refine wp_topl (fun x1064 ex1064 => ?_)
          refine wp_lstore (lv' := [(0, .ref 63), (1, .int (nI z)), (2, .int (nI q)), (3, .long x1063), (5, .long x1064), (7, .int (nI r)), (8, .int (nI q))]) dX7_odd_155 (by decide) rfl ?_
          refine wp_iinc_n (b := 1) (lv' := [(0, .ref 63), (1, .int (nI z)), (2, .int (nI q)), (3, .long x1063), (5, .long x1064), (7, .int (nI r)), (8, .int (nI (q + 1)))]) dX7_odd_157 rfl rfl (by decide) rfl ?_
          refine wp_goto (tgt := 71) dX7_odd_160 (by decide) ?_
          subst ex1064
          subst ex1063
          have hs : md_od (D.1 64) n r (q + 1) = (q, md_odu (D.1 64) n r q, md_odb (D.1 64) n r q) := if_pos hc
          have h := ih (by omega) G (nI q) hper hk65 (fun z => absurd z (by omega)) (fun _ => by rw [hs])
          rw [hs] at h
          exact h
        · have hq0 : ¬ q = 0 := fun h => c1062 (ht0 h)
          refine wp_aload_n dX7_odd_123 rfl rfl ?_
          refine wp_getJ dX7_odd_124 fl_X7_206 (by decide) rfl rfl ?_
          rw [hj]
          refine wp_aload_n dX7_odd_127 rfl rfl ?_
          refine wp_getJ dX7_odd_128 fl_X7_159 (by decide) rfl rfl ?_
          rw [hb]
          refine wp_lload_n dX7_odd_131 rfl rfl ?_
          refine wp_lload dX7_odd_132 rfl ?_
          refine wp_callS (M2 := M_X7_compared) (n := 4) (As := [.long (lN (md_odu (D.1 64) n r q)), .long (lN (md_odb (D.1 64) n r q)), .long (lN (md_od (D.1 64) n r q).2.1), .long (lN (md_od (D.1 64) n r q).2.2)]) (st := []) dX7_odd_134 (c_X7_compared g G (md_odu (D.1 64) n r q) (md_odb (D.1 64) n r q) (md_od (D.1 64) n r q).2.1 (md_od (D.1 64) n r q).2.2 c1 c2 b2 b3 c3 b4) ca_X7_248 ⟨nm_X7_compared, by decide, by decide⟩ rfl rfl (Nat.le_of_ble_eq_true rfl) (fun r1065 E1066 q1067 => ?_)
          obtain ⟨rfl, rfl⟩ := q1067
          show WP g _ _ _ (.int (sr_cmp (md_odu (D.1 64) n r q) (md_odb (D.1 64) n r q) (md_od (D.1 64) n r q).2.1 (md_od (D.1 64) n r q).2.2 1) :: _) _ _
          refine wp_if_lt (tgt := 143) dX7_odd_137 (by decide) (fun c1068 => ?_) (fun c1068 => ?_)
          · have hc : q = 0 ∨ md_odu (D.1 64) n r q * (md_od (D.1 64) n r q).2.2 < (md_od (D.1 64) n r q).2.1 * md_odb (D.1 64) n r q := Or.inr (sr_cmp_neg.mp c1068)
            refine wp_iload dX7_odd_143 rfl ?_
            refine wp_istore_n (lv' := [(0, .ref 63), (1, .int (nI z)), (2, .int (nI q)), (3, .long (lN (md_od (D.1 64) n r q).2.1)), (5, .long (lN (md_od (D.1 64) n r q).2.2)), (7, .int (nI r)), (8, .int (nI q))]) dX7_odd_145 rfl (by decide) rfl ?_
            refine wp_aload_n dX7_odd_146 rfl rfl ?_
            refine wp_getJ dX7_odd_147 fl_X7_206 (by decide) rfl rfl ?_
            rw [hj]
            refine wp_topl (fun x1069 ex1069 => ?_)
            refine wp_lstore_n (lv' := [(0, .ref 63), (1, .int (nI z)), (2, .int (nI q)), (3, .long x1069), (5, .long (lN (md_od (D.1 64) n r q).2.2)), (7, .int (nI r)), (8, .int (nI q))]) dX7_odd_150 rfl (by decide) rfl ?_
            refine wp_aload_n dX7_odd_151 rfl rfl ?_
            refine wp_getJ dX7_odd_152 fl_X7_159 (by decide) rfl rfl ?_
            rw [hb]
            refine wp_topl (fun x1070 ex1070 => ?_)
            refine wp_lstore (lv' := [(0, .ref 63), (1, .int (nI z)), (2, .int (nI q)), (3, .long x1069), (5, .long x1070), (7, .int (nI r)), (8, .int (nI q))]) dX7_odd_155 (by decide) rfl ?_
            refine wp_iinc_n (b := 1) (lv' := [(0, .ref 63), (1, .int (nI z)), (2, .int (nI q)), (3, .long x1069), (5, .long x1070), (7, .int (nI r)), (8, .int (nI (q + 1)))]) dX7_odd_157 rfl rfl (by decide) rfl ?_
            refine wp_goto (tgt := 71) dX7_odd_160 (by decide) ?_
            subst ex1070
            subst ex1069
            have hs : md_od (D.1 64) n r (q + 1) = (q, md_odu (D.1 64) n r q, md_odb (D.1 64) n r q) := if_pos hc
            have h := ih (by omega) G (nI q) hper hk65 (fun z => absurd z (by omega)) (fun _ => by rw [hs])
            rw [hs] at h
            exact h
          · have hc : ¬ (q = 0 ∨ md_odu (D.1 64) n r q * (md_od (D.1 64) n r q).2.2 < (md_od (D.1 64) n r q).2.1 * md_odb (D.1 64) n r q) := fun zz => zz.elim hq0 (fun z => c1068 (sr_cmp_neg.mpr z))
            refine wp_goto (tgt := 157) dX7_odd_140 (by decide) ?_
            refine wp_iinc_n (b := 1) (lv' := [(0, .ref 63), (1, .int (nI z)), (2, .int t), (3, .long (lN (md_od (D.1 64) n r q).2.1)), (5, .long (lN (md_od (D.1 64) n r q).2.2)), (7, .int (nI r)), (8, .int (nI (q + 1)))]) dX7_odd_157 rfl rfl (by decide) rfl ?_
            refine wp_goto (tgt := 71) dX7_odd_160 (by decide) ?_
            have hs : md_od (D.1 64) n r (q + 1) = md_od (D.1 64) n r q := if_neg hc
            have h := ih (by omega) G t hper hk65 (fun z => absurd z (by omega)) (fun _ => by rw [hs]; exact ht1 hq0)
            rw [hs] at h
            exact h
      have h91 : q < r → ∀ G : sr_St, sr_per (sr_rI D 64 (sr_goes (D.1 64) q r)) G → (∀ k, k < 60 → G.1 65 k = D.1 64 k) → G.2 63 19 = lN (md_odu (D.1 64) n r q) → G.2 63 17 = lN (md_odb (D.1 64) n r q) → ∀ k, k ≤ 60 → WP g M_X7_odd 91 [(0, .ref 63), (1, .int (nI z)), (2, .int t), (3, .long (lN (md_od (D.1 64) n r q).2.1)), (5, .long (lN (md_od (D.1 64) n r q).2.2)), (7, .int (nI r)), (8, .int (nI q)), (9, .int (nI k))] [] (sr_rI G 64 (fun m => if m < k then D.1 64 m else sr_goes (D.1 64) q r m)) (fun qa D' => qa = some (.long (if (decide (¬ r = 0) && sr_isIn (nI z) (nI 0) (nI 2)) = true then md_oda (D.1 64) n r (nI z).toNatClampNeg else -1)) ∧ sr_per D D') := by
        intro hqr G hper hk65 hj hb
        refine sr_up (fun k hk ihk => ?_)
        refine wp_D (fun F eF => ?_)
        refine wp_iload dX7_odd_91 rfl ?_
        refine wp_bipush (v := nI 60) dX7_odd_93 rfl ?_
        refine wp_icmp_ge_n (tgt := 118) dX7_odd_95 (by decide) (by first | omega | (split <;> omega)) (by first | omega | (split <;> omega)) (fun c1071 => ?_) (fun c1071 => ?_)
        · have hk60 : k = 60 := by omega
          subst hk60
          have hrow : (fun m => if m < 60 then D.1 64 m else sr_goes (D.1 64) q r m) = D.1 64 := by
            funext m; by_cases e : m < 60
            · rw [if_pos e]
            · rw [if_neg e]; unfold sr_goes; rw [if_neg (by omega), if_neg (by omega)]
          rw [hrow] at eF
          refine wp_pick [0, 1, 2, 3, 4, 5, 6] rfl (h118 (by omega) F ?_ ?_ ?_ ?_)
          · rw [eF]; refine ⟨fun o a b c d => ?_, fun k a b c d e f => ?_, fun o a b c d e => ?_⟩
            · rw [sr_rI_1]; split
              · next e => rw [e]
              · next e => rw [hper.1 o a b c d, sr_rI_1, if_neg e]
            · rw [sr_rI_1, if_neg (by decide), hper.2.1 k a b c d e f, sr_rI_1, if_neg (by decide)]
            · rw [sr_rI_2, hper.2.2 o a b c d e, sr_rI_2]
          · intro k hk; rw [eF, sr_rI_1, if_neg (by decide)]; exact hk65 k hk
          · rw [eF, sr_rI_2]; exact hj
          · rw [eF, sr_rI_2]; exact hb
        · refine wp_aload_n dX7_odd_98 rfl rfl ?_
          refine wp_getR (r := 64) dX7_odd_99 fl_X7_7 (by decide) rfl rfl rfl ?_
          refine wp_iload dX7_odd_102 rfl ?_
          refine wp_aload_n dX7_odd_104 rfl rfl ?_
          refine wp_getR (r := 65) dX7_odd_105 fl_X7_13 (by decide) rfl rfl rfl ?_
          refine wp_iload dX7_odd_108 rfl ?_
          refine wp_iald dX7_odd_110 (by decide) rfl (show _ < 60 by omega) (by first | omega | (split <;> omega)) ?_
          refine wp_iast dX7_odd_111 (by decide) rfl (show _ < 60 by omega) (by first | omega | (split <;> omega)) ?_
          refine wp_D (fun D1072 eD1072 => ?_)
          refine wp_iinc_n (b := 1) (lv' := [(0, .ref 63), (1, .int (nI z)), (2, .int t), (3, .long (lN (md_od (D.1 64) n r q).2.1)), (5, .long (lN (md_od (D.1 64) n r q).2.2)), (7, .int (nI r)), (8, .int (nI q)), (9, .int (nI (k + 1)))]) dX7_odd_112 rfl rfl (by decide) rfl ?_
          refine wp_goto (tgt := 91) dX7_odd_115 (by decide) ?_
          refine wp_D (fun H eH => ?_)
          have h := ihk (by omega)
          have hH : H = sr_rI G 64 (fun m => if m < k + 1 then D.1 64 m else sr_goes (D.1 64) q r m) := by
            rw [eH]; subst eD1072; subst eF
            simp only [sr_sI_r, sr_rI_rI, sr_rI_1, if_true, show ((65 : Nat) = 64) = False by simp, if_false]
            congr 1; funext m; simp only [upd]
            by_cases e : m = k
            · subst e; rw [if_pos rfl, if_pos (by omega)]; exact hk65 m (by omega)
            · rw [if_neg e]; by_cases e2 : m < k
              · rw [if_pos e2, if_pos (by omega)]
              · rw [if_neg e2, if_neg (by omega)]
          rw [hH]; exact h
      refine wp_iload dX7_odd_71 rfl ?_
      refine wp_iload dX7_odd_73 rfl ?_
      refine wp_icmp_ge_n (tgt := 163) dX7_odd_75 (by decide) (by first | omega | (split <;> omega)) (by first | omega | (split <;> omega)) (fun c1073 => ?_) (fun c1073 => ?_)
      · have hqe : q = r := by omega
        subst hqe
        have h := h163 E hper
        rw [← ht1 hr0] at h
        exact wp_pick [0, 1, 2, 3, 4] rfl h
      · refine wp_aload_n dX7_odd_78 rfl rfl ?_
        refine wp_iload dX7_odd_79 rfl ?_
        refine wp_callV (M2 := M_X7_goes) (n := 1) (As := [.int (nI q)]) (st := []) dX7_odd_81 (c_X7_goes g E q r (by rw [hper.n64]; exact hr) (by omega) hr12) ca_X7_69 ⟨nm_X7_goes, by decide, by decide⟩ rfl (by decide) rfl rfl rfl (Nat.le_of_ble_eq_true rfl) (fun r1074 E1075 q1076 => ?_)
        obtain ⟨rfl, eF⟩ := q1076
        show WP g _ _ _ _ _ _
        rw [hper.n64] at eF
        replace eF := eF.symm
        have hp1 : sr_per (sr_rI D 64 (sr_goes (D.1 64) q r)) E1075 := by
          rw [eF]; refine ⟨fun o a b c d => ?_, fun k a b c d e f => ?_, fun o a b c d e => ?_⟩
          · rw [sr_rI_1, sr_rI_1, hper.1 o a b c d]
          · rw [sr_rI_1, if_neg (by decide), sr_rI_1, if_neg (by decide), hper.2.1 k a b c d e f]
          · rw [sr_rI_2, sr_rI_2, hper.2.2 o a b c d e]
        have hf64 : E1075.1 64 = sr_goes (D.1 64) q r := by rw [eF, sr_rI_1, if_pos rfl]
        have hf65 : (∀ k, k < 60 → E1075.1 65 k = D.1 64 k) := fun k hk => by rw [eF, sr_rI_1, if_neg (by decide)]; exact hk65 k hk
        refine wp_aload_n dX7_odd_84 rfl rfl ?_
        refine wp_callV (M2 := M_X7_sumsUp) (n := 0) (As := []) (st := []) dX7_odd_85 (c_X7_sumsUp g E1075 n (r - 1) (by rw [hf64]; exact hlq (by omega)) (by rw [hf64]; exact md_good_b (by omega) (hod q (by omega)).1)) ca_X7_209 ⟨nm_X7_sumsUp, by decide, by decide⟩ rfl (by decide) rfl rfl rfl (Nat.le_of_ble_eq_true rfl) (fun r1077 E1078 q1079 => ?_)
        rw [hf64] at q1079
        obtain ⟨rfl, p2, x2, y2, b2, j2⟩ := q1079
        show WP g _ _ _ _ _ _
        refine wp_iconst (v := nI 0) dX7_odd_88 rfl ?_
        refine wp_istore (lv' := [(0, .ref 63), (1, .int (nI z)), (2, .int t), (3, .long (lN (md_od (D.1 64) n r q).2.1)), (5, .long (lN (md_od (D.1 64) n r q).2.2)), (7, .int (nI r)), (8, .int (nI q)), (9, .int (nI 0))]) dX7_odd_89 (by decide) rfl ?_
        have hqr : q < r := by omega
        obtain ⟨c1, c2, c3, c4, c5⟩ := md_od_b (hod q hqr)
        have h := h91 hqr E1078 (hp1.tr p2) (fun k hk => by rw [x2]; exact hf65 k hk) (by rw [j2]; exact c4) (by rw [b2]; exact c5) 0 (by omega)
        have hrow : (fun m => if m < 0 then D.1 64 m else sr_goes (D.1 64) q r m) = E1078.1 64 := by
          funext m; rw [if_neg (by omega), p2.n64, hf64]
        rw [hrow, sr_rI_self] at h
        exact h
    have hC : ∀ E : sr_St, sr_per D E → ∀ k, k ≤ 60 → WP g M_X7_odd 35 [(0, .ref 63), (1, .int (nI z)), (2, .int (-1)), (3, .long 0), (5, .long 1), (7, .int (nI k))] [] (sr_rI E 65 (fun m => if m < k then D.1 64 m else E.1 65 m)) (fun qa D' => qa = some (.long (if (decide (¬ r = 0) && sr_isIn (nI z) (nI 0) (nI 2)) = true then md_oda (D.1 64) n r (nI z).toNatClampNeg else -1)) ∧ sr_per D D') := by
      intro E hper
      refine sr_up (fun k hk ih => ?_)
      refine wp_D (fun F eF => ?_)
      have hpF : sr_per D F := hper.tr (by rw [eF]; exact ⟨fun o a b c d => by rw [sr_rI_1, if_neg b], fun k a b c d e f => by rw [sr_rI_1, if_neg (by decide)], fun o a b c d e => rfl⟩)
      refine wp_iload dX7_odd_35 rfl ?_
      refine wp_bipush (v := nI 60) dX7_odd_37 rfl ?_
      refine wp_icmp_ge_n (tgt := 62) dX7_odd_39 (by decide) (by first | omega | (split <;> omega)) (by first | omega | (split <;> omega)) (fun c1080 => ?_) (fun c1080 => ?_)
      · refine wp_aload_n dX7_odd_62 rfl rfl ?_
        refine wp_callV (M2 := M_X7_races) (n := 0) (As := []) (st := []) dX7_odd_63 (c_X7_races_n g F r (by rw [(hpF).n64]; exact hr)) ca_X7_58 ⟨nm_X7_races, by decide, by decide⟩ rfl (by decide) rfl rfl rfl (Nat.le_of_ble_eq_true rfl) (fun r1081 E1082 q1083 => ?_)
        obtain ⟨rfl, rfl⟩ := q1083
        show WP g _ _ _ (.int (nI r) :: _) _ _
        refine wp_istore (lv' := [(0, .ref 63), (1, .int (nI z)), (2, .int ((-1))), (3, .long 0), (5, .long 1), (7, .int (nI r))]) dX7_odd_66 (by decide) rfl ?_
        refine wp_iconst (v := nI 0) dX7_odd_68 rfl ?_
        refine wp_istore (lv' := [(0, .ref 63), (1, .int (nI z)), (2, .int ((-1))), (3, .long 0), (5, .long 1), (7, .int (nI r)), (8, .int (nI 0))]) dX7_odd_69 (by decide) rfl ?_
        exact wp_pick [0, 1, 2, 3, 4, 5, 6] rfl (hM 0 (by omega) F (-1) hpF (fun m hm => by rw [eF, sr_rI_1, if_pos rfl, if_pos (by omega)]) (fun _ => rfl) (fun h => absurd rfl h))
      · refine wp_aload_n dX7_odd_42 rfl rfl ?_
        refine wp_getR (r := 65) dX7_odd_43 fl_X7_13 (by decide) rfl rfl rfl ?_
        refine wp_iload dX7_odd_46 rfl ?_
        refine wp_aload_n dX7_odd_48 rfl rfl ?_
        refine wp_getR (r := 64) dX7_odd_49 fl_X7_7 (by decide) rfl rfl rfl ?_
        refine wp_iload dX7_odd_52 rfl ?_
        refine wp_iald dX7_odd_54 (by decide) rfl (show _ < 60 by omega) (by first | omega | (split <;> omega)) ?_
        refine wp_iast dX7_odd_55 (by decide) rfl (show _ < 60 by omega) (by first | omega | (split <;> omega)) ?_
        refine wp_D (fun D1084 eD1084 => ?_)
        refine wp_iinc_n (b := 1) (lv' := [(0, .ref 63), (1, .int (nI z)), (2, .int ((-1))), (3, .long 0), (5, .long 1), (7, .int (nI (k + 1)))]) dX7_odd_56 rfl rfl (by decide) rfl ?_
        refine wp_goto (tgt := 35) dX7_odd_59 (by decide) ?_
        refine wp_D (fun H eH => ?_)
        have h := ih (by omega)
        have hH : H = sr_rI E 65 (fun m => if m < k + 1 then D.1 64 m else E.1 65 m) := by
          rw [eH]; subst eD1084; rw [congrFun hpF.n64 k]; subst eF
          simp only [sr_sI_r, sr_rI_rI, sr_rI_1, if_true]
          congr 1; funext m; simp only [upd]
          by_cases e : m = k
          · subst e; rw [if_pos rfl, if_pos (by omega)]
          · rw [if_neg e]; by_cases e2 : m < k
            · rw [if_pos e2, if_pos (by omega)]
            · rw [if_neg e2, if_neg (by omega)]
        rw [hH]; exact h
    refine wp_aload_n dX7_odd_0 rfl rfl ?_
    refine wp_iconst (v := nI 0) dX7_odd_1 rfl ?_
    refine wp_putI dX7_odd_2 fl_X7_43 (by decide) rfl rfl ?_
    refine wp_D (fun D1085 eD1085 => ?_)
    have p1086 : sr_per D D1085 := by rw [eD1085]; exact sr_per_th
    refine wp_aload_n dX7_odd_5 rfl rfl ?_
    refine wp_callV (M2 := M_X7_races) (n := 0) (As := []) (st := []) dX7_odd_6 (c_X7_races_n g D1085 r (by rw [((sr_per.rf).tr p1086).n64]; exact hr)) ca_X7_58 ⟨nm_X7_races, by decide, by decide⟩ rfl (by decide) rfl rfl rfl (Nat.le_of_ble_eq_true rfl) (fun r1087 E1088 q1089 => ?_)
    obtain ⟨rfl, rfl⟩ := q1089
    show WP g _ _ _ (.int (nI r) :: _) _ _
    refine wp_if_eq_n (tgt := 21) dX7_odd_9 (by decide) (by first | omega | (split <;> omega)) (fun c1090 => ?_) (fun c1090 => ?_)
    · exact absurd c1090 hr0
    · refine wp_iload_n dX7_odd_12 rfl rfl ?_
      refine wp_iconst (v := nI 0) dX7_odd_13 rfl ?_
      refine wp_iconst (v := nI 2) dX7_odd_14 rfl ?_
      refine wp_callS (M2 := M_X7_isIn) (n := 3) (As := [.int (nI z), .int (nI 0), .int (nI 2)]) (st := []) dX7_odd_15 (c_X7_isIn g D1085 (nI z) (nI 0) (nI 2)) ca_X7_50 ⟨nm_X7_isIn, by decide, by decide⟩ rfl rfl (Nat.le_of_ble_eq_true rfl) (fun r1091 E1092 q1093 => ?_)
      obtain ⟨rfl, rfl⟩ := q1093
      show WP g _ _ _ (.int (sr_b (sr_isIn (nI z) (nI 0) (nI 2))) :: _) _ _
      refine wp_if_ne_b (tgt := 25) dX7_odd_18 (by decide) (fun c1094 => ?_) (fun c1094 => ?_)
      · refine wp_iconst (v := -1) dX7_odd_25 rfl ?_
        refine wp_istore_n (lv' := [(0, .ref 63), (1, .int (nI z)), (2, .int ((-1)))]) dX7_odd_26 rfl (by decide) rfl ?_
        refine wp_lconst (v := 0) dX7_odd_27 rfl ?_
        refine wp_lstore_n (lv' := [(0, .ref 63), (1, .int (nI z)), (2, .int ((-1))), (3, .long 0)]) dX7_odd_28 rfl (by decide) rfl ?_
        refine wp_lconst (v := 1) dX7_odd_29 rfl ?_
        refine wp_lstore (lv' := [(0, .ref 63), (1, .int (nI z)), (2, .int ((-1))), (3, .long 0), (5, .long 1)]) dX7_odd_30 (by decide) rfl ?_
        refine wp_iconst (v := nI 0) dX7_odd_32 rfl ?_
        refine wp_istore (lv' := [(0, .ref 63), (1, .int (nI z)), (2, .int ((-1))), (3, .long 0), (5, .long 1), (7, .int (nI 0))]) dX7_odd_33 (by decide) rfl ?_
        have h := hC D1085 ((sr_per.rf).tr p1086) 0 (by omega)
        have hrow : (fun m => if m < 0 then D.1 64 m else D1085.1 65 m) = D1085.1 65 := by funext m; rw [if_neg (by omega)]
        rw [hrow, sr_rI_self] at h
        exact h
      · exact absurd h2 (by rw [c1094]; decide)
  · refine wp_aload_n dX7_odd_0 rfl rfl ?_
    refine wp_iconst (v := nI 0) dX7_odd_1 rfl ?_
    refine wp_putI dX7_odd_2 fl_X7_43 (by decide) rfl rfl ?_
    refine wp_D (fun D1095 eD1095 => ?_)
    have p1096 : sr_per D D1095 := by rw [eD1095]; exact sr_per_th
    refine wp_aload_n dX7_odd_5 rfl rfl ?_
    refine wp_callV (M2 := M_X7_races) (n := 0) (As := []) (st := []) dX7_odd_6 (c_X7_races_n g D1095 r (by rw [((sr_per.rf).tr p1096).n64]; exact hr)) ca_X7_58 ⟨nm_X7_races, by decide, by decide⟩ rfl (by decide) rfl rfl rfl (Nat.le_of_ble_eq_true rfl) (fun r1097 E1098 q1099 => ?_)
    obtain ⟨rfl, rfl⟩ := q1099
    show WP g _ _ _ (.int (nI r) :: _) _ _
    refine wp_if_eq_n (tgt := 21) dX7_odd_9 (by decide) (by first | omega | (split <;> omega)) (fun c1100 => ?_) (fun c1100 => ?_)
    · refine wp_ldc2 (v := -1) dX7_odd_21 ct_X7_255 ?_
      refine wp_lret dX7_odd_24 rfl ⟨?_, (sr_per.rf).tr p1096⟩
      rw [if_neg hok]
    · have h1 := c1100
      refine wp_iload_n dX7_odd_12 rfl rfl ?_
      refine wp_iconst (v := nI 0) dX7_odd_13 rfl ?_
      refine wp_iconst (v := nI 2) dX7_odd_14 rfl ?_
      refine wp_callS (M2 := M_X7_isIn) (n := 3) (As := [.int w, .int (nI 0), .int (nI 2)]) (st := []) dX7_odd_15 (c_X7_isIn g D1095 w (nI 0) (nI 2)) ca_X7_50 ⟨nm_X7_isIn, by decide, by decide⟩ rfl rfl (Nat.le_of_ble_eq_true rfl) (fun r1101 E1102 q1103 => ?_)
      obtain ⟨rfl, rfl⟩ := q1103
      show WP g _ _ _ (.int (sr_b (sr_isIn w (nI 0) (nI 2))) :: _) _ _
      refine wp_if_ne_b (tgt := 25) dX7_odd_18 (by decide) (fun c1104 => ?_) (fun c1104 => ?_)
      · exact absurd (by rw [c1104, decide_eq_true h1]; rfl) hok
      · refine wp_ldc2 (v := -1) dX7_odd_21 ct_X7_255 ?_
        refine wp_lret dX7_odd_24 rfl ⟨?_, (sr_per.rf).tr p1096⟩
        rw [if_neg hok]
