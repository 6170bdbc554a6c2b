def cl_pm (D E : sr_St) : Prop := (∀ o, ¬ (1 ≤ o ∧ o ≤ 5) → ¬ o = 34 → ¬ o = 33 → ¬ o = 14 → E.1 o = D.1 o) ∧ ∀ o, ¬ (14 ≤ o ∧ o ≤ 32) → E.2 o = D.2 o
theorem cl_pj.pm {D E : sr_St} (h : cl_pj D E) : cl_pm D E := ⟨fun o _ b c d => h.1 o b c d, h.2⟩
theorem cl_pm.tr {D E F : sr_St} (h : cl_pm D E) (k : cl_pm E F) : cl_pm D F := ⟨fun o a b c d => (k.1 o a b c d).trans (h.1 o a b c d), fun o a => (k.2 o a).trans (h.2 o a)⟩
theorem cl_pm.rf {D : sr_St} : cl_pm D D := ⟨fun _ _ _ _ _ => rfl, fun _ _ => rfl⟩
def sr_nowC (now : Nat → Int32) (v : Int32) : Nat → Int32 := upd (upd now 0 v) 2 (nI 0)
theorem sr_okC {now : Nat → Int32} {n : Nat} (hn : n ≤ 6) : sr_logOk (sr_nowC now (nI n)) n 0 := ⟨⟨rfl, hn, rfl, by decide⟩, fun q hq => absurd hq (by omega)⟩
theorem cl_G_cong {now now' : Nat → Int32} (h : ∀ k, 3 ≤ k → now' k = now k) : ∀ r, cl_G now' r = cl_G now r
  | 0 => rfl
  | r + 1 => by
    show cl_inc (nI 1) (cl_rf now' r) (cl_G now' r) = cl_inc (nI 1) (cl_rf now r) (cl_G now r)
    rw [cl_G_cong h r]
    have e : cl_rf now' r = cl_rf now r := by unfold cl_rf sr_ra sr_rb; rw [h _ (by omega), h _ (by omega), h _ (by omega), h _ (by omega)]
    rw [e]
theorem sr_okL {now : Nat → Int32} {n r : Nat} {v : Int32} (h : sr_logOk now n r) : sr_logOk (upd now 1 v) n r := by
  obtain ⟨⟨a1, a2, a3, a4⟩, a5⟩ := h
  refine ⟨⟨a1, a2, a3, a4⟩, fun q hq => ?_⟩
  have e : ∀ k, upd now 1 v (3 + k) = now (3 + k) := fun k => if_neg (by omega)
  have e0 := e (4 * q); have e1 : upd now 1 v (3 + 4 * q + 1) = now (3 + 4 * q + 1) := if_neg (by omega)
  have e2 : upd now 1 v (3 + 4 * q + 2) = now (3 + 4 * q + 2) := if_neg (by omega)
  have e3 : upd now 1 v (3 + 4 * q + 3) = now (3 + 4 * q + 3) := if_neg (by omega)
  unfold sr_ra sr_rb
  rw [e0, e1, e2, e3]; exact a5 q hq
theorem sr_okM {now : Nat → Int32} {n r : Nat} {a b m t : Int32} (h : sr_logOk now n r) (hr : r < 12) (hk : sr_raceOk n a b m t = true) : sr_logOk (sr_more now r a b m t) n (r + 1) := by
  obtain ⟨⟨a1, a2, a3, a4⟩, a5⟩ := h
  refine ⟨⟨?_, a2, ?_, by omega⟩, fun q hq => ?_⟩
  · unfold sr_more; rw [if_neg (by decide), if_neg (by omega), if_neg (by omega), if_neg (by omega), if_neg (by omega)]; exact a1
  · unfold sr_more; rw [if_pos rfl]
  · by_cases e : q = r
    · subst e
      unfold sr_raceOk at hk
      obtain ⟨h1, h2⟩ := Bool.and_eq_true_iff.mp hk
      obtain ⟨h3, h4⟩ := Bool.and_eq_true_iff.mp h2
      unfold sr_crew at h1
      simp only [Bool.and_eq_true, Bool.not_eq_true', decide_eq_false_iff_not] at h1
      obtain ⟨⟨ha, hb⟩, h5⟩ := h1
      obtain ⟨x, hx, rfl⟩ := nI_of (x := a) ha
      obtain ⟨y, hy, rfl⟩ := nI_of (x := b) hb
      have e0 : sr_more now q (nI x) (nI y) m t (3 + 4 * q) = nI x := by unfold sr_more; rw [if_neg (by omega), if_pos rfl]
      have e1 : sr_more now q (nI x) (nI y) m t (3 + 4 * q + 1) = nI y := by unfold sr_more; rw [if_neg (by omega), if_neg (by omega), if_pos rfl]
      have e2 : sr_more now q (nI x) (nI y) m t (3 + 4 * q + 2) = m := by unfold sr_more; rw [if_neg (by omega), if_neg (by omega), if_neg (by omega), if_pos rfl]
      have e3 : sr_more now q (nI x) (nI y) m t (3 + 4 * q + 3) = t := by unfold sr_more; rw [if_neg (by omega), if_neg (by omega), if_neg (by omega), if_neg (by omega), if_pos rfl]
      unfold sr_ra sr_rb
      rw [e0, e1, e2, e3]
      rw [nI_clamp hx, nI_clamp hy] at h5 ⊢
      exact ⟨rfl, rfl, h5, h3, h4⟩
    · have e9 : ∀ k, k < 4 → sr_more now r a b m t (3 + 4 * q + k) = now (3 + 4 * q + k) := fun k hk => by unfold sr_more; rw [if_neg (by omega), if_neg (by omega), if_neg (by omega), if_neg (by omega), if_neg (by omega)]
      have e0 := e9 0 (by decide); have e1 := e9 1 (by decide); have e2 := e9 2 (by decide); have e3 := e9 3 (by decide)
      simp only [Nat.add_zero] at e0
      unfold sr_ra sr_rb
      rw [e0, e1, e2, e3]; exact a5 q (by omega)
theorem lg_app {D : sr_St} {now : Nat → Int32} {n r : Nat} {a b m t : Int32} (h : lg D now n r) : lg (sr_app D 1 r a b m t) (sr_more now r a b m t) n (r + 1) := by
  obtain ⟨a1, a2, a3, a4⟩ := h
  have hm1 : sr_more now r a b m t 1 = now 1 := by unfold sr_more; rw [if_neg (by decide), if_neg (by omega), if_neg (by omega), if_neg (by omega), if_neg (by omega)]
  refine ⟨?_, ?_, ?_, fun q hq => ?_⟩
  · simp [sr_app, sr_sI_1]; exact a1
  · rw [hm1]; simp [sr_app, sr_sI_1]; exact a2
  · simp [sr_app, sr_sI_1]
  · by_cases e : q = r
    · subst e
      refine ⟨?_, ?_, ?_, ?_⟩
      · (simp [sr_app, sr_sI_1, sr_more] <;> (intro h; omega))
      · (simp [sr_app, sr_sI_1, sr_more] <;> (intro h; omega))
      · (simp [sr_app, sr_sI_1, sr_more] <;> (intro h; omega))
      · (simp [sr_app, sr_sI_1, sr_more] <;> (intro h; omega))
    · have e9 : ∀ k, k < 4 → sr_more now r a b m t (3 + 4 * q + k) = now (3 + 4 * q + k) := fun k hk => by unfold sr_more; rw [if_neg (by omega), if_neg (by omega), if_neg (by omega), if_neg (by omega), if_neg (by omega)]
      have e0 := e9 0 (by decide); have e1 := e9 1 (by decide); have e2 := e9 2 (by decide); have e3 := e9 3 (by decide)
      simp only [Nat.add_zero] at e0
      rw [e0, e1, e2, e3]
      have h9 := a4 q (by omega)
      simp [sr_app, sr_sI_1, e]; exact h9
theorem lg_rem {D : sr_St} {now : Nat → Int32} {n r p : Nat} (h : lg D now n r) (hp : p < r) : lg (sr_4 (sr_sI D 1 2 (nI (r - 1))) 1 (fun o => sr_sh (D.1 o) p (r - 1))) (sr_goes now p r) n (r - 1) := by
  obtain ⟨a1, a2, a3, a4⟩ := h
  refine ⟨?_, ?_, ?_, fun q hq => ?_⟩
  · rw [sr_4_1, if_neg (by decide), sr_sI_1, if_neg (by decide)]; exact a1
  · rw [sr_4_1, if_neg (by decide), sr_sI_1, if_neg (by decide)]; unfold sr_goes; rw [if_neg (by decide), if_neg (by omega)]; exact a2
  · rw [sr_4_1, if_neg (by decide), sr_sI_1, if_pos ⟨rfl, rfl⟩]
  · rw [sr_4_1, if_pos (by decide), sr_4_1, if_pos (by decide), sr_4_1, if_pos (by decide), sr_4_1, if_pos (by decide)]
    have e : ∀ k, k < 4 → sr_goes now p r (3 + 4 * q + k) = now (3 + 4 * (if q < p then q else q + 1) + k) := by
      intro k hk
      unfold sr_goes
      rw [if_neg (by omega)]
      by_cases hpq : q < p
      · rw [if_neg (by omega), if_pos hpq]
      · rw [if_pos (by omega), if_neg hpq]; congr 1; omega
    have hs : ∀ f : Nat → Int32, sr_sh f p (r - 1) q = f (if q < p then q else q + 1) := by
      intro f; unfold sr_sh
      by_cases hpq : q < p
      · rw [if_neg (by omega), if_pos hpq]
      · rw [if_pos (by omega), if_neg hpq]
    have hz : (if q < p then q else q + 1) < r := by split <;> omega
    have e0 := e 0 (by decide); have e1 := e 1 (by decide); have e2 := e 2 (by decide); have e3 := e 3 (by decide)
    simp only [Nat.add_zero] at e0
    rw [e0, e1, e2, e3, hs, hs, hs, hs]
    exact a4 _ hz
set_option maxHeartbeats 400000 in
set_option maxRecDepth 100000 in
theorem c_X6_crew (g : sr_G) (D : sr_St) (now : Nat → Int32) (n r : Nat) (hci : CI now n r D) (v : Int32) : Con g M_X6_crew [.ref 0, .int v] D (fun qa D' => (sr_isIn v (nI 0) (nI 6) = true → qa = some (.int 1) ∧ CI (sr_nowC now v) v.toNatClampNeg 0 D' ∧ cl_pm D D') ∧ (sr_isIn v (nI 0) (nI 6) = false → qa = some (.int 0) ∧ D' = D)) := by
  refine Con.of pn_X6_crew (Nat.le_of_ble_eq_true rfl) ?_
  show WP g M_X6_crew 0 [(0, .ref 0), (1, .int v)] [] D _
  by_cases hok : sr_isIn v (nI 0) (nI 6) = true
  · obtain ⟨x, hx, rfl⟩ := (sr_in_n (n := 7) (by decide)).mp hok
    refine wp_iload_n dX6_crew_0 rfl rfl ?_
    refine wp_callS (M2 := M_X3_isRowerCount) (n := 1) (As := [.int (nI x)]) (st := []) dX6_crew_1 (c_X3_isRowerCount g D (nI x)) ca_X6_100 ⟨nm_X3_isRowerCount, by decide, by decide⟩ rfl rfl (Nat.le_of_ble_eq_true rfl) (fun r928 E929 q930 => ?_)
    obtain ⟨rfl, rfl⟩ := q930
    show WP g _ _ _ (.int (sr_b (sr_isIn (nI x) (nI 0) (nI 6))) :: _) _ _
    refine wp_if_ne_b (tgt := 9) dX6_crew_4 (by decide) (fun c931 => ?_) (fun c931 => ?_)
    · refine wp_aload_n dX6_crew_9 rfl rfl ?_
      refine wp_getR (r := 1) dX6_crew_10 fl_X6_10 (by decide) rfl rfl rfl ?_
      refine wp_iload_n dX6_crew_13 rfl rfl ?_
      refine wp_callV (M2 := M_X3_begin) (n := 1) (As := [.int (nI x)]) (st := []) dX6_crew_14 (c_X3_begin1 g D (nI x)) ca_X6_104 ⟨nm_X3_begin, by decide, by decide⟩ rfl (by decide) rfl rfl rfl (Nat.le_of_ble_eq_true rfl) (fun r932 E933 q934 => ?_)
      obtain ⟨rfl, eE933⟩ := q934
      have eE933 := eE933.symm
      show WP g _ _ _ _ _ _
      refine wp_aload_n dX6_crew_17 rfl rfl ?_
      refine wp_callV (M2 := M_X6_judge) (n := 0) (As := []) (st := []) dX6_crew_18 (c_X6_judge g E933 (sr_nowC now (nI x)) x 0 (sr_okC (by omega)) (by rw [eE933]; exact ⟨rfl, by simp [sr_sI_1]; exact hci.2.1.2.1, rfl, fun q hq => absurd hq (by omega)⟩)) ca_X6_97 ⟨nm_X6_judge, by decide, by decide⟩ rfl (by decide) rfl rfl rfl (Nat.le_of_ble_eq_true rfl) (fun r935 E936 q937 => ?_)
      obtain ⟨rfl, ci1, pj1⟩ := q937
      show WP g _ _ _ _ _ _
      refine wp_iconst (v := nI 1) dX6_crew_21 rfl ?_
      refine wp_zret dX6_crew_22 rfl (Or.inr rfl) ⟨fun _ => ⟨rfl, by rw [nI_clamp (by omega)]; exact ci1, cl_pm.tr (by rw [eE933]; exact ⟨fun o a _ _ _ => by funext z; rw [sr_sI_1, if_neg (by omega), sr_sI_1, if_neg (by omega)], fun _ _ => rfl⟩) pj1.pm⟩, fun h => absurd hok (by rw [h]; decide)⟩
    · exact absurd hok (by rw [c931]; decide)
  · refine wp_iload_n dX6_crew_0 rfl rfl ?_
    refine wp_callS (M2 := M_X3_isRowerCount) (n := 1) (As := [.int v]) (st := []) dX6_crew_1 (c_X3_isRowerCount g D v) ca_X6_100 ⟨nm_X3_isRowerCount, by decide, by decide⟩ rfl rfl (Nat.le_of_ble_eq_true rfl) (fun r938 E939 q940 => ?_)
    obtain ⟨rfl, rfl⟩ := q940
    show WP g _ _ _ (.int (sr_b (sr_isIn v (nI 0) (nI 6))) :: _) _ _
    refine wp_if_ne_b (tgt := 9) dX6_crew_4 (by decide) (fun c941 => ?_) (fun c941 => ?_)
    · exact absurd c941 hok
    · refine wp_iconst (v := nI 0) dX6_crew_7 rfl ?_
      exact wp_zret dX6_crew_8 rfl (Or.inl rfl) ⟨fun h => absurd h hok, fun _ => ⟨rfl, rfl⟩⟩
set_option maxHeartbeats 400000 in
set_option maxRecDepth 100000 in
theorem c_X6_limit (g : sr_G) (D : sr_St) (now : Nat → Int32) (n r : Nat) (hci : CI now n r D) (v : Int32) : Con g M_X6_limit [.ref 0, .int v] D (fun qa D' => qa = some (.int (sr_b (sr_isIn v (nI 1) (nI 99) && !decide (v = now 1)))) ∧ ((sr_isIn v (nI 1) (nI 99) && !decide (v = now 1)) = true → CI (upd now 1 v) n r D' ∧ cl_pm D D') ∧ ((sr_isIn v (nI 1) (nI 99) && !decide (v = now 1)) = false → D' = D)) := by
  refine Con.of pn_X6_limit (Nat.le_of_ble_eq_true rfl) ?_
  show WP g M_X6_limit 0 [(0, .ref 0), (1, .int v)] [] D _
  refine wp_iload_n dX6_limit_0 rfl rfl ?_
  refine wp_callS (M2 := M_X3_isBound) (n := 1) (As := [.int v]) (st := []) dX6_limit_1 (c_X3_isBound g D v) ca_X6_107 ⟨nm_X3_isBound, by decide, by decide⟩ rfl rfl (Nat.le_of_ble_eq_true rfl) (fun r942 E943 q944 => ?_)
  obtain ⟨rfl, rfl⟩ := q944
  show WP g _ _ _ (.int (sr_b (sr_isIn v (nI 1) (nI 99))) :: _) _ _
  refine wp_if_eq_b (tgt := 18) dX6_limit_4 (by decide) (fun c945 => ?_) (fun c945 => ?_)
  · have h0 := c945
    refine wp_iconst (v := nI 0) dX6_limit_18 rfl ?_
    have hb : (sr_isIn v (nI 1) (nI 99) && !decide (v = now 1)) = false := by rw [h0]; rfl
    exact wp_zret dX6_limit_19 rfl (Or.inl rfl) ⟨by rw [hb]; rfl, fun h => absurd h (by rw [hb]; decide), fun _ => rfl⟩
  · have h0 := c945
    refine wp_iload_n dX6_limit_7 rfl rfl ?_
    refine wp_aload_n dX6_limit_8 rfl rfl ?_
    refine wp_getR (r := 1) dX6_limit_9 fl_X6_10 (by decide) rfl rfl rfl ?_
    refine wp_getI dX6_limit_12 fl_X6_110 (by decide) rfl rfl ?_
    rw [hci.2.1.2.1]
    refine wp_icmp_ne (tgt := 20) dX6_limit_15 (by decide) (fun c946 => ?_) (fun c946 => ?_)
    · have h1 := c946
      refine wp_aload_n dX6_limit_20 rfl rfl ?_
      refine wp_getR (r := 1) dX6_limit_21 fl_X6_10 (by decide) rfl rfl rfl ?_
      refine wp_iload_n dX6_limit_24 rfl rfl ?_
      refine wp_putI dX6_limit_25 fl_X6_110 (by decide) rfl rfl ?_
      refine wp_D (fun D947 eD947 => ?_)
      have k948 : D947.1 1 0 = nI n := by rw [eD947, sr_sI_1, if_neg (by omega)]; exact hci.2.1.1
      have k949 : D947.1 1 2 = nI r := by rw [eD947, sr_sI_1, if_neg (by omega)]; exact hci.2.1.2.2.1
      refine wp_iconst (v := nI 1) dX6_limit_28 rfl ?_
      have hb : (sr_isIn v (nI 1) (nI 99) && !decide (v = now 1)) = true := by rw [h0, decide_eq_false h1]; rfl
      refine wp_zret dX6_limit_29 rfl (Or.inr rfl) ⟨by rw [hb]; rfl, fun _ => ?_, fun h => absurd hb (by rw [h]; decide)⟩
      subst eD947
      obtain ⟨g1, ⟨a1, a2, a3, a4⟩, g3, g4⟩ := hci
      have hG := cl_G_cong (now := now) (now' := upd now 1 v) (fun k hk => if_neg (by omega)) r
      refine ⟨⟨sr_okL g1, ⟨?_, ?_, ?_, fun q hq => ?_⟩, by rw [hG]; exact g3, ?_⟩, fun o a _ _ _ => by funext z; rw [sr_sI_1, if_neg (by omega)], fun _ _ => rfl⟩
      · rw [sr_sI_1, if_neg (by decide)]; exact a1
      · rw [sr_sI_1, if_pos ⟨rfl, rfl⟩]; rfl
      · rw [sr_sI_1, if_neg (by decide)]; exact a3
      · have h9 := a4 q hq
        have u0 : upd now 1 v (3 + 4 * q) = now (3 + 4 * q) := if_neg (by omega)
        have u1 : upd now 1 v (3 + 4 * q + 1) = now (3 + 4 * q + 1) := if_neg (by omega)
        have u2 : upd now 1 v (3 + 4 * q + 2) = now (3 + 4 * q + 2) := if_neg (by omega)
        have u3 : upd now 1 v (3 + 4 * q + 3) = now (3 + 4 * q + 3) := if_neg (by omega)
        rw [u0, u1, u2, u3]; simp only [sr_sI_1]; rw [if_neg (by omega), if_neg (by omega), if_neg (by omega), if_neg (by omega)]; exact h9
      · rw [hG]; exact ⟨g4.1, g4.2.1, by rw [sr_sI_1, if_neg (by decide)]; exact g4.2.2.1, fun z hz => by rw [sr_sI_1, if_neg (by omega)]; exact g4.2.2.2 z hz⟩
    · have h1 := c946
      refine wp_iconst (v := nI 0) dX6_limit_18 rfl ?_
      have hb : (sr_isIn v (nI 1) (nI 99) && !decide (v = now 1)) = false := by rw [decide_eq_true h1, Bool.not_true, Bool.and_false]
      exact wp_zret dX6_limit_19 rfl (Or.inl rfl) ⟨by rw [hb]; rfl, fun h => absurd h (by rw [hb]; decide), fun _ => rfl⟩
set_option maxHeartbeats 400000 in
set_option maxRecDepth 100000 in
theorem c_X6_race (g : sr_G) (D : sr_St) (now : Nat → Int32) (n r : Nat) (hci : CI now n r D) (a b m t : Int32) : Con g M_X6_race [.ref 0, .int a, .int b, .int m, .int t] D (fun qa D' => (sr_raceOk n a b m t = true → (r = 12 → qa = some (.int (-2)) ∧ D' = D) ∧ (¬ r = 12 → qa = some (.int (nI r)) ∧ CI (sr_more now r a b m t) n (r + 1) D' ∧ cl_pm D D')) ∧ (sr_raceOk n a b m t = false → qa = some (.int (-1)) ∧ D' = D)) := by
  refine Con.of pn_X6_race (Nat.le_of_ble_eq_true rfl) ?_
  show WP g M_X6_race 0 [(0, .ref 0), (1, .int a), (2, .int b), (3, .int m), (4, .int t)] [] D _
  have hn6 := hci.n6
  have hr12 := hci.r12
  have hrk : sr_raceOk n a b m t = (sr_canRow n a b t && sr_isIn m (-999) (nI 999)) := by unfold sr_raceOk; rw [sr_canRow_eq hn6]; cases sr_crew n a b <;> cases sr_isIn m (-999) (nI 999) <;> cases sr_isIn t (-1) (nI 1) <;> rfl
  refine wp_aload_n dX6_race_0 rfl rfl ?_
  refine wp_getR (r := 1) dX6_race_1 fl_X6_10 (by decide) rfl rfl rfl ?_
  refine wp_iload_n dX6_race_4 rfl rfl ?_
  refine wp_iload_n dX6_race_5 rfl rfl ?_
  refine wp_iload dX6_race_6 rfl ?_
  refine wp_callV (M2 := M_X3_canRow) (n := 3) (As := [.int a, .int b, .int t]) (st := []) dX6_race_8 (c_X3_canRow g D n hci.2.1.1 (by omega) a b t) ca_X6_113 ⟨nm_X3_canRow, by decide, by decide⟩ rfl (by decide) rfl rfl rfl (Nat.le_of_ble_eq_true rfl) (fun r950 E951 q952 => ?_)
  obtain ⟨rfl, rfl⟩ := q952
  show WP g _ _ _ (.int (sr_b (sr_canRow n a b t)) :: _) _ _
  refine wp_if_eq_b (tgt := 28) dX6_race_11 (by decide) (fun c953 => ?_) (fun c953 => ?_)
  · have h0 := c953
    refine wp_iconst (v := -1) dX6_race_28 rfl ?_
    have hb : sr_raceOk n a b m t = false := by rw [hrk]; rw [h0]; rfl
    exact wp_iret dX6_race_29 rfl ⟨fun h => absurd h (by rw [hb]; decide), fun _ => ⟨rfl, rfl⟩⟩
  · have h0 := c953
    refine wp_iload_n dX6_race_14 rfl rfl ?_
    refine wp_sipush (v := -999) dX6_race_15 rfl ?_
    refine wp_icmp_lt (tgt := 28) dX6_race_18 (by decide) (fun c954 => ?_) (fun c954 => ?_)
    · have h1 := c954
      refine wp_iconst (v := -1) dX6_race_28 rfl ?_
      have hb : sr_raceOk n a b m t = false := by rw [hrk]; rw [show sr_isIn m (-999) (nI 999) = false from sr_in_f1 h1, Bool.and_false]
      exact wp_iret dX6_race_29 rfl ⟨fun h => absurd h (by rw [hb]; decide), fun _ => ⟨rfl, rfl⟩⟩
    · have h1 := c954
      refine wp_iload_n dX6_race_21 rfl rfl ?_
      refine wp_sipush (v := nI 999) dX6_race_22 rfl ?_
      refine wp_icmp_le (tgt := 30) dX6_race_25 (by decide) (fun c955 => ?_) (fun c955 => ?_)
      · have hb : sr_raceOk n a b m t = true := by rw [hrk, h0, show sr_isIn m (-999) (nI 999) = true from sr_in_t h1 (by rw [Int32.lt_iff_toInt_lt]; rw [Int32.le_iff_toInt_le] at c955; omega)]; rfl
        refine wp_aload_n dX6_race_30 rfl rfl ?_
        refine wp_getR (r := 1) dX6_race_31 fl_X6_10 (by decide) rfl rfl rfl ?_
        refine wp_callV (M2 := M_X3_isFull) (n := 0) (As := []) (st := []) dX6_race_34 (c_X3_isFull1 g D r hci.2.1.2.2.1 hr12) ca_X6_117 ⟨nm_X3_isFull, by decide, by decide⟩ rfl (by decide) rfl rfl rfl (Nat.le_of_ble_eq_true rfl) (fun r956 E957 q958 => ?_)
        obtain ⟨rfl, rfl⟩ := q958
        show WP g _ _ _ (.int (sr_b (decide (r = 12))) :: _) _ _
        refine wp_if_eq_b (tgt := 43) dX6_race_37 (by decide) (fun c959 => ?_) (fun c959 => ?_)
        · have hf := of_decide_eq_false c959
          refine wp_aload_n dX6_race_43 rfl rfl ?_
          refine wp_getR (r := 1) dX6_race_44 fl_X6_10 (by decide) rfl rfl rfl ?_
          refine wp_iload_n dX6_race_47 rfl rfl ?_
          refine wp_iload_n dX6_race_48 rfl rfl ?_
          refine wp_iload_n dX6_race_49 rfl rfl ?_
          refine wp_iload dX6_race_50 rfl ?_
          refine wp_callV (M2 := M_X3_append) (n := 4) (As := [.int a, .int b, .int m, .int t]) (st := []) dX6_race_52 (c_X3_append1 g D r hci.2.1.2.2.1 hr12 a b m t) ca_X6_120 ⟨nm_X3_append, by decide, by decide⟩ rfl (by decide) rfl rfl rfl (Nat.le_of_ble_eq_true rfl) (fun r960 E961 q962 => ?_)
          obtain ⟨rfl, eE961⟩ := q962
          have eE961 := eE961.symm
          show WP g _ _ _ _ _ _
          refine wp_aload_n dX6_race_55 rfl rfl ?_
          refine wp_callV (M2 := M_X6_judge) (n := 0) (As := []) (st := []) dX6_race_56 (c_X6_judge g E961 (sr_more now r a b m t) n (r + 1) (sr_okM hci.1 (by omega) hb) (by rw [eE961, if_neg hf]; exact lg_app hci.2.1)) ca_X6_97 ⟨nm_X6_judge, by decide, by decide⟩ rfl (by decide) rfl rfl rfl (Nat.le_of_ble_eq_true rfl) (fun r963 E964 q965 => ?_)
          obtain ⟨rfl, ci1, pj1⟩ := q965
          show WP g _ _ _ _ _ _
          refine wp_aload_n dX6_race_59 rfl rfl ?_
          refine wp_getR (r := 1) dX6_race_60 fl_X6_10 (by decide) rfl rfl rfl ?_
          refine wp_getI_n (n := r + 1) dX6_race_63 fl_X6_123 (by decide) rfl rfl (ci1.2.1.2.2.1) ?_
          refine wp_iconst (v := nI 1) dX6_race_66 rfl ?_
          refine wp_isub_n dX6_race_67 (by omega) ?_
          refine wp_iret dX6_race_68 rfl ⟨fun _ => ⟨fun h => absurd h hf, fun _ => ⟨rfl, ci1, cl_pm.tr (by rw [eE961, if_neg hf]; exact ⟨fun o x _ _ _ => by funext z; unfold sr_app; rw [sr_sI_1, if_neg (by omega), sr_sI_1, if_neg (by omega), sr_sI_1, if_neg (by omega), sr_sI_1, if_neg (by omega), sr_sI_1, if_neg (by omega)], fun _ _ => rfl⟩) pj1.pm⟩⟩, fun h => absurd hb (by rw [h]; decide)⟩
        · have hf := of_decide_eq_true c959
          refine wp_bipush (v := -2) dX6_race_40 rfl ?_
          exact wp_iret dX6_race_42 rfl ⟨fun _ => ⟨fun _ => ⟨rfl, rfl⟩, fun h => absurd hf h⟩, fun h => absurd hb (by rw [h]; decide)⟩
      · have h2 := c955
        refine wp_iconst (v := -1) dX6_race_28 rfl ?_
        have hb : sr_raceOk n a b m t = false := by rw [hrk]; rw [show sr_isIn m (-999) (nI 999) = false from sr_in_f2 (by rw [Int32.lt_iff_toInt_lt]; rw [Int32.le_iff_toInt_le] at h2; omega), Bool.and_false]
        exact wp_iret dX6_race_29 rfl ⟨fun h => absurd h (by rw [hb]; decide), fun _ => ⟨rfl, rfl⟩⟩
set_option maxHeartbeats 400000 in
set_option maxRecDepth 100000 in
theorem c_X6_strike (g : sr_G) (D : sr_St) (now : Nat → Int32) (n r : Nat) (hci : CI now n r D) (v : Int32) : Con g M_X6_strike [.ref 0, .int v] D (fun qa D' => (∀ q, q < r → v = nI q → qa = some (.int (nI (r - 1))) ∧ CI (sr_goes now q r) n (r - 1) D' ∧ cl_pm D D') ∧ ((¬ ∃ q, q < r ∧ v = nI q) → qa = some (.int (-1)) ∧ D' = D)) := by
  refine Con.of pn_X6_strike (Nat.le_of_ble_eq_true rfl) ?_
  show WP g M_X6_strike 0 [(0, .ref 0), (1, .int v)] [] D _
  have hn6 := hci.n6
  have hr12 := hci.r12
  by_cases hok : sr_isIn v (nI 0) (nI r - nI 1) = true
  · obtain ⟨x, hx, rfl⟩ := (sr_in_n (by omega)).mp hok
    refine wp_aload_n dX6_strike_0 rfl rfl ?_
    refine wp_getR (r := 1) dX6_strike_1 fl_X6_10 (by decide) rfl rfl rfl ?_
    refine wp_iload_n dX6_strike_4 rfl rfl ?_
    refine wp_callV (M2 := M_X3_hasRace) (n := 1) (As := [.int (nI x)]) (st := []) dX6_strike_5 (c_X3_hasRace1 g D r hci.2.1.2.2.1 (by omega) (nI x)) ca_X6_126 ⟨nm_X3_hasRace, by decide, by decide⟩ rfl (by decide) rfl rfl rfl (Nat.le_of_ble_eq_true rfl) (fun r966 E967 q968 => ?_)
    obtain ⟨rfl, rfl⟩ := q968
    show WP g _ _ _ (.int (sr_b (sr_isIn (nI x) (nI 0) (nI r - nI 1))) :: _) _ _
    refine wp_if_ne_b (tgt := 13) dX6_strike_8 (by decide) (fun c969 => ?_) (fun c969 => ?_)
    · refine wp_aload_n dX6_strike_13 rfl rfl ?_
      refine wp_getR (r := 1) dX6_strike_14 fl_X6_10 (by decide) rfl rfl rfl ?_
      refine wp_iload_n dX6_strike_17 rfl rfl ?_
      refine wp_callV (M2 := M_X3_remove) (n := 1) (As := [.int (nI x)]) (st := []) dX6_strike_18 (c_X3_remove g D r hci.2.1.2.2.1 hr12 x hx) ca_X6_129 ⟨nm_X3_remove, by decide, by decide⟩ rfl (by decide) rfl rfl rfl (Nat.le_of_ble_eq_true rfl) (fun r970 E971 q972 => ?_)
      obtain ⟨rfl, eE971⟩ := q972
      have eE971 := eE971.symm
      show WP g _ _ _ _ _ _
      refine wp_aload_n dX6_strike_21 rfl rfl ?_
      refine wp_callV (M2 := M_X6_judge) (n := 0) (As := []) (st := []) dX6_strike_22 (c_X6_judge g E971 (sr_goes now x r) n (r - 1) (sr_goes_ok hci.1 hx) (by rw [eE971]; exact lg_rem hci.2.1 hx)) ca_X6_97 ⟨nm_X6_judge, by decide, by decide⟩ rfl (by decide) rfl rfl rfl (Nat.le_of_ble_eq_true rfl) (fun r973 E974 q975 => ?_)
      obtain ⟨rfl, ci1, pj1⟩ := q975
      show WP g _ _ _ _ _ _
      refine wp_aload_n dX6_strike_25 rfl rfl ?_
      refine wp_getR (r := 1) dX6_strike_26 fl_X6_10 (by decide) rfl rfl rfl ?_
      refine wp_getI_n (n := r - 1) dX6_strike_29 fl_X6_123 (by decide) rfl rfl (ci1.2.1.2.2.1) ?_
      refine wp_iret dX6_strike_32 rfl ⟨fun q hq he => ?_, fun h => absurd ⟨x, hx, rfl⟩ h⟩
      have hqx := (sr_nI_inj (by omega) (by omega)).mp he
      subst hqx
      exact ⟨rfl, ci1, cl_pm.tr (by rw [eE971]; exact ⟨fun o a _ _ _ => by rw [sr_4_1, if_neg (by omega)]; funext z; rw [sr_sI_1, if_neg (by omega)], fun _ _ => rfl⟩) pj1.pm⟩
    · exact absurd hok (by rw [c969]; decide)
  · refine wp_aload_n dX6_strike_0 rfl rfl ?_
    refine wp_getR (r := 1) dX6_strike_1 fl_X6_10 (by decide) rfl rfl rfl ?_
    refine wp_iload_n dX6_strike_4 rfl rfl ?_
    refine wp_callV (M2 := M_X3_hasRace) (n := 1) (As := [.int v]) (st := []) dX6_strike_5 (c_X3_hasRace1 g D r hci.2.1.2.2.1 (by omega) v) ca_X6_126 ⟨nm_X3_hasRace, by decide, by decide⟩ rfl (by decide) rfl rfl rfl (Nat.le_of_ble_eq_true rfl) (fun r976 E977 q978 => ?_)
    obtain ⟨rfl, rfl⟩ := q978
    show WP g _ _ _ (.int (sr_b (sr_isIn v (nI 0) (nI r - nI 1))) :: _) _ _
    refine wp_if_ne_b (tgt := 13) dX6_strike_8 (by decide) (fun c979 => ?_) (fun c979 => ?_)
    · exact absurd c979 hok
    · refine wp_iconst (v := -1) dX6_strike_11 rfl ?_
      exact wp_iret dX6_strike_12 rfl ⟨fun q hq he => absurd ((sr_in_n (by omega)).mpr ⟨q, hq, he⟩) hok, fun _ => ⟨rfl, rfl⟩⟩
