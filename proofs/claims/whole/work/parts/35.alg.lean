/-! ===== what the algebra's calls leave as it was ===== -/
def sr_per (D E : sr_St) : Prop := (∀ o, ¬ o = 63 → ¬ o = 65 → ¬ o = 67 → ¬ o = 72 → E.1 o = D.1 o) ∧ (∀ k, ¬ k = 0 → ¬ k = 16 → ¬ k = 18 → ¬ k = 21 → ¬ k = 22 → ¬ k = 23 → E.1 63 k = D.1 63 k) ∧ (∀ o, ¬ o = 63 → ¬ o = 68 → ¬ o = 69 → ¬ o = 70 → ¬ o = 71 → E.2 o = D.2 o)
theorem sr_per.rf {D : sr_St} : sr_per D D := ⟨fun _ _ _ _ _ => rfl, fun _ _ _ _ _ _ _ => rfl, fun _ _ _ _ _ _ => rfl⟩
theorem sr_per.tr {D E F : sr_St} (h : sr_per D E) (k : sr_per E F) : sr_per D F :=
  ⟨fun o a b c d => (k.1 o a b c d).trans (h.1 o a b c d), fun x a b c d e f => (k.2.1 x a b c d e f).trans (h.2.1 x a b c d e f), fun o a b c d e => (k.2.2 o a b c d e).trans (h.2.2 o a b c d e)⟩
theorem sr_per.n64 {D E : sr_St} (h : sr_per D E) : E.1 64 = D.1 64 := h.1 64 (by decide) (by decide) (by decide) (by decide)
/-- a table is laid: its width, the products, the sums -/
def md_laid (w : Nat) (p s : Nat → Int64) (E : sr_St) : Prop := E.1 63 18 = nI w ∧ (∀ k, k < 49 → E.2 68 k = p k) ∧ ∀ k, k < 7 → E.2 69 k = s k
theorem md_tab_congr {w : Nat} {p p' f f' r : Nat → Int64} (hw : w ≤ 7) (hp : ∀ k, k < 49 → p k = p' k) (hf : ∀ k, k < 7 → f k = f' k) : md_tab w p f r = md_tab w p' f' r := by
  funext k
  unfold md_tab
  by_cases e : k / 8 < w ∧ k % 8 < w
  · rw [if_pos e, if_pos e]; exact hp _ (by omega)
  · rw [if_neg e, if_neg e]
    by_cases e2 : k / 8 < w ∧ k % 8 = w
    · rw [if_pos e2, if_pos e2]; exact hf _ (by omega)
    · rw [if_neg e2, if_neg e2]
theorem md_E_congr {w : Nat} {p p' f f' : Nat → Int64} (hw : w ≤ 7) (hp : ∀ k, k < 49 → p k = p' k) (hf : ∀ k, k < 7 → f k = f' k) : md_kn w p f = md_kn w p' f' ∧ md_by w p f = md_by w p' f' ∧ md_rk w p f = md_rk w p' f' ∧ md_sv w p f = md_sv w p' f' := by
  have h := md_tab_congr (r := fun _ => 0) hw hp hf
  unfold md_kn md_by md_rk md_sv md_E
  rw [h]
  exact ⟨rfl, rfl, rfl, rfl⟩
/-- the numbers below are above 0 for this table, whatever stands behind it -/
def md_good (w : Nat) (p : Nat → Int64) : Prop := ∀ f, 0 < md_by w p f
theorem sr_l0 {x : Int64} (h : 0 < x) : 0 ≤ x := by rw [Int64.lt_iff_toInt_lt] at h; rw [Int64.le_iff_toInt_le]; omega
/-- behind isKnown for the form f -/
def md_after (w : Nat) (p s : Nat → Int64) (f : Nat → Int32) (E E' : sr_St) : Prop := sr_per E E' ∧ md_laid w p s E' ∧ E'.1 67 = E.1 67 ∧ E'.1 65 = E.1 65 ∧ (∀ k, ¬ k = 16 → E'.1 63 k = E.1 63 k) ∧ (∀ k, ¬ k = 17 → E'.2 63 k = E.2 63 k) ∧ E'.1 63 16 = nI (md_rk w p (sr_l f)) ∧ E'.2 63 17 = md_by w p (sr_l f) ∧ ∀ k, k < 7 → E'.2 71 k = md_sv w p (sr_l f) k
theorem md_post_after {w : Nat} {p s p' f' : Nat → Int64} {f : Nat → Int32} {E E' : sr_St} (hw : w ≤ 7) (hl : md_laid w p s E) (hp : ∀ k, k < 49 → p' k = p k) (hf : ∀ k, k < 7 → f' k = sr_l f k) (h : md_post E w p' f' E') : md_after w p s f E E' := by
  obtain ⟨r, le, so, rfl, hso⟩ := h
  obtain ⟨e1, e2, e3, e4⟩ := md_E_congr hw hp hf
  obtain ⟨l1, l2, l3⟩ := hl
  refine ⟨⟨fun o a b c d => ?_, fun k a b c d e f => ?_, fun o a b c d e => ?_⟩, ⟨?_, fun k hk => ?_, fun k hk => ?_⟩, rfl, rfl, fun k hk => ?_, fun k hk => ?_, ?_, ?_, fun k hk => ?_⟩
  · simp [md_D, a, d]
  · simp [md_D, upd, b]
  · simp [md_D, a, d, e]
  · exact l1
  · exact l2 k hk
  · exact l3 k hk
  · simp [md_D, upd, hk]
  · simp [md_D, vp_updL, hk]
  · rw [← e3]; rfl
  · rw [← e2]; rfl
  · rw [← e4]; exact hso k hk
theorem c_kn (g : sr_G) (E : sr_St) (w : Nat) (p s : Nat → Int64) (f : Nat → Int32) (hw7 : w ≤ 7) (hl : md_laid w p s E) (hf : ∀ k, k < 7 → E.1 67 k = f k) (hg : md_good w p) : Con g M_X7_isKnown [.ref 63] E (fun a E' => a = some (.int (sr_b (md_kn w p (sr_l f)))) ∧ md_after w p s f E E') := by
  obtain ⟨e1, e2, e3, e4⟩ := md_E_congr (p := E.2 68) (p' := p) (f := sr_l (E.1 67)) (f' := sr_l f) hw7 hl.2.1 (fun k hk => by unfold sr_l; rw [hf k hk])
  refine (c_X7_isKnown g E w hl.1 hw7 (by rw [e2]; exact sr_l0 (hg _))).weaken (fun a E' h => ?_)
  rw [e1] at h
  exact ⟨h.1, md_post_after hw7 hl hl.2.1 (fun k hk => by unfold sr_l; rw [hf k hk]) h.2⟩
theorem sr_sumL_congr {f f' : Nat → Int64} : ∀ n, (∀ k, k < n → f k = f' k) → sr_sumL f n = sr_sumL f' n := by
  intro n
  induction n with
  | zero => intro _; rfl
  | succ n ih => intro h; show sr_sumL f n + f n = sr_sumL f' n + f' n; rw [ih (fun k hk => h k (by omega)), h n (by omega)]
/-- value and doubt of a form, times the number below -/
def md_val (w : Nat) (p s : Nat → Int64) (f : Nat → Int64) : Int64 := sr_sumL (fun k => md_sv w p f k * s k) w
def md_dou (w : Nat) (p : Nat → Int64) (f : Nat → Int64) : Int64 := sr_sumL (fun k => md_sv w p f k * f k) w
theorem c_val (g : sr_G) (E : sr_St) (w : Nat) (p s f : Nat → Int64) (hw7 : w ≤ 7) (hl : md_laid w p s E) (hs : ∀ k, k < 7 → E.2 71 k = md_sv w p f k) : Con g M_X7_value [.ref 63] E (sr_ret (some (.long (md_val w p s f))) E) := by
  have h := c_X7_value g E w hl.1 hw7
  rw [sr_sumL_congr (f' := fun k => md_sv w p f k * s k) w (fun k hk => by rw [hs k (by omega), hl.2.2 k (by omega)])] at h
  exact h
theorem c_dou (g : sr_G) (E : sr_St) (w : Nat) (p s f : Nat → Int64) (hw7 : w ≤ 7) (hl : md_laid w p s E) (hs : ∀ k, k < 7 → E.2 71 k = md_sv w p f k) (hf : ∀ k, k < 7 → (E.1 67 k).toInt64 = f k) : Con g M_X7_doubt [.ref 63] E (sr_ret (some (.long (md_dou w p f))) E) := by
  have h := c_X7_doubt g E w hl.1 hw7
  rw [sr_sumL_congr (f' := fun k => md_sv w p f k * f k) w (fun k hk => by rw [hs k (by omega), hf k (by omega)])] at h
  exact h
/-! the table of all races -/
def sr_ra (now : Nat → Int32) (q : Nat) : Nat := (now (3 + 4 * q)).toNatClampNeg
def sr_rb (now : Nat → Int32) (q : Nat) : Nat := (now (3 + 4 * q + 1)).toNatClampNeg
/-- the races are such as can be -/
def sr_logOk (now : Nat → Int32) (n r : Nat) : Prop := sr_nowOk now n r ∧ ∀ q, q < r → now (3 + 4 * q) = nI (sr_ra now q) ∧ now (3 + 4 * q + 1) = nI (sr_rb now q) ∧ sr_crewN n (sr_ra now q) (sr_rb now q) = true ∧ sr_isIn (now (3 + 4 * q + 2)) (-999) (nI 999) = true ∧ sr_isIn (now (3 + 4 * q + 3)) (-1) (nI 1) = true
theorem sr_crewN_lt {n x y : Nat} (hn : n ≤ 6) (h : sr_crewN n x y = true) : x < 64 ∧ y < 64 := by
  simp only [sr_crewN, Bool.and_eq_true, decide_eq_true_eq] at h
  have := sr_pw hn
  omega
def sr_rform (now : Nat → Int32) (n q : Nat) : Nat → Int32 := sr_form n (sr_ra now q) (sr_rb now q) (now (3 + 4 * q + 3))
def md_P (now : Nat → Int32) (n : Nat) : Nat → Nat → Int64
  | 0 => fun _ => 0
  | q + 1 => sr_comesP (n + 1) (sr_rform now n q) (md_P now n q)
def md_S1 (now : Nat → Int32) (n : Nat) : Nat → Nat → Int64
  | 0 => fun _ => 0
  | q + 1 => sr_comesS (n + 1) (sr_rform now n q) (now (3 + 4 * q + 2)) (md_S1 now n q)
theorem sr_comesP_congr {w : Nat} {f f' : Nat → Int32} {p p' : Nat → Int64} (hw : w ≤ 7) (hf : ∀ k, k < 7 → f k = f' k) (hp : ∀ k, k < 49 → p k = p' k) : ∀ k, k < 49 → sr_comesP w f p k = sr_comesP w f' p' k := by
  intro k hk
  unfold sr_comesP
  rw [hp k hk, hf (k / 7) (by omega), hf (k % 7) (by omega)]
theorem sr_comesS_congr {w : Nat} {f f' : Nat → Int32} {m : Int32} {p p' : Nat → Int64} (hf : ∀ k, k < 7 → f k = f' k) (hp : ∀ k, k < 7 → p k = p' k) : ∀ k, k < 7 → sr_comesS w f m p k = sr_comesS w f' m p' k := by
  intro k hk
  unfold sr_comesS
  rw [hp k hk, hf k hk]
/-- comes: a form more in the table -/
theorem c_comes (g : sr_G) (E : sr_St) (w : Nat) (p s : Nat → Int64) (f : Nat → Int32) (m : Int32) (hw7 : w ≤ 7) (hl : md_laid w p s E) (hf : ∀ k, k < 7 → E.1 67 k = f k) : Con g M_X7_comes [.ref 63, .int m] E (fun a E' => a = none ∧ sr_per E E' ∧ md_laid w (sr_comesP w f p) (sr_comesS w f m s) E' ∧ E'.1 = E.1 ∧ E'.2 63 = E.2 63) := by
  refine (c_X7_comes g E w hl.1 hw7 m).weaken (fun a E' h => ?_)
  obtain ⟨rfl, rfl⟩ := h
  refine ⟨rfl, ⟨fun o a b c d => rfl, fun k a b c d e f => rfl, fun o a b c d e => by simp [sr_rJ, b, c]⟩, ⟨hl.1, fun k hk => ?_, fun k hk => ?_⟩, rfl, rfl⟩
  · show sr_comesP w (E.1 67) (E.2 68) k = _
    exact sr_comesP_congr hw7 hf hl.2.1 k hk
  · show sr_comesS w (E.1 67) m (E.2 69) k = _
    exact sr_comesS_congr hf hl.2.2 k hk
theorem c_form (g : sr_G) (E : sr_St) (n : Nat) (hn : E.1 64 0 = nI n) (hn6 : n ≤ 6) (a b : Nat) (ha : a < 64) (hb : b < 64) (t : Int32) : Con g M_X7_formOf [.ref 63, .int (nI a), .int (nI b), .int t] E (fun q E' => q = none ∧ sr_per E E' ∧ (∀ w p s, md_laid w p s E → md_laid w p s E') ∧ (∀ k, k < 7 → E'.1 67 k = sr_form n a b t k) ∧ E'.2 = E.2 ∧ ∀ o, ¬ o = 67 → E'.1 o = E.1 o) := by
  refine (c_X7_formOf g E n hn hn6 a b ha hb t).weaken (fun q E' h => ?_)
  obtain ⟨rfl, rfl⟩ := h
  refine ⟨rfl, ⟨fun o a b c d => by simp [sr_rI, c], fun k a b c d e f => rfl, fun o a b c d e => rfl⟩, fun w p s hl => hl, fun k hk => ?_, rfl, fun o ho => by simp [sr_rI, ho]⟩
  show sr_fill 7 _ _ k = _
  unfold sr_fill
  rw [if_pos hk]
theorem c_diff (g : sr_G) (E : sr_St) (i j : Nat) (hi : i < 6) (hj : j < 6) : Con g M_X7_difference [.ref 63, .int (nI i), .int (nI j)] E (fun q E' => q = none ∧ sr_per E E' ∧ (∀ w p s, md_laid w p s E → md_laid w p s E') ∧ (∀ k, k < 7 → E'.1 67 k = sr_dform i j k) ∧ E'.2 = E.2 ∧ ∀ o, ¬ o = 67 → E'.1 o = E.1 o) := by
  refine (c_X7_difference g E i j hi hj).weaken (fun q E' h => ?_)
  obtain ⟨rfl, rfl⟩ := h
  refine ⟨rfl, ⟨fun o a b c d => by simp [sr_rI, c], fun k a b c d e f => rfl, fun o a b c d e => rfl⟩, fun w p s hl => hl, fun k hk => ?_, rfl, fun o ho => by simp [sr_rI, ho]⟩
  show sr_fill 7 _ _ k = _
  unfold sr_fill
  rw [if_pos hk]
theorem c_clr (g : sr_G) (E : sr_St) : Con g M_X7_clearsForm [.ref 63] E (fun q E' => q = none ∧ sr_per E E' ∧ (∀ w p s, md_laid w p s E → md_laid w p s E') ∧ (∀ k, k < 7 → E'.1 67 k = nI 0) ∧ E'.2 = E.2 ∧ ∀ o, ¬ o = 67 → E'.1 o = E.1 o) := by
  refine (c_X7_clearsForm g E).weaken (fun q E' h => ?_)
  obtain ⟨rfl, rfl⟩ := h
  refine ⟨rfl, ⟨fun o a b c d => by simp [sr_rI, c], fun k a b c d e f => rfl, fun o a b c d e => rfl⟩, fun w p s hl => hl, fun k hk => ?_, rfl, fun o ho => by simp [sr_rI, ho]⟩
  simp [sr_rI, sr_fill, hk]
set_option maxHeartbeats 4000000 in
set_option maxRecDepth 100000 in
theorem c_X7_lays (g : sr_G) (D : sr_St) (n r : Nat) (hlo : sr_logOk (D.1 64) n r) : Con g M_X7_lays [.ref 63] D (fun a D' => a = none ∧ sr_per D D' ∧ md_laid (n + 1) (md_P (D.1 64) n r) (md_S1 (D.1 64) n r) D' ∧ D'.1 65 = D.1 65 ∧ (∀ k, ¬ k = 18 → D'.1 63 k = D.1 63 k) ∧ D'.2 63 = D.2 63) := by
  refine Con.of pn_X7_lays (Nat.le_of_ble_eq_true rfl) ?_
  show WP g M_X7_lays 0 [(0, .ref 63)] [] D _
  obtain ⟨⟨hn, hn6, hr, hr12⟩, hq⟩ := hlo
  have h54 : ∀ q, q ≤ r → ∀ E : sr_St, sr_per D E → E.1 65 = D.1 65 → (∀ k, ¬ k = 18 → E.1 63 k = D.1 63 k) → E.2 63 = D.2 63 → md_laid (n + 1) (md_P (D.1 64) n q) (md_S1 (D.1 64) n q) E → WP g M_X7_lays 54 [(0, .ref 63), (1, .int (nI q))] [] E (fun a D' => a = none ∧ sr_per D D' ∧ md_laid (n + 1) (md_P (D.1 64) n r) (md_S1 (D.1 64) n r) D' ∧ D'.1 65 = D.1 65 ∧ (∀ k, ¬ k = 18 → D'.1 63 k = D.1 63 k) ∧ D'.2 63 = D.2 63) := by
    refine sr_up (fun q hqr ih E hper h65 h63 h63b hl => ?_)
    have e64 := hper.n64
    have kr : E.1 64 2 = nI r := by rw [e64]; exact hr
    have kn : E.1 64 0 = nI n := by rw [e64]; exact hn
    refine wp_iload_n dX7_lays_54 rfl rfl ?_
    refine wp_aload_n dX7_lays_55 rfl rfl ?_
    refine wp_callV (M2 := M_X7_races) (n := 0) (As := []) (st := [.int (nI q)]) dX7_lays_56 (c_X7_races_n g E r kr) ca_X7_58 ⟨nm_X7_races, by decide, by decide⟩ rfl (by decide) rfl rfl rfl (Nat.le_of_ble_eq_true rfl) (fun r1 E2 q3 => ?_)
    obtain ⟨rfl, rfl⟩ := q3
    show WP g _ _ _ (.int (nI r) :: _) _ _
    refine wp_icmp_ge_n (tgt := 100) dX7_lays_59 (by decide) (by first | omega | (split <;> omega)) (by first | omega | (split <;> omega)) (fun c4 => ?_) (fun c4 => ?_)
    · have hqe : q = r := by omega
      subst hqe
      exact wp_vret dX7_lays_100 rfl ⟨rfl, hper, hl, h65, h63, h63b⟩
    · have hv := hq q (by omega)
      have hlt := sr_crewN_lt hn6 hv.2.2.1
      refine wp_aload_n dX7_lays_62 rfl rfl ?_
      refine wp_aload_n dX7_lays_63 rfl rfl ?_
      refine wp_iload_n dX7_lays_64 rfl rfl ?_
      refine wp_iconst (v := nI 0) dX7_lays_65 rfl ?_
      refine wp_callV (M2 := M_X7_of) (n := 2) (As := [.int (nI q), .int (nI 0)]) (st := [.ref 63]) dX7_lays_66 (c_X7_of g E q 0 (by omega) (by omega) (by omega)) ca_X7_73 ⟨nm_X7_of, by decide, by decide⟩ rfl (by decide) rfl rfl rfl (Nat.le_of_ble_eq_true rfl) (fun r5 E6 q7 => ?_)
      rw [e64] at q7
      rw [show 3 + 4 * q + 0 = 3 + 4 * q from rfl, hv.1] at q7
      obtain ⟨rfl, rfl⟩ := q7
      show WP g _ _ _ (.int (nI (sr_ra (D.1 64) q)) :: _) _ _
      refine wp_aload_n dX7_lays_69 rfl rfl ?_
      refine wp_iload_n dX7_lays_70 rfl rfl ?_
      refine wp_iconst (v := nI 1) dX7_lays_71 rfl ?_
      refine wp_callV (M2 := M_X7_of) (n := 2) (As := [.int (nI q), .int (nI 1)]) (st := [.int (nI (sr_ra (D.1 64) q)), .ref 63]) dX7_lays_72 (c_X7_of g E q 1 (by omega) (by omega) (by omega)) ca_X7_73 ⟨nm_X7_of, by decide, by decide⟩ rfl (by decide) rfl rfl rfl (Nat.le_of_ble_eq_true rfl) (fun r8 E9 q10 => ?_)
      rw [e64] at q10
      rw [hv.2.1] at q10
      obtain ⟨rfl, rfl⟩ := q10
      show WP g _ _ _ (.int (nI (sr_rb (D.1 64) q)) :: _) _ _
      refine wp_aload_n dX7_lays_75 rfl rfl ?_
      refine wp_iload_n dX7_lays_76 rfl rfl ?_
      refine wp_iconst (v := nI 3) dX7_lays_77 rfl ?_
      refine wp_callV (M2 := M_X7_of) (n := 2) (As := [.int (nI q), .int (nI 3)]) (st := [.int (nI (sr_rb (D.1 64) q)), .int (nI (sr_ra (D.1 64) q)), .ref 63]) dX7_lays_78 (c_X7_of g E q 3 (by omega) (by omega) (by omega)) ca_X7_73 ⟨nm_X7_of, by decide, by decide⟩ rfl (by decide) rfl rfl rfl (Nat.le_of_ble_eq_true rfl) (fun r11 E12 q13 => ?_)
      rw [e64] at q13
      obtain ⟨rfl, rfl⟩ := q13
      show WP g _ _ _ (.int (D.1 64 (3 + 4 * q + 3)) :: _) _ _
      refine wp_callV (M2 := M_X7_formOf) (n := 3) (As := [.int (nI (sr_ra (D.1 64) q)), .int (nI (sr_rb (D.1 64) q)), .int (D.1 64 (3 + 4 * q + 3))]) (st := []) dX7_lays_81 (c_form g E n kn hn6 (sr_ra (D.1 64) q) (sr_rb (D.1 64) q) hlt.1 hlt.2 (D.1 64 (3 + 4 * q + 3))) ca_X7_149 ⟨nm_X7_formOf, by decide, by decide⟩ rfl (by decide) rfl rfl rfl (Nat.le_of_ble_eq_true rfl) (fun r14 E15 q16 => ?_)
      obtain ⟨rfl, p1, l1, f1, g1, o1⟩ := q16
      show WP g _ _ _ _ _ _
      have e64b : E15.1 64 = D.1 64 := by rw [p1.n64]; exact e64
      refine wp_aload_n dX7_lays_84 rfl rfl ?_
      refine wp_aload_n dX7_lays_85 rfl rfl ?_
      refine wp_iload_n dX7_lays_86 rfl rfl ?_
      refine wp_iconst (v := nI 2) dX7_lays_87 rfl ?_
      refine wp_callV (M2 := M_X7_of) (n := 2) (As := [.int (nI q), .int (nI 2)]) (st := [.ref 63]) dX7_lays_88 (c_X7_of g E15 q 2 (by omega) (by omega) (by omega)) ca_X7_73 ⟨nm_X7_of, by decide, by decide⟩ rfl (by decide) rfl rfl rfl (Nat.le_of_ble_eq_true rfl) (fun r17 E18 q19 => ?_)
      rw [e64b] at q19
      obtain ⟨rfl, rfl⟩ := q19
      show WP g _ _ _ (.int (D.1 64 (3 + 4 * q + 2)) :: _) _ _
      refine wp_callV (M2 := M_X7_comes) (n := 1) (As := [.int (D.1 64 (3 + 4 * q + 2))]) (st := []) dX7_lays_91 (c_comes g E15 (n + 1) _ _ (sr_rform (D.1 64) n q) (D.1 64 (3 + 4 * q + 2)) (by omega) (l1 _ _ _ hl) f1) ca_X7_153 ⟨nm_X7_comes, by decide, by decide⟩ rfl (by decide) rfl rfl rfl (Nat.le_of_ble_eq_true rfl) (fun r20 E21 q22 => ?_)
      obtain ⟨rfl, p2, l2, g2, h63c⟩ := q22
      show WP g _ _ _ _ _ _
      refine wp_iinc_n (b := 1) (lv' := [(0, .ref 63), (1, .int (nI (q + 1)))]) dX7_lays_94 rfl rfl (by decide) rfl ?_
      refine wp_goto (tgt := 54) dX7_lays_97 (by decide) ?_
      refine ih (by omega) E21 ((hper.tr p1).tr p2) (by rw [g2, o1 65 (by decide)]; exact h65) (fun k hk => by rw [g2, o1 63 (by decide)]; exact h63 k hk) (by rw [h63c, g1]; exact h63b) l2
  have h33 : ∀ i, i ≤ 7 → WP g M_X7_lays 33 [(0, .ref 63), (1, .int (nI i))] [] (sr_rJ (sr_rJ (sr_sI D 63 18 (nI (n + 1))) 68 (sr_fill 49 (fun _ => 0) (D.2 68))) 69 (sr_fill i (fun _ => 0) (D.2 69))) (fun a D' => a = none ∧ sr_per D D' ∧ md_laid (n + 1) (md_P (D.1 64) n r) (md_S1 (D.1 64) n r) D' ∧ D'.1 65 = D.1 65 ∧ (∀ k, ¬ k = 18 → D'.1 63 k = D.1 63 k) ∧ D'.2 63 = D.2 63) := by
    refine sr_up (fun i hi ih => ?_)
    refine wp_iload_n dX7_lays_33 rfl rfl ?_
    refine wp_bipush (v := nI 7) dX7_lays_34 rfl ?_
    refine wp_icmp_ge_n (tgt := 52) dX7_lays_36 (by decide) (by first | omega | (split <;> omega)) (by first | omega | (split <;> omega)) (fun c23 => ?_) (fun c23 => ?_)
    · refine wp_iconst (v := nI 0) dX7_lays_52 rfl ?_
      refine wp_istore_n (lv' := [(0, .ref 63), (1, .int (nI 0))]) dX7_lays_53 rfl (by decide) rfl ?_
      have hi7 : i = 7 := by omega
      subst hi7
      refine h54 0 (by omega) _ ⟨fun o a b c d => by simp [sr_rJ, sr_sI, a], fun k a b c d e f => by simp [sr_rJ, sr_sI_1, c], fun o a b c d e => by simp [sr_rJ, sr_sI, b, c]⟩ rfl (fun k hk => by simp [sr_rJ, sr_sI_1, hk]) rfl ⟨?_, fun k hk => ?_, fun k hk => ?_⟩
      · simp [sr_rJ, sr_sI_1]
      · simp [sr_rJ, sr_fill, hk, md_P]
      · simp [sr_rJ, sr_fill, hk, md_S1]
    · refine wp_aload_n dX7_lays_39 rfl rfl ?_
      refine wp_getR (r := 69) dX7_lays_40 fl_X7_31 (by decide) rfl rfl rfl ?_
      refine wp_iload_n dX7_lays_43 rfl rfl ?_
      refine wp_lconst (v := 0) dX7_lays_44 rfl ?_
      refine wp_last dX7_lays_45 (by decide) rfl (show _ < 7 by omega) (by first | omega | (split <;> omega)) ?_
      refine wp_D (fun D24 eD24 => ?_)
      refine wp_iinc_n (b := 1) (lv' := [(0, .ref 63), (1, .int (nI (i + 1)))]) dX7_lays_46 rfl rfl (by decide) rfl ?_
      refine wp_goto (tgt := 33) dX7_lays_49 (by decide) ?_
      have h := ih (by omega)
      rw [← sr_fillJ] at h
      subst eD24
      exact h
  have h12 : ∀ i, i ≤ 49 → WP g M_X7_lays 12 [(0, .ref 63), (1, .int (nI i))] [] (sr_rJ (sr_sI D 63 18 (nI (n + 1))) 68 (sr_fill i (fun _ => 0) (D.2 68))) (fun a D' => a = none ∧ sr_per D D' ∧ md_laid (n + 1) (md_P (D.1 64) n r) (md_S1 (D.1 64) n r) D' ∧ D'.1 65 = D.1 65 ∧ (∀ k, ¬ k = 18 → D'.1 63 k = D.1 63 k) ∧ D'.2 63 = D.2 63) := by
    refine sr_up (fun i hi ih => ?_)
    refine wp_iload_n dX7_lays_12 rfl rfl ?_
    refine wp_bipush (v := nI 49) dX7_lays_13 rfl ?_
    refine wp_icmp_ge_n (tgt := 31) dX7_lays_15 (by decide) (by first | omega | (split <;> omega)) (by first | omega | (split <;> omega)) (fun c25 => ?_) (fun c25 => ?_)
    · refine wp_iconst (v := nI 0) dX7_lays_31 rfl ?_
      refine wp_istore_n (lv' := [(0, .ref 63), (1, .int (nI 0))]) dX7_lays_32 rfl (by decide) rfl ?_
      have hi7 : i = 49 := by omega
      subst hi7
      have h := h33 0 (by decide)
      rw [sr_fill_0] at h
      have hs : sr_rJ (sr_rJ (sr_sI D 63 18 (nI (n + 1))) 68 (sr_fill 49 (fun _ => 0) (D.2 68))) 69 (D.2 69) = sr_rJ (sr_sI D 63 18 (nI (n + 1))) 68 (sr_fill 49 (fun _ => 0) (D.2 68)) := sr_rJ_self _ 69
      rw [hs] at h
      exact h
    · refine wp_aload_n dX7_lays_18 rfl rfl ?_
      refine wp_getR (r := 68) dX7_lays_19 fl_X7_27 (by decide) rfl rfl rfl ?_
      refine wp_iload_n dX7_lays_22 rfl rfl ?_
      refine wp_lconst (v := 0) dX7_lays_23 rfl ?_
      refine wp_last dX7_lays_24 (by decide) rfl (show _ < 49 by omega) (by first | omega | (split <;> omega)) ?_
      refine wp_D (fun D26 eD26 => ?_)
      refine wp_iinc_n (b := 1) (lv' := [(0, .ref 63), (1, .int (nI (i + 1)))]) dX7_lays_25 rfl rfl (by decide) rfl ?_
      refine wp_goto (tgt := 12) dX7_lays_28 (by decide) ?_
      have h := ih (by omega)
      rw [← sr_fillJ] at h
      subst eD26
      exact h
  refine wp_aload_n dX7_lays_0 rfl rfl ?_
  refine wp_aload_n dX7_lays_1 rfl rfl ?_
  refine wp_callV (M2 := M_X7_n) (n := 0) (As := []) (st := [.ref 63]) dX7_lays_2 (c_X7_n_n g D n hn) ca_X7_46 ⟨nm_X7_n, by decide, by decide⟩ rfl (by decide) rfl rfl rfl (Nat.le_of_ble_eq_true rfl) (fun r27 E28 q29 => ?_)
  obtain ⟨rfl, rfl⟩ := q29
  show WP g _ _ _ (.int (nI n) :: _) _ _
  refine wp_iconst (v := nI 1) dX7_lays_5 rfl ?_
  refine wp_iadd_n dX7_lays_6 ?_
  refine wp_putI dX7_lays_7 fl_X7_146 (by decide) rfl rfl ?_
  refine wp_D (fun D30 eD30 => ?_)
  refine wp_iconst (v := nI 0) dX7_lays_10 rfl ?_
  refine wp_istore_n (lv' := [(0, .ref 63), (1, .int (nI 0))]) dX7_lays_11 rfl (by decide) rfl ?_
  subst eD30
  have h := h12 0 (by decide)
  rw [sr_fill_0] at h
  have hs : sr_rJ (sr_sI D 63 18 (nI (n + 1))) 68 (D.2 68) = sr_sI D 63 18 (nI (n + 1)) := sr_rJ_self _ 68
  rw [hs] at h
  exact h
