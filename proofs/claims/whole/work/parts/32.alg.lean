/-- the numbers with the model's table in them: 70 the table, 63.16 the rank, 63.17 the number below, 72 the leads, 71 what is solved -/
def md_D (D : sr_St) (r : Nat → Int64) (rk : Nat) (b : Int64) (le : Nat → Int32) (so : Nat → Int64) : sr_St := (fun o => if o = 63 then upd (D.1 63) 16 (nI rk) else if o = 72 then le else D.1 o, fun o => if o = 63 then vp_updL (D.2 63) 17 b else if o = 70 then r else if o = 71 then so else D.2 o)
section MD
variable {D : sr_St} {r : Nat → Int64} {rk : Nat} {b : Int64} {le : Nat → Int32} {so : Nat → Int64}
theorem md_D_16 : (md_D D r rk b le so).1 63 16 = nI rk := rfl
theorem md_D_18 {w : Nat} (h : D.1 63 18 = nI w) : (md_D D r rk b le so).1 63 18 = nI w := h
theorem md_D_17 : (md_D D r rk b le so).2 63 17 = b := rfl
theorem md_D_70 : (md_D D r rk b le so).2 70 = r := rfl
theorem md_D_71 : (md_D D r rk b le so).2 71 = so := rfl
theorem md_D_72 : (md_D D r rk b le so).1 72 = le := rfl
theorem md_D_s16 {x : Nat} : sr_sI (md_D D r rk b le so) 63 16 (nI x) = md_D D r x b le so := by
  unfold sr_sI md_D
  congr 1
  funext o
  by_cases h : o = 63
  · subst h; simp only [if_true]; funext k; unfold upd; by_cases e : k = 16 <;> simp [e]
  · simp [h]
theorem md_D_s17 {x : Int64} : sr_sJ (md_D D r rk b le so) 63 17 x = md_D D r rk x le so := by
  unfold sr_sJ md_D
  congr 1
  funext o
  by_cases h : o = 63
  · subst h; simp only [if_true]; funext k; unfold vp_updL; by_cases e : k = 17 <;> simp [e]
  · simp [h]
theorem md_D_r70 {r' : Nat → Int64} : sr_rJ (md_D D r rk b le so) 70 r' = md_D D r' rk b le so := by
  unfold sr_rJ md_D
  congr 1
  funext o
  by_cases h : o = 70
  · subst h; simp
  · simp [h]
theorem md_D_r71 {r' : Nat → Int64} : sr_rJ (md_D D r rk b le so) 71 r' = md_D D r rk b le r' := by
  unfold sr_rJ md_D
  congr 1
  funext o
  by_cases h : o = 71
  · subst h; simp
  · simp [h]
theorem md_D_s70 {k : Nat} {x : Int64} : sr_sJ (md_D D r rk b le so) 70 k x = md_D D (vp_updL r k x) rk b le so := by rw [sr_sJ_r, md_D_70, md_D_r70]
theorem md_D_s71 {k : Nat} {x : Int64} : sr_sJ (md_D D r rk b le so) 71 k x = md_D D r rk b le (vp_updL so k x) := by rw [sr_sJ_r, md_D_71, md_D_r71]
theorem md_D_s72 {k : Nat} {x : Int32} : sr_sI (md_D D r rk b le so) 72 k x = md_D D r rk b (upd le k x) so := by
  unfold sr_sI md_D
  congr 1
  funext o
  by_cases h : o = 72
  · subst h; simp
  · simp [h]
theorem md_D_in : md_D D (D.2 70) rk b (D.1 72) (D.2 71) = sr_sJ (sr_sI D 63 16 (nI rk)) 63 17 b := by
  unfold sr_sJ sr_sI md_D
  congr 1
  · funext o
    by_cases h : o = 63
    · simp [h]
    · by_cases h2 : o = 72 <;> simp [h, h2]
  · funext o
    by_cases h : o = 63
    · simp [h]
    · by_cases h2 : o = 70
      · simp [h2]
      · by_cases h3 : o = 71 <;> simp [h, h2, h3]
end MD
/-- what is solved, of the leads below rk -/
def md_solT (w : Nat) (r : Nat → Int64) (le : Nat → Int32) (so : Nat → Int64) : Nat → Nat → Int64
  | 0 => sr_fill 7 (fun _ => 0) so
  | q + 1 => vp_updL (md_solT w r le so q) (le q).toNatClampNeg (r (8 * q + w))
/-- is every row from rk on 0 behind? -/
def md_ok (w : Nat) (r : Nat → Int64) : Nat → Nat → Bool
  | 0, _ => true
  | f + 1, i => decide (r (8 * i + w) = 0) && md_ok w r f (i + 1)
/-- the end of solves: table, rank, number, leads, solved, whether there is such -/
def md_fin (w : Nat) (r : Nat → Int64) (le : Nat → Int32) (so : Nat → Int64) : md_S := md_cols w w (r, 0, 1, le)
def md_so (w : Nat) (r : Nat → Int64) (le : Nat → Int32) (so : Nat → Int64) : Nat → Int64 := md_solT w (md_fin w r le so).1 (md_fin w r le so).2.2.2 so (md_fin w r le so).2.1
theorem md_elimT_s {w rk c i j : Nat} {b : Int64} {r : Nat → Int64} (hc : c ≤ w) (hi : i < 7) (hj : j < 8) (hn : ¬ i = rk) : vp_updL (md_elimT w rk c i j b r) (8 * i + j) ((r (8 * rk + c) * md_elimT w rk c i j b r (8 * i + j) - r (8 * i + c) * md_elimT w rk c i j b r (8 * rk + j)) / b) = md_elimT w rk c i (j + 1) b r := by
  have e1 : md_elimT w rk c i j b r (8 * i + j) = r (8 * i + j) := by unfold md_elimT; rw [if_neg (by omega)]
  have e2 : md_elimT w rk c i j b r (8 * rk + j) = r (8 * rk + j) := by unfold md_elimT; rw [if_neg (by omega)]
  rw [e1, e2]
  funext k
  unfold vp_updL md_elimT
  by_cases h1 : k = 8 * i + j
  · subst h1
    rw [if_pos rfl, if_pos (by omega), show (8 * i + j) / 8 = i by omega, show (8 * i + j) % 8 = j by omega]
  · rw [if_neg h1]
    by_cases h2 : ¬ k / 8 = rk ∧ ((k / 8 < i ∧ k % 8 ≤ w) ∨ (k / 8 = i ∧ k % 8 < j))
    · rw [if_pos h2, if_pos (by omega)]
    · rw [if_neg h2, if_neg (by omega)]
theorem md_elimT_n {w rk c i : Nat} {b : Int64} {r : Nat → Int64} (h : i = rk ∨ True) : md_elimT w rk c i (w + 1) b r = md_elimT w rk c (i + 1) 0 b r := by
  funext k
  unfold md_elimT
  by_cases h2 : ¬ k / 8 = rk ∧ ((k / 8 < i ∧ k % 8 ≤ w) ∨ (k / 8 = i ∧ k % 8 < w + 1))
  · rw [if_pos h2, if_pos (by omega)]
  · rw [if_neg h2, if_neg (by omega)]
theorem md_elimT_k {w rk c : Nat} {b : Int64} {r : Nat → Int64} : md_elimT w rk c rk 0 b r = md_elimT w rk c (rk + 1) 0 b r := by
  funext k
  unfold md_elimT
  by_cases h2 : ¬ k / 8 = rk ∧ ((k / 8 < rk ∧ k % 8 ≤ w) ∨ (k / 8 = rk ∧ k % 8 < 0))
  · rw [if_pos h2, if_pos (by omega)]
  · rw [if_neg h2, if_neg (by omega)]
theorem md_elimT_k2 {w rk c i : Nat} {b : Int64} {r : Nat → Int64} (h : i = rk) : md_elimT w rk c i 0 b r = md_elimT w rk c (i + 1) 0 b r := by subst h; exact md_elimT_k
theorem md_elimT_0 {w rk c : Nat} {b : Int64} {r : Nat → Int64} : md_elimT w rk c 0 0 b r = r := by funext k; unfold md_elimT; rw [if_neg (by omega)]
theorem md_elimT_e {w rk c : Nat} {b : Int64} {r : Nat → Int64} : md_elimT w rk c w 0 b r = md_elim w rk c b r := by
  funext k
  unfold md_elimT md_elim
  by_cases h2 : k / 8 < w ∧ ¬ k / 8 = rk ∧ k % 8 ≤ w
  · rw [if_pos h2, if_pos (by omega)]
  · rw [if_neg h2, if_neg (by omega)]
theorem md_elimT_c {w rk c i j : Nat} {b : Int64} {r : Nat → Int64} (hc : c ≤ w) (hc8 : c < 8) : md_elimT w rk c i 0 b r (8 * i + c) = r (8 * i + c) := by
  unfold md_elimT; rw [if_neg (by omega)]
theorem md_elimT_k0 {w rk c i j x : Nat} {b : Int64} {r : Nat → Int64} (hx : x < 8) : md_elimT w rk c i j b r (8 * rk + x) = r (8 * rk + x) := by
  unfold md_elimT; rw [if_neg (by omega)]
set_option maxHeartbeats 4000000 in
set_option maxRecDepth 100000 in
theorem c_X7_solves (g : sr_G) (D : sr_St) (w : Nat) (hw : D.1 63 18 = nI w) (hw7 : w ≤ 7) : Con g M_X7_solves [.ref 63] D (fun a D' => a = some (.int (sr_b (md_ok w (md_fin w (D.2 70) (D.1 72) (D.2 71)).1 (w - (md_fin w (D.2 70) (D.1 72) (D.2 71)).2.1) (md_fin w (D.2 70) (D.1 72) (D.2 71)).2.1))) ∧ (0 ≤ (md_fin w (D.2 70) (D.1 72) (D.2 71)).2.2.1 → D' = md_D D (md_fin w (D.2 70) (D.1 72) (D.2 71)).1 (md_fin w (D.2 70) (D.1 72) (D.2 71)).2.1 (md_fin w (D.2 70) (D.1 72) (D.2 71)).2.2.1 (md_fin w (D.2 70) (D.1 72) (D.2 71)).2.2.2 (md_so w (D.2 70) (D.1 72) (D.2 71)))) := by
  refine Con.of pn_X7_solves (Nat.le_of_ble_eq_true rfl) ?_
  show WP g M_X7_solves 0 [(0, .ref 63)] [] D _
  have hok := md_cols_ok (s := (D.2 70, 0, 1, D.1 72)) hw7 rfl (show ¬ (1 : Int64) = 0 by decide)
  generalize hfin : md_fin w (D.2 70) (D.1 72) (D.2 71) = F
  have hFe : F = md_cols w w (D.2 70, 0, 1, D.1 72) := hfin.symm
  have hFo := hok w (Nat.le_refl _)
  rw [← hFe] at hFo
  have h314 : ∀ (b : Int64) (so : Nat → Int64), (0 ≤ F.2.2.1 → b = F.2.2.1 ∧ so = md_so w (D.2 70) (D.1 72) (D.2 71)) → ∀ k i, i + k = w → md_ok w F.1 k i = md_ok w F.1 (w - F.2.1) F.2.1 → WP g M_X7_solves 314 [(0, .ref 63), (1, .int (nI i))] [] (md_D D F.1 F.2.1 b F.2.2.2 so) (fun a D' => a = some (.int (sr_b (md_ok w F.1 (w - F.2.1) F.2.1))) ∧ (0 ≤ F.2.2.1 → D' = md_D D F.1 F.2.1 F.2.2.1 F.2.2.2 (md_so w (D.2 70) (D.1 72) (D.2 71)))) := by
    intro b so hbs k
    induction k with
    | zero =>
      intro i hi hm
      refine wp_iload_n dX7_solves_314 rfl rfl ?_
      refine wp_aload_n dX7_solves_315 rfl rfl ?_
      refine wp_getI_n (n := w) dX7_solves_316 fl_X7_146 (by decide) rfl rfl ((md_D_18 hw)) ?_
      refine wp_icmp_ge_n (tgt := 344) dX7_solves_319 (by decide) (by first | omega | (split <;> omega)) (by first | omega | (split <;> omega)) (fun c1 => ?_) (fun c1 => ?_)
      · refine wp_iconst (v := nI 1) dX7_solves_344 rfl ?_
        refine wp_zret dX7_solves_345 rfl (Or.inr rfl) ⟨?_, fun h => by obtain ⟨e1, e2⟩ := hbs h; subst e1; subst e2; rfl⟩
        rw [← hm]; rfl
      · exact absurd c1 (by omega)
    | succ k ih =>
      intro i hi hm
      rw [show md_ok w F.1 (k + 1) i = (decide (F.1 (8 * i + w) = 0) && md_ok w F.1 k (i + 1)) from rfl] at hm
      refine wp_iload_n dX7_solves_314 rfl rfl ?_
      refine wp_aload_n dX7_solves_315 rfl rfl ?_
      refine wp_getI_n (n := w) dX7_solves_316 fl_X7_146 (by decide) rfl rfl ((md_D_18 hw)) ?_
      refine wp_icmp_ge_n (tgt := 344) dX7_solves_319 (by decide) (by first | omega | (split <;> omega)) (by first | omega | (split <;> omega)) (fun c2 => ?_) (fun c2 => ?_)
      · exact absurd c2 (by omega)
      · refine wp_aload_n dX7_solves_322 rfl rfl ?_
        refine wp_iload_n dX7_solves_323 rfl rfl ?_
        refine wp_aload_n dX7_solves_324 rfl rfl ?_
        refine wp_getI_n (n := w) dX7_solves_325 fl_X7_146 (by decide) rfl rfl ((md_D_18 hw)) ?_
        refine wp_callV (M2 := M_X7_rowAt) (n := 2) (As := [.int (nI i), .int (nI w)]) (st := []) dX7_solves_328 (c_X7_rowAt g (md_D D F.1 F.2.1 b F.2.2.2 so) i w (by omega) (by omega)) ca_X7_163 ⟨nm_X7_rowAt, by decide, by decide⟩ rfl (by decide) rfl rfl rfl (Nat.le_of_ble_eq_true rfl) (fun r3 E4 q5 => ?_)
        rw [md_D_70] at q5
        obtain ⟨rfl, rfl⟩ := q5
        show WP g _ _ _ (.long (F.1 (8 * i + w)) :: _) _ _
        refine wp_lconst (v := 0) dX7_solves_331 rfl ?_
        refine wp_lcmp_eq (tgt := 338) dX7_solves_332 dX7_solves_333 (by decide) (fun c6 => ?_) (fun c6 => ?_)
        · have hz := c6
          refine wp_iinc_n (b := 1) (lv' := [(0, .ref 63), (1, .int (nI (i + 1)))]) dX7_solves_338 rfl rfl (by decide) rfl ?_
          refine wp_goto (tgt := 314) dX7_solves_341 (by decide) ?_
          exact ih (i + 1) (by omega) (by rw [← hm, hz]; simp)
        · have hz := c6
          refine wp_iconst (v := nI 0) dX7_solves_336 rfl ?_
          refine wp_zret dX7_solves_337 rfl (Or.inl rfl) ⟨?_, fun h => by obtain ⟨e1, e2⟩ := hbs h; subst e1; subst e2; rfl⟩
          rw [← hm, decide_eq_false hz]; rfl
  have h264 : WP g M_X7_solves 264 [(0, .ref 63)] [] (md_D D F.1 F.2.1 F.2.2.1 F.2.2.2 (md_so w (D.2 70) (D.1 72) (D.2 71))) (fun a D' => a = some (.int (sr_b (md_ok w F.1 (w - F.2.1) F.2.1))) ∧ (0 ≤ F.2.2.1 → D' = md_D D F.1 F.2.1 F.2.2.1 F.2.2.2 (md_so w (D.2 70) (D.1 72) (D.2 71)))) := by
    refine wp_aload_n dX7_solves_264 rfl rfl ?_
    refine wp_getJ dX7_solves_265 fl_X7_159 (by decide) rfl rfl ?_
    refine wp_lconst (v := 0) dX7_solves_268 rfl ?_
    refine wp_lcmp_ge (tgt := 309) dX7_solves_269 dX7_solves_270 (by decide) (fun c7 => ?_) (fun c7 => ?_)
    · refine wp_aload_n dX7_solves_309 rfl rfl ?_
      refine wp_getI_n (n := F.2.1) dX7_solves_310 fl_X7_156 (by decide) rfl rfl (md_D_16) ?_
      refine wp_istore_n (lv' := [(0, .ref 63), (1, .int (nI (F.2.1)))]) dX7_solves_313 rfl (by decide) rfl ?_
      exact h314 _ _ (fun _ => ⟨rfl, rfl⟩) (w - F.2.1) F.2.1 (by omega) rfl
    · have hneg := c7
      refine wp_aload_n dX7_solves_273 rfl rfl ?_
      refine wp_aload_n dX7_solves_274 rfl rfl ?_
      refine wp_getJ dX7_solves_275 fl_X7_159 (by decide) rfl rfl ?_
      refine wp_lneg dX7_solves_278 ?_
      refine wp_putJ dX7_solves_279 fl_X7_159 (by decide) rfl rfl ?_
      rw [md_D_s17]
      refine wp_iconst (v := nI 0) dX7_solves_282 rfl ?_
      refine wp_istore_n (lv' := [(0, .ref 63), (1, .int (nI 0))]) dX7_solves_283 rfl (by decide) rfl ?_
      have hN : ∀ i, i ≤ 7 → ∀ so : Nat → Int64, WP g M_X7_solves 284 [(0, .ref 63), (1, .int (nI i))] [] (md_D D F.1 F.2.1 (-F.2.2.1) F.2.2.2 so) (fun a D' => a = some (.int (sr_b (md_ok w F.1 (w - F.2.1) F.2.1))) ∧ (0 ≤ F.2.2.1 → D' = md_D D F.1 F.2.1 F.2.2.1 F.2.2.2 (md_so w (D.2 70) (D.1 72) (D.2 71)))) := by
        refine sr_up (fun i hi ih so => ?_)
        refine wp_iload_n dX7_solves_284 rfl rfl ?_
        refine wp_bipush (v := nI 7) dX7_solves_285 rfl ?_
        refine wp_icmp_ge_n (tgt := 309) dX7_solves_287 (by decide) (by first | omega | (split <;> omega)) (by first | omega | (split <;> omega)) (fun c8 => ?_) (fun c8 => ?_)
        · refine wp_aload_n dX7_solves_309 rfl rfl ?_
          refine wp_getI_n (n := F.2.1) dX7_solves_310 fl_X7_156 (by decide) rfl rfl (md_D_16) ?_
          refine wp_istore_n (lv' := [(0, .ref 63), (1, .int (nI (F.2.1)))]) dX7_solves_313 rfl (by decide) rfl ?_
          exact h314 _ _ (fun h => absurd h hneg) (w - F.2.1) F.2.1 (by omega) rfl
        · refine wp_aload_n dX7_solves_290 rfl rfl ?_
          refine wp_getR (r := 71) dX7_solves_291 fl_X7_37 (by decide) rfl rfl rfl ?_
          refine wp_iload_n dX7_solves_294 rfl rfl ?_
          refine wp_aload_n dX7_solves_295 rfl rfl ?_
          refine wp_getR (r := 71) dX7_solves_296 fl_X7_37 (by decide) rfl rfl rfl ?_
          refine wp_iload_n dX7_solves_299 rfl rfl ?_
          refine wp_lald dX7_solves_300 (by decide) rfl (show _ < 7 by omega) (by first | omega | (split <;> omega)) ?_
          refine wp_lneg dX7_solves_301 ?_
          refine wp_last dX7_solves_302 (by decide) rfl (show _ < 7 by omega) (by first | omega | (split <;> omega)) ?_
          rw [md_D_s71]
          refine wp_iinc_n (b := 1) (lv' := [(0, .ref 63), (1, .int (nI (i + 1)))]) dX7_solves_303 rfl rfl (by decide) rfl ?_
          refine wp_goto (tgt := 284) dX7_solves_306 (by decide) ?_
          exact ih (by omega) _
      exact hN 0 (by decide) _
  have h230 : ∀ q, q ≤ F.2.1 → WP g M_X7_solves 230 [(0, .ref 63), (1, .int (nI q))] [] (md_D D F.1 F.2.1 F.2.2.1 F.2.2.2 (md_solT w F.1 F.2.2.2 (D.2 71) q)) (fun a D' => a = some (.int (sr_b (md_ok w F.1 (w - F.2.1) F.2.1))) ∧ (0 ≤ F.2.2.1 → D' = md_D D F.1 F.2.1 F.2.2.1 F.2.2.2 (md_so w (D.2 70) (D.1 72) (D.2 71)))) := by
    refine sr_up (fun q hq ih => ?_)
    refine wp_iload_n dX7_solves_230 rfl rfl ?_
    refine wp_aload_n dX7_solves_231 rfl rfl ?_
    refine wp_getI_n (n := F.2.1) dX7_solves_232 fl_X7_156 (by decide) rfl rfl (md_D_16) ?_
    refine wp_icmp_ge_n (tgt := 264) dX7_solves_235 (by decide) (by first | omega | (split <;> omega)) (by first | omega | (split <;> omega)) (fun c9 => ?_) (fun c9 => ?_)
    · have hqr : q = F.2.1 := by omega
      subst hqr
      have hso : md_so w (D.2 70) (D.1 72) (D.2 71) = md_solT w F.1 F.2.2.2 (D.2 71) F.2.1 := by unfold md_so; rw [hfin]
      rw [← hso]
      exact wp_pick [0] rfl h264
    · refine wp_aload_n dX7_solves_238 rfl rfl ?_
      refine wp_getR (r := 71) dX7_solves_239 fl_X7_37 (by decide) rfl rfl rfl ?_
      obtain ⟨x, hx, ex⟩ := hFo.2.2 q (by omega)
      refine wp_aload_n dX7_solves_242 rfl rfl ?_
      refine wp_getR (r := 72) dX7_solves_243 fl_X7_40 (by decide) rfl rfl rfl ?_
      refine wp_iload_n dX7_solves_246 rfl rfl ?_
      refine wp_iald dX7_solves_247 (by decide) rfl (show _ < 7 by omega) (by first | omega | (split <;> omega)) ?_
      rw [show (md_D D F.1 F.2.1 F.2.2.1 F.2.2.2 (md_solT w F.1 F.2.2.2 (D.2 71) q)).1 72 q = nI x from ex]
      refine wp_aload_n dX7_solves_248 rfl rfl ?_
      refine wp_iload_n dX7_solves_249 rfl rfl ?_
      refine wp_aload_n dX7_solves_250 rfl rfl ?_
      refine wp_getI_n (n := w) dX7_solves_251 fl_X7_146 (by decide) rfl rfl ((md_D_18 hw)) ?_
      refine wp_callV (M2 := M_X7_rowAt) (n := 2) (As := [.int (nI q), .int (nI w)]) (st := [.int (nI x), .ref 71]) dX7_solves_254 (c_X7_rowAt g (md_D D F.1 F.2.1 F.2.2.1 F.2.2.2 (md_solT w F.1 F.2.2.2 (D.2 71) q)) q w (by omega) (by omega)) ca_X7_163 ⟨nm_X7_rowAt, by decide, by decide⟩ rfl (by decide) rfl rfl rfl (Nat.le_of_ble_eq_true rfl) (fun r10 E11 q12 => ?_)
      rw [md_D_70] at q12
      obtain ⟨rfl, rfl⟩ := q12
      show WP g _ _ _ (.long (F.1 (8 * q + w)) :: _) _ _
      refine wp_last dX7_solves_257 (by decide) rfl (show _ < 7 by omega) (by first | omega | (split <;> omega)) ?_
      rw [md_D_s71]
      refine wp_iinc_n (b := 1) (lv' := [(0, .ref 63), (1, .int (nI (q + 1)))]) dX7_solves_258 rfl rfl (by decide) rfl ?_
      refine wp_goto (tgt := 230) dX7_solves_261 (by decide) ?_
      have h := ih (by omega)
      unfold md_solT at h
      rw [ex, nI_clamp (by omega)] at h
      exact h
  have h209 : ∀ i, i ≤ 7 → WP g M_X7_solves 209 [(0, .ref 63), (1, .int (nI i))] [] (md_D D F.1 F.2.1 F.2.2.1 F.2.2.2 (sr_fill i (fun _ => 0) (D.2 71))) (fun a D' => a = some (.int (sr_b (md_ok w F.1 (w - F.2.1) F.2.1))) ∧ (0 ≤ F.2.2.1 → D' = md_D D F.1 F.2.1 F.2.2.1 F.2.2.2 (md_so w (D.2 70) (D.1 72) (D.2 71)))) := by
    refine sr_up (fun i hi ih => ?_)
    refine wp_iload_n dX7_solves_209 rfl rfl ?_
    refine wp_bipush (v := nI 7) dX7_solves_210 rfl ?_
    refine wp_icmp_ge_n (tgt := 228) dX7_solves_212 (by decide) (by first | omega | (split <;> omega)) (by first | omega | (split <;> omega)) (fun c13 => ?_) (fun c13 => ?_)
    · refine wp_iconst (v := nI 0) dX7_solves_228 rfl ?_
      refine wp_istore_n (lv' := [(0, .ref 63), (1, .int (nI 0))]) dX7_solves_229 rfl (by decide) rfl ?_
      have hi7 : i = 7 := by omega
      subst hi7
      exact h230 0 (by omega)
    · refine wp_aload_n dX7_solves_215 rfl rfl ?_
      refine wp_getR (r := 71) dX7_solves_216 fl_X7_37 (by decide) rfl rfl rfl ?_
      refine wp_iload_n dX7_solves_219 rfl rfl ?_
      refine wp_lconst (v := 0) dX7_solves_220 rfl ?_
      refine wp_last dX7_solves_221 (by decide) rfl (show _ < 7 by omega) (by first | omega | (split <;> omega)) ?_
      rw [md_D_s71]
      refine wp_iinc_n (b := 1) (lv' := [(0, .ref 63), (1, .int (nI (i + 1)))]) dX7_solves_222 rfl rfl (by decide) rfl ?_
      refine wp_goto (tgt := 209) dX7_solves_225 (by decide) ?_
      have h := ih (by omega)
      rw [← sr_fill_J] at h
      exact h
  have h12 : ∀ c, c ≤ w → WP g M_X7_solves 12 [(0, .ref 63), (1, .int (nI c))] [] (md_D D (md_cols w c (D.2 70, 0, 1, D.1 72)).1 (md_cols w c (D.2 70, 0, 1, D.1 72)).2.1 (md_cols w c (D.2 70, 0, 1, D.1 72)).2.2.1 (md_cols w c (D.2 70, 0, 1, D.1 72)).2.2.2 (D.2 71)) (fun a D' => a = some (.int (sr_b (md_ok w F.1 (w - F.2.1) F.2.1))) ∧ (0 ≤ F.2.2.1 → D' = md_D D F.1 F.2.1 F.2.2.1 F.2.2.2 (md_so w (D.2 70) (D.1 72) (D.2 71)))) := by
    refine sr_up (fun c hc ih => ?_)
    have hS := hok c hc
    have hst : md_cols w (c + 1) (D.2 70, 0, 1, D.1 72) = md_step w c (md_cols w c (D.2 70, 0, 1, D.1 72)) := rfl
    rw [hst] at ih
    by_cases hcw : c = w
    · subst hcw
      rw [← hFe]
      refine wp_iload_n dX7_solves_12 rfl rfl ?_
      refine wp_aload_n dX7_solves_13 rfl rfl ?_
      refine wp_getI_n (n := c) dX7_solves_14 fl_X7_146 (by decide) rfl rfl ((md_D_18 hw)) ?_
      refine wp_icmp_ge_n (tgt := 207) dX7_solves_17 (by decide) (by first | omega | (split <;> omega)) (by first | omega | (split <;> omega)) (fun c14 => ?_) (fun c14 => ?_)
      · refine wp_iconst (v := nI 0) dX7_solves_207 rfl ?_
        refine wp_istore_n (lv' := [(0, .ref 63), (1, .int (nI 0))]) dX7_solves_208 rfl (by decide) rfl ?_
        have h := h209 0 (by decide)
        rw [sr_fill_0] at h
        exact h
      · exact absurd c14 (by omega)
    · have hcl : c < w := by omega
      have ih := ih hcl
      generalize hs : (md_cols w c (D.2 70, 0, 1, D.1 72)) = s at *
      obtain ⟨r, rk, b, le⟩ := s
      simp only at hS ih ⊢
      obtain ⟨hrk, hb0, hle⟩ := hS
      have hfl := md_find_le (w := w) (c := c) (r := r) _ rk rfl (by omega)
      have h50 : WP g M_X7_solves 50 [(0, .ref 63), (1, .int (nI c)), (2, .int (nI (md_find w c r rk)))] [] (md_D D r rk b le (D.2 71)) (fun a D' => a = some (.int (sr_b (md_ok w F.1 (w - F.2.1) F.2.1))) ∧ (0 ≤ F.2.2.1 → D' = md_D D F.1 F.2.1 F.2.2.1 F.2.2.2 (md_so w (D.2 70) (D.1 72) (D.2 71)))) := by
        refine wp_iload_n dX7_solves_50 rfl rfl ?_
        refine wp_aload_n dX7_solves_51 rfl rfl ?_
        refine wp_getI_n (n := w) dX7_solves_52 fl_X7_146 (by decide) rfl rfl ((md_D_18 hw)) ?_
        refine wp_icmp_ne_n (tgt := 61) dX7_solves_55 (by decide) (by first | omega | (split <;> omega)) (by first | omega | (split <;> omega)) (fun c15 => ?_) (fun c15 => ?_)
        · refine wp_aload_n dX7_solves_61 rfl rfl ?_
          refine wp_aload_n dX7_solves_62 rfl rfl ?_
          refine wp_getI_n (n := rk) dX7_solves_63 fl_X7_156 (by decide) rfl rfl (md_D_16) ?_
          refine wp_iload_n dX7_solves_66 rfl rfl ?_
          refine wp_callV (M2 := M_X7_swaps) (n := 2) (As := [.int (nI rk), .int (nI (md_find w c r rk))]) (st := []) dX7_solves_67 (c_X7_swaps g (md_D D r rk b le (D.2 71)) w (md_D_18 hw) (by omega) rk (md_find w c r rk) (by omega) (by omega)) ca_X7_167 ⟨nm_X7_swaps, by decide, by decide⟩ rfl (by decide) rfl rfl rfl (Nat.le_of_ble_eq_true rfl) (fun r16 E17 q18 => ?_)
          rw [md_D_70, md_D_r70] at q18
          obtain ⟨rfl, rfl⟩ := q18
          show WP g _ _ _ _ (md_D D (md_swap w rk (md_find w c r rk) r) rk b le (D.2 71)) _
          refine wp_aload_n dX7_solves_70 rfl rfl ?_
          refine wp_aload_n dX7_solves_71 rfl rfl ?_
          refine wp_getI_n (n := rk) dX7_solves_72 fl_X7_156 (by decide) rfl rfl (md_D_16) ?_
          refine wp_iload_n dX7_solves_75 rfl rfl ?_
          refine wp_callV (M2 := M_X7_rowAt) (n := 2) (As := [.int (nI rk), .int (nI c)]) (st := []) dX7_solves_76 (c_X7_rowAt g (md_D D (md_swap w rk (md_find w c r rk) r) rk b le (D.2 71)) rk c (by omega) (by omega)) ca_X7_163 ⟨nm_X7_rowAt, by decide, by decide⟩ rfl (by decide) rfl rfl rfl (Nat.le_of_ble_eq_true rfl) (fun r19 E20 q21 => ?_)
          rw [md_D_70] at q21
          obtain ⟨rfl, rfl⟩ := q21
          show WP g _ _ _ (.long ((md_swap w rk (md_find w c r rk) r) (8 * rk + c)) :: _) _ _
          refine wp_topl (fun x22 ex22 => ?_)
          refine wp_lstore_n (lv' := [(0, .ref 63), (1, .int (nI c)), (2, .int (nI (md_find w c r rk))), (3, .long x22)]) dX7_solves_79 rfl (by decide) rfl ?_
          refine wp_iconst (v := nI 0) dX7_solves_80 rfl ?_
          refine wp_istore (lv' := [(0, .ref 63), (1, .int (nI c)), (2, .int (nI (md_find w c r rk))), (3, .long x22), (5, .int (nI 0))]) dX7_solves_81 (by decide) rfl ?_
          have hne : ¬ md_find w c r rk = w := by omega
          unfold md_step at ih
          rw [if_neg hne] at ih
          simp only at ih
          have hpv : md_swap w rk (md_find w c r rk) r = md_swap w rk (md_find w c r rk) r := rfl
          generalize md_swap w rk (md_find w c r rk) r = r2 at *
          subst ex22
          have h83 : ∀ i, i ≤ w → WP g M_X7_solves 83 [(0, .ref 63), (1, .int (nI c)), (2, .int (nI (md_find w c r rk))), (3, .long (r2 (8 * rk + c))), (5, .int (nI i))] [] (md_D D (md_elimT w rk c i 0 b r2) rk b le (D.2 71)) (fun a D' => a = some (.int (sr_b (md_ok w F.1 (w - F.2.1) F.2.1))) ∧ (0 ≤ F.2.2.1 → D' = md_D D F.1 F.2.1 F.2.2.1 F.2.2.2 (md_so w (D.2 70) (D.1 72) (D.2 71)))) := by
            refine sr_up (fun i hi ihi => ?_)
            have h104 : i < w → ¬ i = rk → ∀ j, j ≤ w + 1 → WP g M_X7_solves 104 [(0, .ref 63), (1, .int (nI c)), (2, .int (nI (md_find w c r rk))), (3, .long (r2 (8 * rk + c))), (5, .int (nI i)), (6, .long (r2 (8 * i + c))), (8, .int (nI j))] [] (md_D D (md_elimT w rk c i j b r2) rk b le (D.2 71)) (fun a D' => a = some (.int (sr_b (md_ok w F.1 (w - F.2.1) F.2.1))) ∧ (0 ≤ F.2.2.1 → D' = md_D D F.1 F.2.1 F.2.2.1 F.2.2.2 (md_so w (D.2 70) (D.1 72) (D.2 71)))) := by
              intro hiw hik
              refine sr_up (fun j hj ihj => ?_)
              refine wp_iload dX7_solves_104 rfl ?_
              refine wp_aload_n dX7_solves_106 rfl rfl ?_
              refine wp_getI_n (n := w) dX7_solves_107 fl_X7_146 (by decide) rfl rfl ((md_D_18 hw)) ?_
              refine wp_icmp_gt_n (tgt := 170) dX7_solves_110 (by decide) (by first | omega | (split <;> omega)) (by first | omega | (split <;> omega)) (fun c23 => ?_) (fun c23 => ?_)
              · have hjw : j = w + 1 := by omega
                subst hjw
                rw [md_elimT_n (Or.inr trivial)]
                refine wp_pick [0, 1, 2, 3, 4] rfl ?_
                refine wp_iinc_n (b := 1) (lv' := [(0, .ref 63), (1, .int (nI c)), (2, .int (nI (md_find w c r rk))), (3, .long (r2 (8 * rk + c))), (5, .int (nI (i + 1)))]) dX7_solves_170 rfl rfl (by decide) rfl ?_
                refine wp_goto (tgt := 83) dX7_solves_173 (by decide) ?_
                exact ihi (by omega)
              · refine wp_iload dX7_solves_113 rfl ?_
                refine wp_aload_n dX7_solves_115 rfl rfl ?_
                refine wp_getI_n (n := rk) dX7_solves_116 fl_X7_156 (by decide) rfl rfl (md_D_16) ?_
                refine wp_icmp_eq_n (tgt := 170) dX7_solves_119 (by decide) (by first | omega | (split <;> omega)) (by first | omega | (split <;> omega)) (fun c24 => ?_) (fun c24 => ?_)
                · exact absurd c24 hik
                · refine wp_aload_n dX7_solves_122 rfl rfl ?_
                  refine wp_getR (r := 70) dX7_solves_123 fl_X7_34 (by decide) rfl rfl rfl ?_
                  refine wp_bipush (v := nI 8) dX7_solves_126 rfl ?_
                  refine wp_iload dX7_solves_128 rfl ?_
                  refine wp_imul_n dX7_solves_130 ?_
                  refine wp_iload dX7_solves_131 rfl ?_
                  refine wp_iadd_n dX7_solves_133 ?_
                  refine wp_lload_n dX7_solves_134 rfl rfl ?_
                  refine wp_aload_n dX7_solves_135 rfl rfl ?_
                  refine wp_iload dX7_solves_136 rfl ?_
                  refine wp_iload dX7_solves_138 rfl ?_
                  refine wp_callV (M2 := M_X7_rowAt) (n := 2) (As := [.int (nI i), .int (nI j)]) (st := [.long (r2 (8 * rk + c)), .int (nI ((8 * i) + j)), .ref 70]) dX7_solves_140 (c_X7_rowAt g (md_D D (md_elimT w rk c i j b r2) rk b le (D.2 71)) i j (by omega) (by omega)) ca_X7_163 ⟨nm_X7_rowAt, by decide, by decide⟩ rfl (by decide) rfl rfl rfl (Nat.le_of_ble_eq_true rfl) (fun r25 E26 q27 => ?_)
                  rw [md_D_70] at q27
                  obtain ⟨rfl, rfl⟩ := q27
                  show WP g _ _ _ (.long ((md_elimT w rk c i j b r2) (8 * i + j)) :: _) _ _
                  refine wp_lmul dX7_solves_143 ?_
                  refine wp_lload dX7_solves_144 rfl ?_
                  refine wp_aload_n dX7_solves_146 rfl rfl ?_
                  refine wp_aload_n dX7_solves_147 rfl rfl ?_
                  refine wp_getI_n (n := rk) dX7_solves_148 fl_X7_156 (by decide) rfl rfl (md_D_16) ?_
                  refine wp_iload dX7_solves_151 rfl ?_
                  refine wp_callV (M2 := M_X7_rowAt) (n := 2) (As := [.int (nI rk), .int (nI j)]) (st := [.long (r2 (8 * i + c)), .long ((r2 (8 * rk + c)) * ((md_elimT w rk c i j b r2) (8 * i + j))), .int (nI ((8 * i) + j)), .ref 70]) dX7_solves_153 (c_X7_rowAt g (md_D D (md_elimT w rk c i j b r2) rk b le (D.2 71)) rk j (by omega) (by omega)) ca_X7_163 ⟨nm_X7_rowAt, by decide, by decide⟩ rfl (by decide) rfl rfl rfl (Nat.le_of_ble_eq_true rfl) (fun r28 E29 q30 => ?_)
                  rw [md_D_70] at q30
                  obtain ⟨rfl, rfl⟩ := q30
                  show WP g _ _ _ (.long ((md_elimT w rk c i j b r2) (8 * rk + j)) :: _) _ _
                  refine wp_lmul dX7_solves_156 ?_
                  refine wp_lsub dX7_solves_157 ?_
                  refine wp_aload_n dX7_solves_158 rfl rfl ?_
                  refine wp_getJ dX7_solves_159 fl_X7_159 (by decide) rfl rfl ?_
                  refine wp_ldiv dX7_solves_162 (hb0) ?_
                  refine wp_last dX7_solves_163 (by decide) rfl (show _ < 56 by omega) (by first | omega | (split <;> omega)) ?_
                  rw [md_D_s70]
                  refine wp_iinc_n (b := 1) (lv' := [(0, .ref 63), (1, .int (nI c)), (2, .int (nI (md_find w c r rk))), (3, .long (r2 (8 * rk + c))), (5, .int (nI i)), (6, .long (r2 (8 * i + c))), (8, .int (nI (j + 1)))]) dX7_solves_164 rfl rfl (by decide) rfl ?_
                  refine wp_goto (tgt := 104) dX7_solves_167 (by decide) ?_
                  have h := ihj (by omega)
                  rw [← md_elimT_s (by omega) (by omega) (by omega) hik] at h
                  exact h
            refine wp_iload dX7_solves_83 rfl ?_
            refine wp_aload_n dX7_solves_85 rfl rfl ?_
            refine wp_getI_n (n := w) dX7_solves_86 fl_X7_146 (by decide) rfl rfl ((md_D_18 hw)) ?_
            refine wp_icmp_ge_n (tgt := 176) dX7_solves_89 (by decide) (by first | omega | (split <;> omega)) (by first | omega | (split <;> omega)) (fun c31 => ?_) (fun c31 => ?_)
            · have hiw : i = w := by omega
              subst hiw
              rw [md_elimT_e]
              refine wp_aload_n dX7_solves_176 rfl rfl ?_
              refine wp_lload_n dX7_solves_177 rfl rfl ?_
              refine wp_putJ dX7_solves_178 fl_X7_159 (by decide) rfl rfl ?_
              rw [md_D_s17]
              refine wp_aload_n dX7_solves_181 rfl rfl ?_
              refine wp_getR (r := 72) dX7_solves_182 fl_X7_40 (by decide) rfl rfl rfl ?_
              refine wp_aload_n dX7_solves_185 rfl rfl ?_
              refine wp_getI_n (n := rk) dX7_solves_186 fl_X7_156 (by decide) rfl rfl (md_D_16) ?_
              refine wp_iload_n dX7_solves_189 rfl rfl ?_
              refine wp_iast dX7_solves_190 (by decide) rfl (show _ < 7 by omega) (by first | omega | (split <;> omega)) ?_
              rw [md_D_s72]
              refine wp_aload_n dX7_solves_191 rfl rfl ?_
              refine wp_dup dX7_solves_192 rfl ?_
              refine wp_getI_n (n := rk) dX7_solves_193 fl_X7_156 (by decide) rfl rfl (md_D_16) ?_
              refine wp_iconst (v := nI 1) dX7_solves_196 rfl ?_
              refine wp_iadd_n dX7_solves_197 ?_
              refine wp_putI dX7_solves_198 fl_X7_156 (by decide) rfl rfl ?_
              rw [md_D_s16]
              refine wp_iinc_n (b := 1) (lv' := [(0, .ref 63), (1, .int (nI (c + 1))), (2, .int (nI (md_find i c r rk))), (3, .long (r2 (8 * rk + c))), (5, .int (nI i))]) dX7_solves_201 rfl rfl (by decide) rfl ?_
              refine wp_goto (tgt := 12) dX7_solves_204 (by decide) ?_
              exact wp_pick [0, 1] rfl ih
            · refine wp_aload_n dX7_solves_92 rfl rfl ?_
              refine wp_iload dX7_solves_93 rfl ?_
              refine wp_iload_n dX7_solves_95 rfl rfl ?_
              refine wp_callV (M2 := M_X7_rowAt) (n := 2) (As := [.int (nI i), .int (nI c)]) (st := []) dX7_solves_96 (c_X7_rowAt g (md_D D (md_elimT w rk c i 0 b r2) rk b le (D.2 71)) i c (by omega) (by omega)) ca_X7_163 ⟨nm_X7_rowAt, by decide, by decide⟩ rfl (by decide) rfl rfl rfl (Nat.le_of_ble_eq_true rfl) (fun r32 E33 q34 => ?_)
              rw [md_D_70] at q34
              obtain ⟨rfl, rfl⟩ := q34
              show WP g _ _ _ (.long ((md_elimT w rk c i 0 b r2) (8 * i + c)) :: _) _ _
              refine wp_topl (fun x35 ex35 => ?_)
              refine wp_lstore (lv' := [(0, .ref 63), (1, .int (nI c)), (2, .int (nI (md_find w c r rk))), (3, .long (r2 (8 * rk + c))), (5, .int (nI i)), (6, .long x35)]) dX7_solves_99 (by decide) rfl ?_
              refine wp_iconst (v := nI 0) dX7_solves_101 rfl ?_
              refine wp_istore (lv' := [(0, .ref 63), (1, .int (nI c)), (2, .int (nI (md_find w c r rk))), (3, .long (r2 (8 * rk + c))), (5, .int (nI i)), (6, .long x35), (8, .int (nI 0))]) dX7_solves_102 (by decide) rfl ?_
              rw [md_elimT_c (j := 0) (by omega) (by omega)] at ex35
              subst ex35
              by_cases hik : i = rk
              · refine wp_iload dX7_solves_104 rfl ?_
                refine wp_aload_n dX7_solves_106 rfl rfl ?_
                refine wp_getI_n (n := w) dX7_solves_107 fl_X7_146 (by decide) rfl rfl ((md_D_18 hw)) ?_
                refine wp_icmp_gt_n (tgt := 170) dX7_solves_110 (by decide) (by first | omega | (split <;> omega)) (by first | omega | (split <;> omega)) (fun c36 => ?_) (fun c36 => ?_)
                · rw [md_elimT_k2 hik]
                  refine wp_pick [0, 1, 2, 3, 4] rfl ?_
                  refine wp_iinc_n (b := 1) (lv' := [(0, .ref 63), (1, .int (nI c)), (2, .int (nI (md_find w c r rk))), (3, .long (r2 (8 * rk + c))), (5, .int (nI (i + 1)))]) dX7_solves_170 rfl rfl (by decide) rfl ?_
                  refine wp_goto (tgt := 83) dX7_solves_173 (by decide) ?_
                  exact ihi (by omega)
                · refine wp_iload dX7_solves_113 rfl ?_
                  refine wp_aload_n dX7_solves_115 rfl rfl ?_
                  refine wp_getI_n (n := rk) dX7_solves_116 fl_X7_156 (by decide) rfl rfl (md_D_16) ?_
                  refine wp_icmp_eq_n (tgt := 170) dX7_solves_119 (by decide) (by first | omega | (split <;> omega)) (by first | omega | (split <;> omega)) (fun c37 => ?_) (fun c37 => ?_)
                  · rw [md_elimT_k2 hik]
                    refine wp_pick [0, 1, 2, 3, 4] rfl ?_
                    refine wp_iinc_n (b := 1) (lv' := [(0, .ref 63), (1, .int (nI c)), (2, .int (nI (md_find w c r rk))), (3, .long (r2 (8 * rk + c))), (5, .int (nI (i + 1)))]) dX7_solves_170 rfl rfl (by decide) rfl ?_
                    refine wp_goto (tgt := 83) dX7_solves_173 (by decide) ?_
                    exact ihi (by omega)
                  · exact absurd hik c37
              · exact h104 (by omega) hik 0 (by omega)
          have h := h83 0 (by omega)
          rw [md_elimT_0] at h
          exact h
        · refine wp_goto (tgt := 201) dX7_solves_58 (by decide) ?_
          have hp : md_find w c r rk = w := by assumption
          unfold md_step at ih
          rw [if_pos hp] at ih
          refine wp_iinc_n (b := 1) (lv' := [(0, .ref 63), (1, .int (nI (c + 1))), (2, .int (nI (md_find w c r rk)))]) dX7_solves_201 rfl rfl (by decide) rfl ?_
          refine wp_goto (tgt := 12) dX7_solves_204 (by decide) ?_
          exact wp_pick [0, 1] rfl ih
      have h25 : ∀ k p, p + k = w → md_find w c r p = md_find w c r rk → WP g M_X7_solves 25 [(0, .ref 63), (1, .int (nI c)), (2, .int (nI p))] [] (md_D D r rk b le (D.2 71)) (fun a D' => a = some (.int (sr_b (md_ok w F.1 (w - F.2.1) F.2.1))) ∧ (0 ≤ F.2.2.1 → D' = md_D D F.1 F.2.1 F.2.2.1 F.2.2.2 (md_so w (D.2 70) (D.1 72) (D.2 71)))) := by
        intro k
        induction k with
        | zero =>
          intro p hp he
          have hpe : md_find w c r p = p := md_find_f (by omega)
          rw [hpe] at he
          refine wp_iload_n dX7_solves_25 rfl rfl ?_
          refine wp_aload_n dX7_solves_26 rfl rfl ?_
          refine wp_getI_n (n := w) dX7_solves_27 fl_X7_146 (by decide) rfl rfl ((md_D_18 hw)) ?_
          refine wp_icmp_ge_n (tgt := 50) dX7_solves_30 (by decide) (by first | omega | (split <;> omega)) (by first | omega | (split <;> omega)) (fun c38 => ?_) (fun c38 => ?_)
          · rw [he]
            exact h50
          · exact absurd c38 (by omega)
        | succ k ihk =>
          intro p hp he
          refine wp_iload_n dX7_solves_25 rfl rfl ?_
          refine wp_aload_n dX7_solves_26 rfl rfl ?_
          refine wp_getI_n (n := w) dX7_solves_27 fl_X7_146 (by decide) rfl rfl ((md_D_18 hw)) ?_
          refine wp_icmp_ge_n (tgt := 50) dX7_solves_30 (by decide) (by first | omega | (split <;> omega)) (by first | omega | (split <;> omega)) (fun c39 => ?_) (fun c39 => ?_)
          · exact absurd c39 (by omega)
          · refine wp_aload_n dX7_solves_33 rfl rfl ?_
            refine wp_iload_n dX7_solves_34 rfl rfl ?_
            refine wp_iload_n dX7_solves_35 rfl rfl ?_
            refine wp_callV (M2 := M_X7_rowAt) (n := 2) (As := [.int (nI p), .int (nI c)]) (st := []) dX7_solves_36 (c_X7_rowAt g (md_D D r rk b le (D.2 71)) p c (by omega) (by omega)) ca_X7_163 ⟨nm_X7_rowAt, by decide, by decide⟩ rfl (by decide) rfl rfl rfl (Nat.le_of_ble_eq_true rfl) (fun r40 E41 q42 => ?_)
            rw [md_D_70] at q42
            obtain ⟨rfl, rfl⟩ := q42
            show WP g _ _ _ (.long (r (8 * p + c)) :: _) _ _
            refine wp_lconst (v := 0) dX7_solves_39 rfl ?_
            refine wp_lcmp_ne (tgt := 50) dX7_solves_40 dX7_solves_41 (by decide) (fun c43 => ?_) (fun c43 => ?_)
            · have hpe : md_find w c r p = p := md_find_f (fun z => c43 z.2)
              rw [hpe] at he
              rw [he]
              exact h50
            · have hz := c43
              refine wp_iinc_n (b := 1) (lv' := [(0, .ref 63), (1, .int (nI c)), (2, .int (nI (p + 1)))]) dX7_solves_44 rfl rfl (by decide) rfl ?_
              refine wp_goto (tgt := 25) dX7_solves_47 (by decide) ?_
              exact ihk (p + 1) (by omega) (by rw [← he]; exact (md_find_t (by omega) hz).symm)
      refine wp_iload_n dX7_solves_12 rfl rfl ?_
      refine wp_aload_n dX7_solves_13 rfl rfl ?_
      refine wp_getI_n (n := w) dX7_solves_14 fl_X7_146 (by decide) rfl rfl ((md_D_18 hw)) ?_
      refine wp_icmp_ge_n (tgt := 207) dX7_solves_17 (by decide) (by first | omega | (split <;> omega)) (by first | omega | (split <;> omega)) (fun c44 => ?_) (fun c44 => ?_)
      · exact absurd c44 (by omega)
      · refine wp_aload_n dX7_solves_20 rfl rfl ?_
        refine wp_getI_n (n := rk) dX7_solves_21 fl_X7_156 (by decide) rfl rfl (md_D_16) ?_
        refine wp_istore_n (lv' := [(0, .ref 63), (1, .int (nI c)), (2, .int (nI rk))]) dX7_solves_24 rfl (by decide) rfl ?_
        exact h25 (w - rk) rk (by omega) rfl
  refine wp_aload_n dX7_solves_0 rfl rfl ?_
  refine wp_iconst (v := nI 0) dX7_solves_1 rfl ?_
  refine wp_putI dX7_solves_2 fl_X7_156 (by decide) rfl rfl ?_
  refine wp_D (fun D45 eD45 => ?_)
  refine wp_aload_n dX7_solves_5 rfl rfl ?_
  refine wp_lconst (v := 1) dX7_solves_6 rfl ?_
  refine wp_putJ dX7_solves_7 fl_X7_159 (by decide) rfl rfl ?_
  refine wp_D (fun D46 eD46 => ?_)
  refine wp_iconst (v := nI 0) dX7_solves_10 rfl ?_
  refine wp_istore_n (lv' := [(0, .ref 63), (1, .int (nI 0))]) dX7_solves_11 rfl (by decide) rfl ?_
  subst eD45 eD46
  have h := h12 0 (Nat.zero_le _)
  change WP g M_X7_solves 12 [(0, .ref 63), (1, .int (nI 0))] [] (md_D D (D.2 70) 0 1 (D.1 72) (D.2 71)) _ at h
  rw [md_D_in] at h
  exact h
