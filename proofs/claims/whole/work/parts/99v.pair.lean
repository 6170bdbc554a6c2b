/-! ===== both sides, call by call ===== -/
def INV' (D : sr_St) (n r : Nat) : Prop := CI (D.1 64) n r D ∧ 0 ≤ (D.1 64 1).toInt ∧ (∃ t, t ≤ 300 ∧ D.1 7 0 = nI t ∧ D.1 63 4 = nI t) ∧ D.1 8 = D.1 66 ∧ sr_bytes (D.1 66) ∧ D.1 0 10 = D.1 63 5 ∧ D.1 0 11 = D.1 63 6 ∧ TI D ∧ ∃ q, q ≤ 302 ∧ D.1 63 9 = nI q
def INV (D : sr_St) : Prop := ∃ n r, INV' D n r
theorem INV'.fr {D E : sr_St} {n r : Nat} (h : INV' D n r) (k1 : ∀ o, o ≤ 8 ∨ o = 14 ∨ o = 33 ∨ o = 64 ∨ o = 66 → E.1 o = D.1 o) (k2 : ∀ o, 14 ≤ o ∧ o ≤ 32 → E.2 o = D.2 o) (k3 : ∀ k, k = 4 ∨ k = 5 ∨ k = 6 ∨ k = 9 → E.1 63 k = D.1 63 k) : INV' E n r := by
  obtain ⟨⟨h1, ⟨a1, a2, a3, a4⟩, h3, b1, b2, b3, b4⟩, i2, i3, i4, i5, i6, i7, i8, i9⟩ := h
  have e1 := k1 1 (by omega)
  have e64 := k1 64 (by omega)
  have e7 := k1 7 (by omega)
  have e6 := k1 6 (by omega)
  have e8 := k1 8 (by omega)
  have e66 := k1 66 (by omega)
  have e0 := k1 0 (by omega)
  unfold INV' CI lg TI
  rw [e64, e7, e8, e66, e0, e6, e1, k1 2 (by omega), k1 3 (by omega), k1 4 (by omega), k1 5 (by omega), k3 4 (by omega), k3 5 (by omega), k3 6 (by omega), k3 9 (by omega)]
  refine ⟨⟨h1, ⟨a1, a2, a3, a4⟩, mx_cong h3 (fun o x y => k2 o (by omega)), mx_cong b1 (fun o x y => k2 o (by omega)), ?_, ?_, fun z hz => ?_⟩, i2, i3, i4, i5, i6, i7, i8, i9⟩
  · rw [k2 14 (by omega)]; exact b2
  · rw [k1 14 (by omega)]; exact b3
  · rw [k1 33 (by omega)]; exact b4 z hz
theorem INV'.q {D E : sr_St} {n r : Nat} (h : INV' D n r) (k : cl_pr D E) : INV' E n r ∧ E.1 64 = D.1 64 ∧ E.1 63 = D.1 63 ∧ E.1 7 = D.1 7 := ⟨h.fr (fun o ho => k.1 o (by omega) (by omega)) (fun o ho => k.2 o (by omega)) (fun x _ => by rw [k.1 63 (by omega) (by omega)]), k.1 64 (by omega) (by omega), k.1 63 (by omega) (by omega), k.1 7 (by omega) (by omega)⟩
theorem INV'.p {D E : sr_St} {n r : Nat} (h : INV' D n r) (k : sr_per D E) : INV' E n r := h.fr (fun o ho => k.1 o (by omega) (by omega) (by omega) (by omega)) (fun o ho => k.2.2 o (by omega) (by omega) (by omega) (by omega) (by omega)) (fun x hx => k.2.1 x (by omega) (by omega) (by omega) (by omega) (by omega) (by omega))
def PairI (g : sr_G) (M1 M2 : sr_Md) (av : List Value) (D : sr_St) : Prop := ∃ Q1, Con g M1 (.ref 0 :: av) D Q1 ∧ ∀ r1 D1, Q1 r1 D1 → ∃ v : Int32, r1 = some (.int v) ∧ ∃ Q2, Con g M2 (.ref 63 :: av) D1 Q2 ∧ ∀ r2 D2, Q2 r2 D2 → r2 = some (.int v) ∧ INV D2
def PairJ (g : sr_G) (M1 M2 : sr_Md) (av : List Value) (D : sr_St) : Prop := ∃ Q1, Con g M1 (.ref 0 :: av) D Q1 ∧ ∀ r1 D1, Q1 r1 D1 → ∃ v : Int64, r1 = some (.long v) ∧ ∃ Q2, Con g M2 (.ref 63 :: av) D1 Q2 ∧ ∀ r2 D2, Q2 r2 D2 → r2 = some (.long v) ∧ INV D2
section PQ
variable {g : sr_G} {D : sr_St} {n r : Nat}
theorem pair_qJ {M1 M2 : sr_Md} {av : List Value} {v : Int64} {w : sr_St → Int64} (h : INV' D n r) (c1 : Con g M1 (.ref 0 :: av) D (fun qa D' => qa = some (.long v) ∧ cl_pr D D')) (c2 : ∀ E, INV' E n r → Con g M2 (.ref 63 :: av) E (fun qa D' => qa = some (.long (w E)) ∧ sr_per E D')) (e : ∀ E, INV' E n r → E.1 64 = D.1 64 → E.1 63 = D.1 63 → E.1 7 = D.1 7 → w E = v) : PairJ g M1 M2 av D := by
  refine ⟨_, c1, fun r1 D1 q1 => ⟨v, q1.1, ?_⟩⟩
  obtain ⟨i, e1, e2, e3⟩ := h.q q1.2
  exact ⟨_, c2 D1 i, fun r2 D2 q2 => ⟨by rw [q2.1, e D1 i e1 e2 e3], n, r, i.p q2.2⟩⟩
theorem pair_qI {M1 M2 : sr_Md} {av : List Value} {v : Int32} {w : sr_St → Int32} (h : INV' D n r) (c1 : Con g M1 (.ref 0 :: av) D (fun qa D' => qa = some (.int v) ∧ cl_pr D D')) (c2 : ∀ E, INV' E n r → Con g M2 (.ref 63 :: av) E (fun qa D' => qa = some (.int (w E)) ∧ sr_per E D')) (e : ∀ E, INV' E n r → E.1 64 = D.1 64 → E.1 63 = D.1 63 → E.1 7 = D.1 7 → w E = v) : PairI g M1 M2 av D := by
  refine ⟨_, c1, fun r1 D1 q1 => ⟨v, q1.1, ?_⟩⟩
  obtain ⟨i, e1, e2, e3⟩ := h.q q1.2
  exact ⟨_, c2 D1 i, fun r2 D2 q2 => ⟨by rw [q2.1, e D1 i e1 e2 e3], n, r, i.p q2.2⟩⟩
theorem row_lt {n : Nat} {v : Int32} (hn : n ≤ 12) (h : sr_row n v = true) : v.toNatClampNeg < n := by
  obtain ⟨x, hx, rfl⟩ := (sr_in_n (by omega)).mp h
  rw [nI_clamp (by omega)]; exact hx
theorem pr_difference (h : INV' D n r) (i j u : Int32) : PairJ g M_X6_difference M_X7_difference_ [.int i, .int j, .int u] D := by
  refine pair_qJ (w := fun E => md_dans n r (E.1 64) i j false u) h (c_X6_difference g D _ n r h.1 i j u (an_bd h.1.1)) (fun E hE => c_X7_difference_ g E n r hE.1.1 (an_good hE.1.1) i j u (fun x y hx hy => an_bnd hE.1.1 (fo_d hE.1.1.1.2.1 hx hy))) (fun E hE e1 _ _ => ?_)
  show md_dans n r (E.1 64) i j false u = _
  rw [e1]
  unfold md_dans
  by_cases c : sr_row n i = true ∧ sr_row n j = true
  · rw [if_pos c, if_pos (by rw [c.1, c.2]; rfl)]
    exact (an_tf h.1.1 (fo_d h.1.1.1.2.1 (row_lt (by have := h.1.1.1.2.1; omega) c.1) (row_lt (by have := h.1.1.1.2.1; omega) c.2)) (nI 0) u false rfl).symm
  · rw [if_neg c, if_neg (fun z => c (Bool.and_eq_true_iff.mp z))]
theorem pr_doubt (h : INV' D n r) (i j u : Int32) : PairJ g M_X6_doubt M_X7_doubt_ [.int i, .int j, .int u] D := by
  refine pair_qJ (w := fun E => md_dans n r (E.1 64) i j true u) h (c_X6_doubt g D _ n r h.1 i j u (an_bd h.1.1)) (fun E hE => c_X7_doubt_ g E n r hE.1.1 (an_good hE.1.1) i j u (fun x y hx hy => an_bnd hE.1.1 (fo_d hE.1.1.1.2.1 hx hy))) (fun E hE e1 _ _ => ?_)
  show md_dans n r (E.1 64) i j true u = _
  rw [e1]
  unfold md_dans
  by_cases c : sr_row n i = true ∧ sr_row n j = true
  · rw [if_pos c, if_pos (by rw [c.1, c.2]; rfl)]
    exact (an_tf h.1.1 (fo_d h.1.1.1.2.1 (row_lt (by have := h.1.1.1.2.1; omega) c.1) (row_lt (by have := h.1.1.1.2.1; omega) c.2)) (nI 1) u true rfl).symm
  · rw [if_neg c, if_neg (fun z => c (Bool.and_eq_true_iff.mp z))]
theorem pr_drift (h : INV' D n r) (u : Int32) : PairJ g M_X6_drift M_X7_drift [.int u] D := by
  refine pair_qJ (w := fun E => md_ans n r (E.1 64) (sr_drform n) false u) h (c_X6_drift g D _ n r h.1 u (an_bd h.1.1)) (fun E hE => c_X7_drift g E n r hE.1.1 (an_good hE.1.1) u (an_bnd hE.1.1 (fo_dr hE.1.1.1.2.1))) (fun E hE e1 _ _ => ?_)
  show md_ans n r (E.1 64) (sr_drform n) false u = _
  rw [e1]
  exact (an_tf h.1.1 (fo_dr h.1.1.1.2.1) (nI 0) u false rfl).symm
theorem pr_rest (h : INV' D n r) (v u : Int32) : PairJ g M_X6_rest M_X7_rest [.int v, .int u] D := by
  refine pair_qJ (w := fun E => if sr_row r v = true then sr_told (md_rest n (md_P (E.1 64) n r) (md_S1 (E.1 64) n r) (E.1 64) v.toNatClampNeg) (md_b (n + 1) (md_P (E.1 64) n r)) u else sr_NN) h (c_X6_rest g D _ n r h.1 v u (fun q hq => by have := an_rs0 h.1.1 hq; omega)) (fun E hE => c_X7_rest g E n r hE.1.1 (an_good hE.1.1) v u (fun q hq => by rw [← an_rs hE.1.1 hq]; have := an_rs0 hE.1.1 hq; omega)) (fun E hE e1 _ _ => ?_)
  show (if sr_row r v = true then sr_told (md_rest n (md_P (E.1 64) n r) (md_S1 (E.1 64) n r) (E.1 64) v.toNatClampNeg) (md_b (n + 1) (md_P (E.1 64) n r)) u else sr_NN) = _
  rw [e1]
  by_cases c : sr_row r v = true
  · rw [if_pos c, if_pos c, an_rs h.1.1 (row_lt h.1.1.1.2.2.2 c), lq_b h.1.1]
  · rw [if_neg c, if_neg c]
theorem pr_sum (h : INV' D n r) (u : Int32) : PairJ g M_X6_sum M_X7_sum [.int u] D := by
  refine pair_qJ (w := fun E => sr_told (md_su n r (E.1 64)) (md_b (n + 1) (md_P (E.1 64) n r)) u) h (c_X6_sum g D _ n r h.1 u (by have := lq_su0 h.1.1; omega)) (fun E hE => c_X7_sum g E n r hE.1.1 (an_good hE.1.1) u (by rw [← lq_su hE.1.1]; have := lq_su0 hE.1.1; omega)) (fun E hE e1 _ _ => ?_)
  show sr_told (md_su n r (E.1 64)) (md_b (n + 1) (md_P (E.1 64) n r)) u = _
  rw [e1, lq_su h.1.1, lq_b h.1.1]
theorem crew_lt {n : Nat} {a b : Int32} (h : sr_crew n a b = true) : sr_crewN n a.toNatClampNeg b.toNatClampNeg = true := by
  unfold sr_crew at h; rw [Bool.and_eq_true] at h; exact h.2
theorem crewN_l {n x y : Nat} {t m : Int32} (hn : n ≤ 6) (h : sr_crewN n x y = true) (ht : sr_isIn t (-1) (nI 1) = true) : fr_l n (cl_form x y t m) (sr_form n x y t) := by
  simp only [sr_crewN, Bool.and_eq_true, decide_eq_true_eq] at h
  exact fo_l hn (by omega) (by omega) (by omega) (sr_isIn_b ht)
theorem pr_guess (h : INV' D n r) (a b t d u : Int32) : PairJ g M_X6_guess M_X7_guess [.int a, .int b, .int t, .int d, .int u] D := by
  refine pair_qJ (w := fun E => if (sr_crew n a b && sr_isIn t (-1) (nI 1)) = true then md_ans n r (E.1 64) (sr_form n a.toNatClampNeg b.toNatClampNeg t) (!decide (d = 0)) u else sr_NN) h (c_X6_guess g D _ n r h.1 a b t d u (an_bd h.1.1)) (fun E hE => c_X7_guess g E n r hE.1.1 (an_good hE.1.1) a b t d u (fun x y hx ht => an_bnd hE.1.1 (crewN_l (m := nI 0) hE.1.1.1.2.1 hx ht))) (fun E hE e1 _ _ => ?_)
  show (if (sr_crew n a b && sr_isIn t (-1) (nI 1)) = true then md_ans n r (E.1 64) (sr_form n a.toNatClampNeg b.toNatClampNeg t) (!decide (d = 0)) u else sr_NN) = _
  rw [e1, sr_canRow_eq h.1.1.1.2.1]
  by_cases c : (sr_crew n a b && sr_isIn t (-1) (nI 1)) = true
  · rw [if_pos c, if_pos c]
    rw [Bool.and_eq_true] at c
    exact (an_tf h.1.1 (crewN_l h.1.1.1.2.1 (crew_lt c.1) c.2) d u _ rfl).symm
  · rw [if_neg c, if_neg c]
theorem pr_rank (h : INV' D n r) (v w : Int32) : PairI g M_X6_rank M_X7_rank [.int v, .int w] D := by
  refine pair_qI (w := fun E => if (sr_row n v && sr_isIn w (nI 0) (nI 3)) = true then (if w = nI 3 then nI (md_gr n (md_P (E.1 64) n r) v.toNatClampNeg n) else nI (md_rc n (md_P (E.1 64) n r) (md_S1 (E.1 64) n r) (E.1 64 1) v.toNatClampNeg w.toNatClampNeg n)) else -1) h (c_X6_rank g D _ n r h.1 v w) (fun E hE => c_X7_rank g E n r hE.1.1 (an_good hE.1.1) v w) (fun E hE e1 _ _ => ?_)
  show (if (sr_row n v && sr_isIn w (nI 0) (nI 3)) = true then (if w = nI 3 then nI (md_gr n (md_P (E.1 64) n r) v.toNatClampNeg n) else nI (md_rc n (md_P (E.1 64) n r) (md_S1 (E.1 64) n r) (E.1 64 1) v.toNatClampNeg w.toNatClampNeg n)) else -1) = _
  rw [e1]
  cases c : sr_row n v with
  | true => rw [Bool.true_and, if_pos (c := true = true) rfl, an_rank h.1.1 h.2.1 (row_lt (by have := h.1.1.1.2.1; omega) c)]
  | false => rw [Bool.false_and, if_neg (by decide), if_neg (by decide)]
theorem pr_count (h : INV' D n r) (w : Int32) : PairI g M_X6_count M_X7_count [.int w] D := by
  refine pair_qI (w := fun E => md_cnt n r E w) h (c_X6_count g D _ n r h.1 w) (fun E hE => c_X7_count g E n r hE.1.1 (an_good hE.1.1) (an_z0 hE.1.1) w) (fun E hE e1 e2 e3 => ?_)
  obtain ⟨t, _, t1, t2⟩ := h.2.2.1
  exact (an_count h.1.1 (D := E) e1 (len := D.1 7 0) (by rw [e2, t2, t1]) w).symm
theorem pr_suit (h : INV' D n r) (v w u : Int32) : PairJ g M_X6_suit M_X7_suit [.int v, .int w, .int u] D := by
  refine pair_qJ (w := fun E => if (sr_row n v && sr_row n w && !decide (v = w)) = true then sr_told (md_sui n r (E.1 64) v.toNatClampNeg w.toNatClampNeg r) (md_b (n + 1) (md_P (E.1 64) n r)) u else sr_NN) h (c_X6_suit g D _ n r h.1 v w u (fun x y _ _ => an_su h.1.1 _)) (fun E hE => c_X7_suit g E n r hE.1.1 (an_good hE.1.1) v w u (fun x y hx hy => by rw [← an_sui hE.1.1 hx hy]; exact an_su hE.1.1 _)) (fun E hE e1 _ _ => ?_)
  show (if (sr_row n v && sr_row n w && !decide (v = w)) = true then sr_told (md_sui n r (E.1 64) v.toNatClampNeg w.toNatClampNeg r) (md_b (n + 1) (md_P (E.1 64) n r)) u else sr_NN) = _
  rw [e1]
  by_cases c : (sr_row n v && sr_row n w && !decide (v = w)) = true
  · have c2 : cl_two n v w = true := c
    rw [if_pos c, if_pos c2]
    rw [Bool.and_eq_true, Bool.and_eq_true] at c
    rw [an_sui h.1.1 (row_lt (by have := h.1.1.1.2.1; omega) c.1.1) (row_lt (by have := h.1.1.1.2.1; omega) c.1.2), lq_b h.1.1]
  · have c2 : ¬ cl_two n v w = true := c
    rw [if_neg c, if_neg c2]
theorem pr_swaps (h : INV' D n r) (v w z : Int32) : PairJ g M_X6_swaps M_X7_swaps_ [.int v, .int w, .int z] D := by
  refine pair_qJ (w := fun E => if (sr_row n v && sr_row n w && !decide (v = w) && sr_isIn z (nI 0) (nI 2)) = true then md_swa (E.1 64) r v.toNatClampNeg w.toNatClampNeg z.toNatClampNeg else sr_NN) h (c_X6_swaps g D _ n r h.1 v w z) (fun E hE => c_X7_swaps_ g E n r hE.1.1 v w z (an_swb hE.1.1)) (fun E hE e1 _ _ => ?_)
  show (if (sr_row n v && sr_row n w && !decide (v = w) && sr_isIn z (nI 0) (nI 2)) = true then md_swa (E.1 64) r v.toNatClampNeg w.toNatClampNeg z.toNatClampNeg else sr_NN) = _
  rw [e1]
  have eqc : (cl_two n v w && sr_isIn z (nI 0) (nI 2)) = (sr_row n v && sr_row n w && !decide (v = w) && sr_isIn z (nI 0) (nI 2)) := rfl
  rw [eqc]
  by_cases c : (sr_row n v && sr_row n w && !decide (v = w) && sr_isIn z (nI 0) (nI 2)) = true
  · rw [if_pos c, if_pos c]
    rw [Bool.and_eq_true, Bool.and_eq_true, Bool.and_eq_true] at c
    have hx := row_lt (by have := h.1.1.1.2.1; omega) c.1.1.1
    have hy := row_lt (by have := h.1.1.1.2.1; omega) c.1.1.2
    refine (sw_ans h.1.1 hx hy (fun e => ?_)).symm
    obtain ⟨x, _, rfl⟩ := (sr_row_n h.1.1.1.2.1).mp c.1.1.1
    obtain ⟨y, _, rfl⟩ := (sr_row_n h.1.1.1.2.1).mp c.1.1.2
    have n6 := h.1.1.1.2.1
    rw [nI_clamp (by omega), nI_clamp (by omega)] at e
    rw [e] at c
    have := c.1.2
    rw [decide_eq_true rfl] at this
    exact absurd this (by decide)
  · rw [if_neg c, if_neg c]
theorem pr_next (h : INV' D n r) (k w : Int32) : PairJ g M_X6_next M_X7_next [.int k, .int w] D := by
  refine pair_qJ (w := fun E => if (sr_isIn k (nI 1) (nI 3) && sr_isIn w (nI 0) (nI 4)) = true then md_nxa (E.1 64) n r k.toNatClampNeg w.toNatClampNeg else -1) h (c_X6_next g D _ n r h.1 k w (an_nok h.1.1 k)) (fun E hE => c_X7_next g E n r hE.1.1 (an_good hE.1.1) k w (fun q a b _ _ _ _ hm _ ha hb => (an_mok hE.1.1 hm ha hb).1)) (fun E hE e1 _ _ => ?_)
  show (if (sr_isIn k (nI 1) (nI 3) && sr_isIn w (nI 0) (nI 4)) = true then md_nxa (E.1 64) n r k.toNatClampNeg w.toNatClampNeg else -1) = _
  rw [e1]; exact (an_next h.1.1 k w).symm
theorem pr_fewest (h : INV' D n r) (k : Int32) : PairI g M_X6_fewest M_X7_fewest [.int k] D := by
  refine pair_qI (w := fun E => if sr_isIn k (nI 1) (nI 3) = true then md_few (E.1 64) n r k.toNatClampNeg else -1) h (c_X6_fewest g D _ n r h.1 k) (fun E hE => c_X7_fewest g E n r hE.1.1 (an_good hE.1.1) k (md_good_b (an_w hE.1.1) (an_few hE.1.1 (k := 0) (by omega)).2.2) (fun q _ hq => md_good_b (an_w hE.1.1) (an_few hE.1.1 hq).2.1)) (fun E hE e1 _ _ => ?_)
  show (if sr_isIn k (nI 1) (nI 3) = true then md_few (E.1 64) n r k.toNatClampNeg else -1) = _
  rw [e1]
  by_cases c : sr_isIn k (nI 1) (nI 3) = true
  · rw [if_pos c, if_pos c]
    obtain ⟨x, _, hx, rfl⟩ := isIn_n (by decide) (by omega) c
    rw [nI_clamp (by omega)]
    exact (an_few h.1.1 (k := x) (by omega)).1.symm
  · rw [if_neg c, if_neg c]
theorem pr_odd (h : INV' D n r) (w : Int32) : PairJ g M_X6_odd M_X7_odd [.int w] D := by
  refine pair_qJ (w := fun E => if (decide (¬ r = 0) && sr_isIn w (nI 0) (nI 2)) = true then md_oda (E.1 64) n r w.toNatClampNeg else -1) h (c_X6_odd g D _ n r h.1 w (fun q hq => (an_odok h.1.1 hq).1)) (fun E hE => c_X7_odd g E n r hE.1.1 (an_good hE.1.1) w (fun q hq => (an_odok hE.1.1 hq).2)) (fun E hE e1 _ _ => ?_)
  show (if (decide (¬ r = 0) && sr_isIn w (nI 0) (nI 2)) = true then md_oda (E.1 64) n r w.toNatClampNeg else -1) = _
  rw [e1]
  by_cases c : (decide (¬ r = 0) && sr_isIn w (nI 0) (nI 2)) = true
  · rw [if_pos c, if_pos c]
    rw [Bool.and_eq_true] at c
    obtain ⟨x, _, hx, rfl⟩ := isIn_n (by decide) (by omega) c.2
    rw [nI_clamp (by omega)]
    exact (an_oda h.1.1 hx).symm
  · rw [if_neg c, if_neg c]
theorem pr_even (h : INV' D n r) (k w : Int32) : PairI g M_X6_even M_X7_even [.int k, .int w] D := by
  refine pair_qI (w := fun E => if (sr_isIn k (nI 1) (nI 3) && sr_isIn w (nI 0) (nI 1)) = true then md_eva (E.1 64) n r k.toNatClampNeg w.toNatClampNeg else -1) h (c_X6_even g D _ n r h.1 k w) (fun E hE => c_X7_even g E n r hE.1.1 (an_good hE.1.1) k w) (fun E hE e1 _ _ => ?_)
  show (if (sr_isIn k (nI 1) (nI 3) && sr_isIn w (nI 0) (nI 1)) = true then md_eva (E.1 64) n r k.toNatClampNeg w.toNatClampNeg else -1) = _
  rw [e1]; exact (an_even h.1.1 k w).symm
end PQ
