/-! ===== both sides: what changes the log ===== -/
theorem CI.now {now now' : Nat → Int32} {n r : Nat} {D : sr_St} (h : CI now n r D) (e : ∀ k, k < 60 → now' k = now k) : CI now' n r D := by
  obtain ⟨h1, ⟨a1, a2, a3, a4⟩, h3, b⟩ := h
  have r12 := h1.1.2.2.2
  have ra : ∀ q, q < r → sr_ra now' q = sr_ra now q := fun q hq => by unfold sr_ra; rw [e _ (by omega)]
  have rb : ∀ q, q < r → sr_rb now' q = sr_rb now q := fun q hq => by unfold sr_rb; rw [e _ (by omega)]
  have eG : ∀ m, m ≤ r → cl_G now' m = cl_G now m := by
    intro m
    induction m with
    | zero => intro _; rfl
    | succ m ih =>
      intro hm
      show cl_inc (nI 1) (cl_rf now' m) (cl_G now' m) = cl_inc (nI 1) (cl_rf now m) (cl_G now m)
      rw [ih (by omega)]
      unfold cl_rf
      rw [ra m (by omega), rb m (by omega), e _ (by omega), e _ (by omega)]
  have eg := eG r (Nat.le_refl _)
  refine ⟨⟨⟨by rw [e 0 (by omega)]; exact h1.1.1, h1.1.2.1, by rw [e 2 (by omega)]; exact h1.1.2.2.1, r12⟩, fun q hq => ?_⟩, ⟨a1, by rw [e 1 (by omega)]; exact a2, a3, fun q hq => ?_⟩, by rw [eg]; exact h3, by rw [eg]; exact b⟩
  · rw [ra q hq, rb q hq, e _ (by omega), e _ (by omega), e _ (by omega), e _ (by omega)]; exact h1.2 q hq
  · rw [e _ (by omega), e _ (by omega), e _ (by omega), e _ (by omega)]; exact a4 q hq
section PM
variable {g : sr_G} {D : sr_St} {n r : Nat}
/-- the world but the model's cell 64: what a change of the log leaves -/
theorem INV'.m {E : sr_St} {now' : Nat → Int32} {n' r' : Nat} (h : INV' D n r) (k : cl_pm D E) (c : CI now' n' r' E) (hl : 0 ≤ (now' 1).toInt) : INV' (sr_rI (sr_th E) 64 now') n' r' := by
  obtain ⟨_, i2, i3, i4, i5, i6, i7, i8, i9⟩ := h
  have e7 : E.1 7 = D.1 7 := k.1 7 (by omega) (by omega) (by omega) (by omega)
  have e6 : E.1 6 = D.1 6 := k.1 6 (by omega) (by omega) (by omega) (by omega)
  have e8 : E.1 8 = D.1 8 := k.1 8 (by omega) (by omega) (by omega) (by omega)
  have e66 : E.1 66 = D.1 66 := k.1 66 (by omega) (by omega) (by omega) (by omega)
  have e0 : E.1 0 = D.1 0 := k.1 0 (by omega) (by omega) (by omega) (by omega)
  have e63 : E.1 63 = D.1 63 := k.1 63 (by omega) (by omega) (by omega) (by omega)
  have x63 : ∀ j, ¬ j = 0 → (sr_rI (sr_th E) 64 now').1 63 j = D.1 63 j := fun j hj => by
    show upd (E.1 63) 0 (nI 0) j = _
    rw [pk_un hj, e63]
  refine ⟨?_, hl, ?_, ?_, ?_, ?_, ?_, ?_, ?_⟩
  · have c' : CI now' n' r' (sr_rI (sr_th E) 64 now') := c.cg (fun o ho => by
      show (if o = 64 then now' else (sr_th E).1 o) = E.1 o
      rw [if_neg (by omega)]
      show (if o = 63 then _ else E.1 o) = E.1 o
      rw [if_neg (by omega)]) rfl
    exact c'
  · obtain ⟨t, t1, t2, t3⟩ := i3
    exact ⟨t, t1, by show E.1 7 0 = _; rw [e7]; exact t2, by rw [x63 4 (by omega)]; exact t3⟩
  · show E.1 8 = E.1 66
    rw [e8, e66]; exact i4
  · show sr_bytes (E.1 66)
    rw [e66]; exact i5
  · rw [x63 5 (by omega)]; show E.1 0 10 = _; rw [e0]; exact i6
  · rw [x63 6 (by omega)]; show E.1 0 11 = _; rw [e0]; exact i7
  · obtain ⟨a, b, c, d, e, f, q, z⟩ := i8
    refine ⟨a, b, c, d, e, f, q, ?_⟩
    show _ ∧ _ ∧ E.1 7 1 = _ ∧ E.1 7 2 = _ ∧ E.1 7 4 = _ ∧ E.1 6 0 = _ ∧ E.1 6 1 = _ ∧ E.1 6 4 = _ ∧ E.1 6 5 = _
    rw [e7, e6]; exact z
  · obtain ⟨q, q1, q2⟩ := i9
    exact ⟨q, q1, by rw [x63 9 (by omega)]; exact q2⟩
theorem INV'.th (h : INV' D n r) : INV' (sr_th D) n r := h.fr (fun o ho => by
    show (if o = 63 then _ else D.1 o) = D.1 o
    rw [if_neg (by omega)]) (fun _ _ => rfl) (fun k hk => by
    show upd (D.1 63) 0 (nI 0) k = _
    exact pk_un (by omega))
theorem pr_crew (h : INV' D n r) (v : Int32) : PairI g M_X6_crew M_X7_crew [.int v] D := by
  refine ⟨_, c_X6_crew g D _ n r h.1 v, fun r1 D1 q1 => ?_⟩
  cases c : sr_isIn v (nI 0) (nI 6) with
  | true =>
    obtain ⟨a1, a2, a3⟩ := q1.1 c
    refine ⟨1, a1, _, c_X7_crew g D1 v, fun r2 D2 q2 => ?_⟩
    obtain ⟨b1, b2⟩ := q2
    rw [c] at b1 b2
    rw [if_pos (c := true = true) rfl] at b2
    have e64 : D1.1 64 = D.1 64 := a3.1 64 (by omega) (by omega) (by omega) (by omega)
    refine ⟨b1, v.toNatClampNeg, 0, ?_⟩
    rw [← b2, e64]
    exact h.m a3 a2 (by show 0 ≤ (D.1 64 1).toInt; exact h.2.1)
  | false =>
    obtain ⟨a1, a2⟩ := q1.2 c
    subst a2
    refine ⟨0, a1, _, c_X7_crew g D1 v, fun r2 D2 q2 => ?_⟩
    obtain ⟨b1, b2⟩ := q2
    rw [c] at b1 b2
    rw [if_neg (c := false = true) (by decide)] at b2
    exact ⟨b1, n, r, by rw [← b2]; exact h.th⟩
theorem pr_limit (h : INV' D n r) (v : Int32) : PairI g M_X6_limit M_X7_limit [.int v] D := by
  refine ⟨_, c_X6_limit g D _ n r h.1 v, fun r1 D1 q1 => ?_⟩
  obtain ⟨q0, qt, qf⟩ := q1
  refine ⟨_, q0, _, c_X7_limit g D1 v, fun r2 D2 q2 => ?_⟩
  obtain ⟨b1, b2⟩ := q2
  cases c : (sr_isIn v (nI 1) (nI 99) && !decide (v = D.1 64 1)) with
  | true =>
    obtain ⟨a2, a3⟩ := qt c
    have e64 : D1.1 64 = D.1 64 := a3.1 64 (by omega) (by omega) (by omega) (by omega)
    rw [e64, c] at b1 b2
    rw [if_pos (c := true = true) rfl] at b2
    refine ⟨b1, n, r, ?_⟩
    rw [← b2]
    refine h.m a3 a2 ?_
    rw [Bool.and_eq_true] at c
    obtain ⟨x, x1, x2, e⟩ := isIn_n (by decide) (by omega) c.1
    show 0 ≤ (upd (D.1 64) 1 v 1).toInt
    rw [pk_us, e, nI_toInt (by omega)]; omega
  | false =>
    have a2 := qf c
    subst a2
    rw [c] at b1 b2
    rw [if_neg (c := false = true) (by decide)] at b2
    exact ⟨b1, n, r, by rw [← b2]; exact h.th⟩
theorem pr_race (h : INV' D n r) (a b m t : Int32) : PairI g M_X6_race M_X7_race [.int a, .int b, .int m, .int t] D := by
  refine ⟨_, c_X6_race g D _ n r h.1 a b m t, fun r1 D1 q1 => ?_⟩
  have lo := h.1.1
  cases c : sr_raceOk n a b m t with
  | true =>
    by_cases c12 : r = 12
    · obtain ⟨a1, a2⟩ := (q1.1 c).1 c12
      subst a2
      refine ⟨-2, a1, _, c_X7_race g D1 n r lo.1.1 lo.1.2.1 lo.1.2.2.1 lo.1.2.2.2 a b m t, fun r2 D2 q2 => ?_⟩
      obtain ⟨b1, b2⟩ := q2
      rw [c, if_pos (c := true = true) rfl, if_pos c12] at b1 b2
      exact ⟨b1, n, r, by rw [← b2]; exact h.th⟩
    · obtain ⟨a1, a2, a3⟩ := (q1.1 c).2 c12
      have e64 : D1.1 64 = D.1 64 := a3.1 64 (by omega) (by omega) (by omega) (by omega)
      refine ⟨_, a1, _, c_X7_race g D1 n r (by rw [e64]; exact lo.1.1) lo.1.2.1 (by rw [e64]; exact lo.1.2.2.1) lo.1.2.2.2 a b m t, fun r2 D2 q2 => ?_⟩
      obtain ⟨b1, b2⟩ := q2
      rw [c, if_pos (c := true = true) rfl, if_neg c12] at b1 b2
      refine ⟨b1, n, r + 1, ?_⟩
      rw [← b2, e64]
      refine h.m a3 a2 ?_
      have e : sr_more (D.1 64) r a b m t 1 = D.1 64 1 := by unfold sr_more; (repeat' split) <;> first | rfl | omega
      rw [e]; exact h.2.1
  | false =>
    obtain ⟨a1, a2⟩ := q1.2 c
    subst a2
    refine ⟨-1, a1, _, c_X7_race g D1 n r lo.1.1 lo.1.2.1 lo.1.2.2.1 lo.1.2.2.2 a b m t, fun r2 D2 q2 => ?_⟩
    obtain ⟨b1, b2⟩ := q2
    rw [c, if_neg (c := false = true) (by decide)] at b1 b2
    exact ⟨b1, n, r, by rw [← b2]; exact h.th⟩
theorem pr_strike (h : INV' D n r) (v : Int32) : PairI g M_X6_strike M_X7_strike [.int v] D := by
  refine ⟨_, c_X6_strike g D _ n r h.1 v, fun r1 D1 q1 => ?_⟩
  have lo := h.1.1
  by_cases c : ∃ q, q < r ∧ v = nI q
  · obtain ⟨q, hq, ev⟩ := c
    obtain ⟨a1, a2, a3⟩ := q1.1 q hq ev
    have e64 : D1.1 64 = D.1 64 := a3.1 64 (by omega) (by omega) (by omega) (by omega)
    refine ⟨_, a1, _, c_X7_strike g D1 r (by rw [e64]; exact lo.1.2.2.1) lo.1.2.2.2 v, fun r2 D2 q2 => ?_⟩
    obtain ⟨b1, b2⟩ := q2.1 q hq ev
    refine ⟨b1, n, r - 1, ?_⟩
    rw [b2, e64]
    refine h.m a3 a2 ?_
    have e : sr_goes (D.1 64) q r 1 = D.1 64 1 := by unfold sr_goes; (repeat' split) <;> first | rfl | omega
    rw [e]; exact h.2.1
  · obtain ⟨a1, a2⟩ := q1.2 c
    subst a2
    refine ⟨-1, a1, _, c_X7_strike g D1 r lo.1.2.2.1 lo.1.2.2.2 v, fun r2 D2 q2 => ?_⟩
    obtain ⟨b1, b2⟩ := q2.2 c
    exact ⟨b1, n, r, by rw [b2]; exact h.th⟩
theorem pr_fault (h : INV' D n r) (w : Int32) : PairI g M_X6_fault M_X7_fault [.int w] D := by
  refine ⟨_, c_X6_fault g D w, fun r1 D1 q1 => ?_⟩
  obtain ⟨a1, a2⟩ := q1
  subst a2
  refine ⟨_, a1, _, c_X7_fault g D w, fun r2 D2 q2 => ?_⟩
  obtain ⟨b1, b2⟩ := q2
  refine ⟨?_, n, r, by rw [← b2]; exact h.th⟩
  rw [b1]
  unfold cl_fault
  rw [h.2.2.2.2.2.1, h.2.2.2.2.2.2.1]
theorem pr_end (h : INV' D n r) (v : Int32) : PairI g M_X6_end M_X7_end [.int v] D := by
  refine ⟨_, c_X6_end g D v, fun r1 D1 q1 => ?_⟩
  obtain ⟨a1, a2⟩ := q1
  obtain ⟨t, t0, t1, t2⟩ := h.2.2.1
  have ec : cl_endb D v = sr_isIn v (nI 0) (D.1 63 4) := by
    unfold cl_endb sr_isIn
    rw [t1, t2]
    congr 1
    rw [nI_0]
    by_cases z : v < 0
    · rw [decide_eq_true z, decide_eq_false (fun y => by rw [Int32.le_iff_toInt_le] at y; rw [Int32.lt_iff_toInt_lt] at z; omega)]; rfl
    · rw [decide_eq_false z, decide_eq_true (by rw [Int32.le_iff_toInt_le]; rw [Int32.lt_iff_toInt_lt] at z; omega)]; rfl
  have e63 : D1.1 63 = D.1 63 := by
    rw [← a2]; split
    · rfl
    · rfl
  refine ⟨_, a1, _, c_X7_end g D1 v, fun r2 D2 q2 => ?_⟩
  obtain ⟨b1, b2⟩ := q2
  rw [e63] at b1 b2
  refine ⟨by rw [b1, ec], n, r, ?_⟩
  rw [← b2, ← a2, ec]
  cases c : sr_isIn v (nI 0) (D.1 63 4) with
  | false =>
    rw [if_neg (by decide), if_neg (by decide)]
    exact h.th
  | true =>
    rw [if_pos rfl, if_pos rfl]
    rw [t2] at c
    obtain ⟨x, _, hx, ev⟩ := isIn_n (by omega) (by omega) c
    obtain ⟨i1, i2, i3, i4, i5, i6, i7, i8, i9⟩ := h
    have x63 : ∀ j, ¬ j = 0 → ¬ j = 4 → (sr_sI (sr_th (sr_sI D 7 0 v)) 63 4 v).1 63 j = D.1 63 j := fun j h0 h4 => by
      rw [sr_sI_1, if_neg (by omega)]
      show upd (D.1 63) 0 (nI 0) j = _
      exact pk_un h0
    refine ⟨?_, i2, ⟨x, by omega, ?_, ?_⟩, i4, i5, ?_, ?_, ?_, ?_⟩
    · refine i1.cg (fun o ho => ?_) rfl
      funext j
      rw [sr_sI_1, if_neg (by omega)]
      show (sr_sI (sr_sI D 7 0 v) 63 0 (nI 0)).1 o j = _
      rw [sr_sI_1, if_neg (by omega), sr_sI_1, if_neg (by omega)]
    · rw [sr_sI_1, if_neg (by omega)]
      show (sr_sI (sr_sI D 7 0 v) 63 0 (nI 0)).1 7 0 = _
      rw [sr_sI_1, if_neg (by omega), sr_sI_1, if_pos ⟨rfl, rfl⟩]; exact ev
    · rw [sr_sI_1, if_pos ⟨rfl, rfl⟩]; exact ev
    · rw [x63 5 (by omega) (by omega)]; exact i6
    · rw [x63 6 (by omega) (by omega)]; exact i7
    · obtain ⟨a, b, c, d, e, f, q, z⟩ := i8
      refine ⟨a, b, c, d, e, f, q, ?_⟩
      have y7 : ∀ o j, ¬ o = 63 → ¬ (o = 7 ∧ j = 0) → (sr_sI (sr_th (sr_sI D 7 0 v)) 63 4 v).1 o j = D.1 o j := fun o j h0 h4 => by
        rw [sr_sI_1, if_neg (by omega)]
        show (sr_sI (sr_sI D 7 0 v) 63 0 (nI 0)).1 o j = _
        rw [sr_sI_1, if_neg (by omega), sr_sI_1, if_neg h4]
      rw [y7 7 1 (by omega) (by omega), y7 7 2 (by omega) (by omega), y7 7 4 (by omega) (by omega), y7 6 0 (by omega) (by omega), y7 6 1 (by omega) (by omega), y7 6 4 (by omega) (by omega), y7 6 5 (by omega) (by omega)]
      exact z
    · obtain ⟨q, q1, q2⟩ := i9
      exact ⟨q, q1, by rw [x63 9 (by omega) (by omega)]; exact q2⟩
theorem pr_feed (h : INV' D n r) (p q s u w : Int32) : PairI g M_X6_feed M_X7_feed [.int p, .int q, .int s, .int u, .int w] D := by
  obtain ⟨t, t0, t1, t2⟩ := h.2.2.1
  refine ⟨_, c_X6_feed g D t t1 t0 p q s u w, fun r1 D1 q1 => ?_⟩
  obtain ⟨a1, a2⟩ := q1
  have e63 : D1.1 63 = D.1 63 := by
    rw [← a2]; split
    · rfl
    · rfl
  refine ⟨_, a1, _, c_X7_feed g D1 t (by rw [e63]; exact t2) t0 p q s u w, fun r2 D2 q2 => ?_⟩
  obtain ⟨b1, b2⟩ := q2
  refine ⟨b1, n, r, ?_⟩
  rw [← b2]
  by_cases c : t + 20 ≤ 300
  · rw [if_pos c] at a2 ⊢
    subst a2
    obtain ⟨i1, i2, i3, i4, i5, i6, i7, i8, i9⟩ := h
    obtain ⟨F, hF⟩ : ∃ F : sr_St, F = sr_sI (sr_rI (sr_th (sr_sI (sr_rI D 8 (sr_feed (D.1 8) t p q s u w)) 7 0 (nI (t + 20)))) 66 (sr_feed ((sr_sI (sr_rI D 8 (sr_feed (D.1 8) t p q s u w)) 7 0 (nI (t + 20))).1 66) t p q s u w)) 63 4 (nI (t + 20)) := ⟨_, rfl⟩
    rw [← hF]
    have y : ∀ o j, ¬ o = 8 → ¬ o = 66 → ¬ (o = 63 ∧ (j = 0 ∨ j = 4)) → ¬ (o = 7 ∧ j = 0) → F.1 o j = D.1 o j := fun o j h8 h66 h63 h7 => by
      rw [hF, sr_sI_1, if_neg (by omega)]
      show (if o = 66 then _ else (sr_th (sr_sI (sr_rI D 8 (sr_feed (D.1 8) t p q s u w)) 7 0 (nI (t + 20)))).1 o) j = _
      rw [if_neg h66]
      show (sr_sI (sr_sI (sr_rI D 8 (sr_feed (D.1 8) t p q s u w)) 7 0 (nI (t + 20))) 63 0 (nI 0)).1 o j = _
      rw [sr_sI_1, if_neg (by omega), sr_sI_1, if_neg h7]
      show (if o = 8 then _ else D.1 o) j = _
      rw [if_neg h8]
    have f8 : F.1 8 = sr_feed (D.1 8) t p q s u w := by rw [hF]; rfl
    have f66 : F.1 66 = sr_feed (D.1 66) t p q s u w := by rw [hF]; rfl
    have yo : ∀ o, ¬ o = 8 → ¬ o = 66 → ¬ o = 63 → ¬ o = 7 → F.1 o = D.1 o := fun o a b c d => funext (fun j => y o j a b (by omega) (by omega))
    have e64 : F.1 64 = D.1 64 := yo 64 (by omega) (by omega) (by omega) (by omega)
    refine ⟨?_, by rw [e64]; exact i2, ⟨t + 20, c, ?_, ?_⟩, by rw [f8, f66, i4], by rw [f66]; exact sr_feed_bytes i5, ?_, ?_, ?_, ?_⟩
    · rw [e64]
      exact i1.cg (fun o ho => yo o (by omega) (by omega) (by omega) (by omega)) (by rw [hF]; rfl)
    · rw [hF]; rfl
    · rw [hF, sr_sI_1, if_pos ⟨rfl, rfl⟩]
    · rw [y 63 5 (by omega) (by omega) (by omega) (by omega), y 0 10 (by omega) (by omega) (by omega) (by omega)]; exact i6
    · rw [y 63 6 (by omega) (by omega) (by omega) (by omega), y 0 11 (by omega) (by omega) (by omega) (by omega)]; exact i7
    · obtain ⟨a, b, c, d, e, f, q', z⟩ := i8
      refine ⟨a, b, c, d, e, f, q', ?_⟩
      rw [y 7 1 (by omega) (by omega) (by omega) (by omega), y 7 2 (by omega) (by omega) (by omega) (by omega), y 7 4 (by omega) (by omega) (by omega) (by omega), y 6 0 (by omega) (by omega) (by omega) (by omega), y 6 1 (by omega) (by omega) (by omega) (by omega), y 6 4 (by omega) (by omega) (by omega) (by omega), y 6 5 (by omega) (by omega) (by omega) (by omega)]
      exact z
    · obtain ⟨q', q1, q2⟩ := i9
      exact ⟨q', q1, by rw [y 63 9 (by omega) (by omega) (by omega) (by omega)]; exact q2⟩
  · rw [if_neg c] at a2 ⊢
    subst a2
    exact h.th
theorem pr_tell (h : INV' D n r) : PairI g M_X6_tell M_X7_tell [] D := by
  obtain ⟨L, h300, t1, t2⟩ := h.2.2.1
  obtain ⟨k, p, e, st, fl, ca, cb, hk, hp, j1, j2, j3, j4, j5, j6, j7⟩ := h.2.2.2.2.2.2.2.1
  have e86 := h.2.2.2.1
  have hb := h.2.2.2.2.1
  have T := tx_all (b := D.1 66) (L := L) hb h300 (L + 2) 300 0 (D.1 7 3) 0 ca cb (ts_dr D r) (D.1 64) n r (by omega) (by omega) (by omega) h.1.1 h.2.1 (ts_dr_lg h.1.2.1)
  have eX : tl_X D L ca cb r = ts_all (D.1 66) L 300 0 (tkn (D.1 66) L (D.1 7 3) 0) 0 ca cb (ts_dr D r) := by unfold tl_X; rw [e86]
  rw [← eX] at T
  obtain ⟨T1, T2, T3, T4⟩ := T
  generalize hm : sr_tellL (D.1 66) L (L + 2) 0 0 (D.1 64) = mo at *
  obtain ⟨now', n', r', hg1, hg2, hg3⟩ : ∃ now' n' r', ((tl_X D L ca cb r).1 = true → ts_lg (tl_X D L ca cb r).2.2.2.2.2.2 now' n' r' ∧ sr_logOk now' n' r') ∧ ((tl_X D L ca cb r).1 = true → now' = mo.2.2 ∧ 0 ≤ (now' 1).toInt) ∧ True := by
    by_cases c : (tl_X D L ca cb r).1 = true
    · obtain ⟨n', r', a, b, c'⟩ := T4 (T1.mp c)
      exact ⟨mo.2.2, n', r', fun _ => ⟨c', a⟩, fun _ => ⟨rfl, b⟩, trivial⟩
    · exact ⟨D.1 64, n, r, fun z => absurd z c, fun z => absurd z c, trivial⟩
  refine ⟨_, c_X6_tell g (cl_RW_ok g) D _ n r h.1 L k p e st fl ca cb t1 h300 hk (by omega) j1 j2 j3 j4 j5 j6 j7 now' n' r' hg1, fun r1 D1 q1 => ?_⟩
  obtain ⟨qt, qf, q10, q70, qTI, qpt⟩ := q1
  have d63 : D1.1 63 = D.1 63 := qpt.1 63 (by omega) (by omega) (by omega) (by omega) (by omega)
  have d64 : D1.1 64 = D.1 64 := qpt.1 64 (by omega) (by omega) (by omega) (by omega) (by omega)
  have d66 : D1.1 66 = D.1 66 := qpt.1 66 (by omega) (by omega) (by omega) (by omega) (by omega)
  have d8 : D1.1 8 = D.1 8 := qpt.1 8 (by omega) (by omega) (by omega) (by omega) (by omega)
  obtain ⟨fr, hfr, f9⟩ := h.2.2.2.2.2.2.2.2
  have cm := c_X7_tell g D1 L fr n r (by rw [d63]; exact t2) h300 (by rw [d63]; exact f9) hfr (by rw [d64]; exact h.1.1.1) (by rw [d66]; exact hb)
  have fin : ∀ (v : Int32) (r2 : Option Value) (D2 : sr_St), sr_tellP D1 L r2 D2 → ((tl_X D L ca cb r).1 = true → v = nI mo.1) → ((tl_X D L ca cb r).1 = false → v = -1) → r2 = some (.int v) ∧ INV D2 := by
    intro v r2 D2 q2 v1 v2
    obtain ⟨p1, p2, p3, p4, p5, p6⟩ := q2
    dsimp only at p6
    rw [d66, d64, hm] at p6
    obtain ⟨s1, s2, s3, s4⟩ := p6
    have ec : ∀ o, o ≤ 62 → D2.1 o = D1.1 o := fun o ho => p2 o (by omega) (by omega) (by omega)
    have e66 : D2.1 66 = D1.1 66 := p2 66 (by omega) (by omega) (by omega)
    have tail : ∀ (nn rr : Nat), CI (D2.1 64) nn rr D2 → 0 ≤ (D2.1 64 1).toInt → D2.1 0 11 = D2.1 63 6 → INV D2 := fun nn rr c1 c2 c3 => by
      refine ⟨nn, rr, c1, c2, ⟨0, by omega, by rw [ec 7 (by omega)]; exact q70, p3⟩, by rw [ec 8 (by omega), e66, d8, d66]; exact e86, by rw [e66, d66]; exact hb, by rw [ec 0 (by omega), q10, s1, T3], c3, ?_, p4⟩
      obtain ⟨a, b, c, d, e, f, q, z⟩ := qTI
      exact ⟨a, b, c, d, e, f, q, by rw [ec 7 (by omega), ec 6 (by omega)]; exact z⟩
    cases c : (tl_X D L ca cb r).1 with
    | true =>
      have m0 := T1.mp c
      obtain ⟨a1, a2, a3⟩ := qt c
      obtain ⟨b1, b2, b3⟩ := s3 m0
      obtain ⟨g1, g2⟩ := hg2 c
      refine ⟨by rw [b1, v1 c], tail n' r' ?_ (by rw [b3, ← g1]; exact g2) (by rw [ec 0 (by omega), a3, b2])⟩
      rw [b3, ← g1]
      exact a2.cg (fun o ho => ec o (by omega)) p1
    | false =>
      have m0 : ¬ mo.2.1 = 0 := fun z => by have := T1.mpr z; rw [c] at this; exact absurd this (by decide)
      obtain ⟨a1, a2, a3⟩ := qf c
      obtain ⟨b1, b2, b3⟩ := s4 m0
      refine ⟨by rw [b1, v2 c], tail n r ?_ (by rw [b3 1 (by omega)]; exact h.2.1) (by rw [ec 0 (by omega), a3, b2, T2])⟩
      exact (a2.cg (fun o ho => ec o (by omega)) p1).now (fun j hj => b3 j hj)
  cases c : (tl_X D L ca cb r).1 with
  | true =>
    obtain ⟨a1, _, _⟩ := qt c
    exact ⟨_, a1, _, cm, fun r2 D2 q2 => fin _ r2 D2 q2 (fun _ => by rw [T2]) (fun z => by rw [c] at z; exact absurd z (by decide))⟩
  | false =>
    obtain ⟨a1, _, _⟩ := qf c
    exact ⟨-1, a1, _, cm, fun r2 D2 q2 => fin _ r2 D2 q2 (fun z => by rw [c] at z; exact absurd z (by decide)) (fun _ => rfl)⟩
end PM
