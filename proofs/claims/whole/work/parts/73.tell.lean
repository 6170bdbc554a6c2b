/-! ===== tell ===== -/
/-- the teller's numbers are naturals -/
def TI (D : sr_St) : Prop := ∃ k p e st fl ca cb : Nat, k ≤ 10 ∧ p ≤ 301 ∧ D.1 7 1 = nI k ∧ D.1 7 2 = nI p ∧ D.1 7 4 = nI e ∧ D.1 6 0 = nI st ∧ D.1 6 1 = nI fl ∧ D.1 6 4 = nI ca ∧ D.1 6 5 = nI cb
theorem sr_Q_of {D : sr_St} {k p e st fl ca cb : Nat} (h1 : D.1 7 1 = nI k) (h2 : D.1 7 2 = nI p) (h3 : D.1 7 4 = nI e) (h4 : D.1 6 0 = nI st) (h5 : D.1 6 1 = nI fl) (h6 : D.1 6 4 = nI ca) (h7 : D.1 6 5 = nI cb) (dr : Nat → Nat → Int32) : sr_Q D (k, p, D.1 7 3, e) st fl ca cb dr = (fun o => if 9 ≤ o ∧ o ≤ 13 then dr o else D.1 o, D.2) := by
  refine sr_ext (fun o j => ?_) rfl
  unfold sr_Q sr_R sr_Z
  by_cases e1 : o = 7
  · subst e1
    simp
    by_cases j1 : j = 1
    · subst j1; simp; exact h1.symm
    by_cases j2 : j = 2
    · subst j2; simp; exact h2.symm
    by_cases j3 : j = 3
    · subst j3; simp
    by_cases j4 : j = 4
    · subst j4; simp; exact h3.symm
    simp [j1, j2, j3, j4]
  · by_cases e2 : o = 6
    · subst e2
      simp
      by_cases j1 : j = 0
      · subst j1; simp; exact h4.symm
      by_cases j2 : j = 1
      · subst j2; simp; exact h5.symm
      by_cases j3 : j = 4
      · subst j3; simp; exact h6.symm
      by_cases j4 : j = 5
      · subst j4; simp; exact h7.symm
      simp [j1, j2, j3, j4]
    · simp [e1, e2]
/-- the draft that a log makes -/
def ts_dr (D : sr_St) (r : Nat) : Nat → Nat → Int32 := fun o => if o = 9 then (fun j => if j = 0 then D.1 1 0 else if j = 1 then D.1 1 1 else if j = 2 then nI r else D.1 9 j) else sr_cp (D.1 (o - 8)) (D.1 o) r
theorem sr_copy9 {D : sr_St} {r : Nat} : sr_4 (sr_sI (sr_sI (sr_sI D 9 0 (D.1 1 0)) 9 1 (D.1 1 1)) 9 2 (nI r)) 9 (fun p => sr_cp (D.1 (p - 8)) (D.1 p) r) = (fun o => if 9 ≤ o ∧ o ≤ 13 then ts_dr D r o else D.1 o, D.2) := by
  refine sr_ext (fun o j => ?_) rfl
  rw [sr_4_1]
  unfold ts_dr
  by_cases e1 : o = 9
  · subst e1
    simp [sr_sI_1]
    by_cases j1 : j = 2
    · subst j1; simp
    by_cases j2 : j = 1
    · subst j2; simp
    by_cases j3 : j = 0
    · subst j3; simp
    simp [j1, j2, j3]
  · by_cases e2 : 9 ≤ o ∧ o ≤ 13
    · rw [if_pos (by omega)]; simp [e1, e2]
    · rw [if_neg (by omega)]; simp [sr_sI_1, e1, e2]
/-- a draft tells a log -/
def ts_lg (dr : Nat → Nat → Int32) (now : Nat → Int32) (n r : Nat) : Prop := dr 9 0 = nI n ∧ dr 9 1 = now 1 ∧ dr 9 2 = nI r ∧ ∀ q, q < r → dr 10 q = now (3 + 4 * q) ∧ dr 11 q = now (3 + 4 * q + 1) ∧ dr 12 q = now (3 + 4 * q + 2) ∧ dr 13 q = now (3 + 4 * q + 3)
theorem ts_dr_lg {D : sr_St} {now : Nat → Int32} {n r : Nat} (h : lg D now n r) : ts_lg (ts_dr D r) now n r := by
  obtain ⟨a1, a2, a3, a4⟩ := h
  refine ⟨a1, a2, rfl, fun q hq => ?_⟩
  have e : ∀ o, ¬ o = 9 → ts_dr D r o q = D.1 (o - 8) q := fun o ho => by unfold ts_dr; rw [if_neg ho]; unfold sr_cp; rw [if_pos hq]
  rw [e 10 (by decide), e 11 (by decide), e 12 (by decide), e 13 (by decide)]
  exact a4 q hq
/-- the end of a telling -/
def tl_X (D : sr_St) (L : Nat) (ca cb r : Nat) : ts_A := ts_all (D.1 8) L 300 0 (tkn (D.1 8) L (D.1 7 3) 0) 0 ca cb (ts_dr D r)
def cl_pt (D E : sr_St) : Prop := (∀ o, ¬ o = 0 → ¬ (1 ≤ o ∧ o ≤ 7) → ¬ (9 ≤ o ∧ o ≤ 14) → ¬ o = 33 → ¬ o = 34 → E.1 o = D.1 o) ∧ ∀ o, ¬ (14 ≤ o ∧ o ≤ 32) → E.2 o = D.2 o
theorem tl_dok {D : sr_St} {n r : Nat} (h1 : D.1 1 0 = nI n) (h2 : n ≤ 6) (h3 : r ≤ 12) : ts_dok (ts_dr D r) := ts_dok_of (n := n) (r := r) h1 h2 rfl h3
theorem ts_all_ok {b : Nat → Int32} {L : Nat} : ∀ (k st : Nat) (t : tk_T) (fl ca cb : Nat) (dr : Nat → Nat → Int32), tk_ok L t → ts_dok dr → tk_ok L (ts_all b L k st t fl ca cb dr).2.1 ∧ ts_dok (ts_all b L k st t fl ca cb dr).2.2.2.2.2.2 := by
  intro k
  induction k with
  | zero => intro st t fl ca cb dr h1 h2; exact ⟨h1, h2⟩
  | succ k ih =>
    intro st t fl ca cb dr h1 h2
    have h3 := ts_one_ok (b := b) (fl := fl) (ca := ca) (cb := cb) h1 h2
    unfold ts_all
    split
    · exact ⟨h1, h2⟩
    · split
      · split
        · exact ih _ _ _ _ _ _ (tkn_ok h3.1.2.2) h3.2
        · exact h3
      · exact h3
