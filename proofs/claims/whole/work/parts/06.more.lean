/-! Math.abs; loops; what a method answers -/
def sr_AB (own : String) (idx : Nat) : Prop := Cond.methodLink own idx Lib.MathLoose.abs_long.x ∈ sr_ws ∧ Cond.static Lib.MathLoose.abs_long.x ∈ sr_ws ∧ Cond.initialized "java/lang/Math" ∈ sr_ws ∧ Cond.code Lib.MathLoose.abs_long.x Lib.MathLoose.abs_long.code 2 (some .long) ∈ sr_ws
def sr_abs (x : Int64) : Int64 := if 0 < x then x else -x
theorem wp_abs {g : sr_G} {M : sr_Md} {pc idx : Nat} {lv : List (Nat × Value)} {st : List Value} {D : sr_St} {Q : Option Value → sr_St → Prop} {x : Int64} (hd : decode M.2.1 pc = .ok (.invokestatic idx, 3)) (hw : sr_AB M.1.cls idx) (hf : 1 ≤ M.2.2.2.2.1) (hlo : (st.map fun v => v.category).sum + 13 ≤ M.2.2.2.2.2) (k : WP g M (pc + 3) lv (.long (sr_abs x) :: st) D Q) : WP g M pc lv (.long x :: st) D Q := by
  intro p e s m args below meth c H locs ls C hP hS hl
  have hts := C.2.2.2.2.2.2.1
  exact va_mabs_long C.1 C.2.1 (C.2.2.2.1.trans hl.1.symm) C.2.2.2.2.1 (hts _ hw.1) (hts _ hw.2.1) (hts _ hw.2.2.1) (hts _ hw.2.2.2) hf (by rw [sr_catsum]; exact hlo) (Nat.zero_le _) (Nat.zero_le _) hd (k p e s m args below meth c H locs ls C hP hS hl)
theorem wp_pick {g : sr_G} {M : sr_Md} {pc : Nat} {lv lv' : List (Nat × Value)} {st : List Value} {D : sr_St} {Q : Option Value → sr_St → Prop} (ks : List Nat) (h : ks.filterMap (fun k => lv[k]?) = lv') (k : WP g M pc lv' st D Q) : WP g M pc lv st D Q := by
  refine wp_sub (fun q hq => ?_) k
  rw [← h] at hq
  obtain ⟨i, -, hi⟩ := List.mem_filterMap.mp hq
  exact List.mem_of_getElem? hi
/-- a loop that counts up: what holds at i follows from what holds at i + 1 -/
theorem sr_up {P : Nat → Prop} {N : Nat} (hs : ∀ i, i ≤ N → (i < N → P (i + 1)) → P i) : ∀ i, i ≤ N → P i := by
  have h : ∀ k i, i + k = N → P i := by
    intro k
    induction k with
    | zero => intro i hi; exact hs i (by omega) (fun h => by omega)
    | succ k ih => intro i hi; exact hs i (by omega) (fun _ => ih (i + 1) (by omega))
  intro i hi
  exact h (N - i) i (by omega)
/-- the answer r0, the numbers D0 -/
def sr_ret (r0 : Option Value) (D0 : sr_St) : Option Value → sr_St → Prop := fun r D' => r = r0 ∧ D0 = D'
/-- a Bool as the machine has it -/
def sr_b (b : Bool) : Int32 := if b then 1 else 0
theorem sr_b01 (b : Bool) : sr_b b = 0 ∨ sr_b b = 1 := by cases b <;> simp [sr_b]
theorem sr_b_eq0 {b : Bool} : sr_b b = 0 ↔ b = false := by cases b <;> simp [sr_b]
theorem sr_b_ne0 {b : Bool} : ¬ sr_b b = 0 ↔ b = true := by cases b <;> simp [sr_b]
/-- whole rows -/
def sr_rI (D : sr_St) (o : Nat) (h : Nat → Int32) : sr_St := (fun p => if p = o then h else D.1 p, D.2)
def sr_rJ (D : sr_St) (o : Nat) (h : Nat → Int64) : sr_St := (D.1, fun p => if p = o then h else D.2 p)
theorem sr_sI_r (D : sr_St) (o k : Nat) (v : Int32) : sr_sI D o k v = sr_rI D o (upd (D.1 o) k v) := rfl
theorem sr_sJ_r (D : sr_St) (o k : Nat) (v : Int64) : sr_sJ D o k v = sr_rJ D o (vp_updL (D.2 o) k v) := rfl
theorem sr_rI_1 (D : sr_St) (o : Nat) (h : Nat → Int32) (p : Nat) : (sr_rI D o h).1 p = if p = o then h else D.1 p := rfl
theorem sr_rI_2 (D : sr_St) (o : Nat) (h : Nat → Int32) : (sr_rI D o h).2 = D.2 := rfl
theorem sr_rJ_1 (D : sr_St) (o : Nat) (h : Nat → Int64) : (sr_rJ D o h).1 = D.1 := rfl
theorem sr_rJ_2 (D : sr_St) (o : Nat) (h : Nat → Int64) (p : Nat) : (sr_rJ D o h).2 p = if p = o then h else D.2 p := rfl
theorem sr_rI_rI (D : sr_St) (o : Nat) (h h' : Nat → Int32) : sr_rI (sr_rI D o h) o h' = sr_rI D o h' := by
  unfold sr_rI
  congr 1
  funext p
  by_cases e : p = o <;> simp [e]
theorem sr_rJ_rJ (D : sr_St) (o : Nat) (h h' : Nat → Int64) : sr_rJ (sr_rJ D o h) o h' = sr_rJ D o h' := by
  unfold sr_rJ
  congr 1
  funext p
  by_cases e : p = o <;> simp [e]
theorem sr_rI_self (D : sr_St) (o : Nat) : sr_rI D o (D.1 o) = D := by
  obtain ⟨a, b⟩ := D
  unfold sr_rI
  congr 1
  funext p
  by_cases e : p = o <;> simp [e]
theorem sr_rJ_self (D : sr_St) (o : Nat) : sr_rJ D o (D.2 o) = D := by
  obtain ⟨a, b⟩ := D
  unfold sr_rJ
  congr 1
  funext p
  by_cases e : p = o <;> simp [e]
/-- filling a row from the left -/
def sr_fill {α : Type} (i : Nat) (h f : Nat → α) : Nat → α := fun k => if k < i then h k else f k
theorem sr_fill_0 {α : Type} (h f : Nat → α) : sr_fill 0 h f = f := by funext k; simp [sr_fill]
theorem sr_fill_I (i : Nat) (h f : Nat → Int32) : upd (sr_fill i h f) i (h i) = sr_fill (i + 1) h f := by
  funext k
  unfold upd sr_fill
  by_cases e : k = i
  · subst e; simp
  · by_cases e2 : k < i
    · simp [e, e2, Nat.lt_succ_of_lt e2]
    · simp [e, e2, show ¬ k < i + 1 by omega]
theorem sr_fill_J (i : Nat) (h f : Nat → Int64) : vp_updL (sr_fill i h f) i (h i) = sr_fill (i + 1) h f := by
  funext k
  unfold vp_updL sr_fill
  by_cases e : k = i
  · subst e; simp
  · by_cases e2 : k < i
    · simp [e, e2, Nat.lt_succ_of_lt e2]
    · simp [e, e2, show ¬ k < i + 1 by omega]
theorem sr_fillI (D : sr_St) (o i : Nat) (h f : Nat → Int32) : sr_sI (sr_rI D o (sr_fill i h f)) o i (h i) = sr_rI D o (sr_fill (i + 1) h f) := by
  rw [sr_sI_r, sr_rI_rI, sr_rI_1, if_pos rfl, sr_fill_I]
theorem sr_fillJ (D : sr_St) (o i : Nat) (h f : Nat → Int64) : sr_sJ (sr_rJ D o (sr_fill i h f)) o i (h i) = sr_rJ D o (sr_fill (i + 1) h f) := by
  rw [sr_sJ_r, sr_rJ_rJ, sr_rJ_2, if_pos rfl, sr_fill_J]
theorem ab_X2_16 : sr_AB RX2 16 := ⟨(sr_mt3 (List.mem_of_getElem? (i := 25) rfl) rfl), (sr_mt3 (List.mem_of_getElem? (i := 26) rfl) rfl), (sr_mt1 (List.mem_of_getElem? (i := 18) rfl) rfl), (sr_mt3 (List.mem_of_getElem? (i := 27) rfl) rfl)⟩
theorem ab_X6_294 : sr_AB RX6 294 := ⟨(sr_mt3 (List.mem_of_getElem? (i := 148) rfl) rfl), (sr_mt3 (List.mem_of_getElem? (i := 26) rfl) rfl), (sr_mt1 (List.mem_of_getElem? (i := 18) rfl) rfl), (sr_mt3 (List.mem_of_getElem? (i := 27) rfl) rfl)⟩
