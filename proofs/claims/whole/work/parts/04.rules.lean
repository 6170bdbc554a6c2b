/-! ===== THE WALK: WP g M pc lv st D Q: method M, at pc, with locals lv, stack st, numbers D, returns with Q ===== -/
abbrev sr_rm (M : sr_Md) : Room := { frames := M.2.2.2.2.1, cells := 0, slots := 0, locals := M.2.2.2.2.2 }
def sr_K (g : sr_G) (U : State) : Prop := va_K (g.2.1, g.2.2.1) vwCl (sr_tys g.2.2.2.2) U
def st_O : List String := [RX4, RX4, RX4, RX4, RX4, RX4, RX6, RX6]
def st_I : List Nat := [44, 50, 52, 54, 56, 58, 148, 165]
def st_T : List String := ["crew", "limit", "race", "by", "up", "down", "no such race", "a race has no such numbe\x72"]
def st_L : List Nat := [4, 5, 4, 2, 2, 4, 12, 25]
def st_B : List (List Int32) := [[99, 114, 101, 119], [108, 105, 109, 105, 116], [114, 97, 99, 101], [98, 121], [117, 112], [100, 111, 119, 110], [110, 111, 32, 115, 117, 99, 104, 32, 114, 97, 99, 101], [97, 32, 114, 97, 99, 101, 32, 104, 97, 115, 32, 110, 111, 32, 115, 117, 99, 104, 32, 110, 117, 109, 98, 101, 114]]
def sr_SF : String := "Ljava/util/function/BiFunction;"
/-- the Strings (cells 74..81), their bytes (82..89), what the JDK's own rows need (90) -/
def sr_Str (g : sr_G) (U : State) (H : Heap) : Prop := vk_S 8 st_L st_B (fun i => g.2.2.2.1 (74 + i)) (fun i => g.2.2.2.1 (82 + i)) (sr_A g.2.2.2.1) U H ∧ (∀ i, i < 8 → vk_R (st_O.getD i "") (st_I.getD i 0) (st_T.getD i "") (g.2.2.2.1 (74 + i)) U) ∧ va_Z RJ0 "COMPACT_STRINGS" "Z" (.int 1) (sr_A g.2.2.2.1) U H ∧ (va_Z RJ3 "SIOOBE_FORMATTER" sr_SF .null (sr_A g.2.2.2.1) U H ∨ va_Z RJ3 "SIOOBE_FORMATTER" sr_SF (.ref (g.2.2.2.1 90)) (sr_A g.2.2.2.1) U H)
def sr_J (g : sr_G) (U : State) : Prop := sr_inj g.2.2.2.1 ∧ sr_Str g U U.heap
theorem sr_J.to {g : sr_G} {s U : State} {H : Heap} {locs : List Loc} (hS : va_S (sr_A g.2.2.2.1) s.heap H locs) (hU : U.heap = H) (hW : s.WarmedH U.vm) (h : sr_J g s) : sr_J g U := by
  obtain ⟨h0, h1, h2, h3, h4⟩ := h
  refine ⟨h0, ?_⟩
  rw [hU]
  exact ⟨vk_S.moved hW.alike (h1.kept hS.2.1), fun i hi => (h2 i hi).warm hW, va_Z.moved hW.alike (h3.kept hS.2.1), h4.elim (fun q => Or.inl (va_Z.moved hW.alike (q.kept hS.2.1))) (fun q => Or.inr (va_Z.moved hW.alike (q.kept hS.2.1)))⟩
theorem sr_J.call {g : sr_G} {U : State} {gf : JFrame} {mk : MethodId} {a : Array Value} (h : sr_J g U) : sr_J g (U.calling gf mk a) := by
  obtain ⟨h0, h1, h2, h3, h4⟩ := h
  exact ⟨h0, vk_S.moved (u := U) (U := U.calling gf mk a) (Vm.Alike.refl U.vm) h1, fun i hi => vk_R.same (u := U) rfl (h2 i hi), va_Z.moved (u := U) (U := U.calling gf mk a) (Vm.Alike.refl U.vm) h3, h4.elim (fun q => Or.inl (va_Z.moved (u := U) (U := U.calling gf mk a) (Vm.Alike.refl U.vm) q)) (fun q => Or.inr (va_Z.moved (u := U) (U := U.calling gf mk a) (Vm.Alike.refl U.vm) q))⟩
def sr_P (g : sr_G) (D : sr_St) (H : Heap) : Prop := va_P (g.2.1, g.2.2.1) vwCl (sr_W g.2.2.2.1 g.2.2.2.2 D) H
def sr_QC (g : sr_G) (Q : Option Value → sr_St → Prop) : Array Value → State → Outcome → State → Prop := fun _ st oc t => (∃ (r : Option Value) (D' : sr_St), oc = .returned (r.map (sr_cv g.2.2.2.1)) ∧ Q r D' ∧ sr_P g D' t.heap ∧ sr_K g t) ∧ va_F (sr_A g.2.2.2.1) st t
def sr_CX (g : sr_G) (M : sr_Md) (p : Program) (s : State) (m : MethodId) (args : Array Value) (meth : Method) (c : Code) : Prop :=
  p.tables.exec = Jvm.exec ∧ c.code = M.2.1 ∧ meth.sig.returnType = M.2.2.2.1 ∧ c.maxLocals = M.2.2.1 ∧ s.vm.findClass M.1.cls = some m.cls ∧ meth.locks = false ∧ (∀ w ∈ sr_ws, w.before args s = true) ∧ sr_K g s ∧ sr_J g s
def WP (g : sr_G) (M : sr_Md) (pc : Nat) (lv : List (Nat × Value)) (st : List Value) (D : sr_St) (Q : Option Value → sr_St → Prop) : Prop :=
  ∀ (p : Program) (e : Env) (s : State) (m : MethodId) (args : Array Value) (below : List Frame) (meth : Method) (c : Code) (H : Heap) (locs : List Loc) (ls : Array Slot),
    sr_CX g M p s m args meth c → sr_P g D H → va_S (sr_A g.2.2.2.1) s.heap H locs → lv_has ls M.2.2.1 (lv.map (sr_cl g.2.2.2.1)) →
    W p g.1 e (sr_rm M) s m args below meth c H locs 0 0 (MQ below (sr_QC g Q) args s 0 0 (sr_A g.2.2.2.1)) (F0 m pc ls (st.map (sr_cv g.2.2.2.1)))
/-- a method's contract: from the arguments av and the numbers D it returns with Q -/
def Con (g : sr_G) (M : sr_Md) (av : List Value) (D : sr_St) (Q : Option Value → sr_St → Prop) : Prop :=
  Met g.1 M.1 (.code M.1 M.2.1 M.2.2.1 M.2.2.2.1 :: sr_ws) (sr_rm M) (va_Pc (av.map (sr_cv g.2.2.2.1)) (fun U => sr_P g D U.heap ∧ sr_K g U ∧ sr_J g U)) (sr_QC g Q) 0 0 (sr_A g.2.2.2.1)
theorem sr_F0map (ad : Nat → Nat) (v : Value) (st : List Value) : (v :: st).map (sr_cv ad) = sr_cv ad v :: st.map (sr_cv ad) := rfl
theorem Con.of {g : sr_G} {M : sr_Md} {av : List Value} {D : sr_St} {Q : Option Value → sr_St → Prop} (hy : plainName M.1.cls = true) (hn : (lg_sl (av.map (sr_cv g.2.2.2.1))).length ≤ M.2.2.1) (h : WP g M 0 (lv_args 0 av) [] D Q) : Con g M av D Q := by
  refine Met.ofW (cc := M.2.1) (maxL := M.2.2.1) (ret := M.2.2.2.1) hy rfl ?_
  intro p e s m args below meth c s₁ B hml hv
  obtain ⟨rfl, hP, hK, hi⟩ := hv
  have hx := B.exec
  have hb := B.bytes
  have hr := B.returns
  have hts := atoms_spec (ws := .code M.1 M.2.1 M.2.2.1 M.2.2.2.1 :: sr_ws) B.pre
  have hown : s.vm.findClass M.1.cls = some m.cls := findClass_of_methodNamed B.named
  have hlocks := B.notSynchronized
  have hl := lv_entry (av.map (sr_cv g.2.2.2.1)) (n := M.2.2.1) hn
  rw [lg_entry_eq]
  rw [sr_args_map] at hl
  exact h p e s m _ below meth c s.heap [] _ ⟨hx, hb, hr, hml, hown, hlocks, fun w hw => hts w (List.mem_cons_of_mem _ hw), hK, hi⟩ hP va_S.rf hl
theorem Con.weaken {g : sr_G} {M : sr_Md} {av : List Value} {D : sr_St} {Q Q' : Option Value → sr_St → Prop} (h : Con g M av D Q) (hq : ∀ r D', Q r D' → Q' r D') : Con g M av D Q' := by
  intro p e ha hc hk s m args below hf happ hP hx
  obtain ⟨n, o, h1, h2, h3, ⟨⟨⟨r, D', e1, e2, e3⟩, e4⟩, e5⟩⟩ := h p e ha hc hk s m args below hf happ hP hx
  exact ⟨n, o, h1, h2, h3, ⟨⟨⟨r, D', e1, hq r D' e2, e3⟩, e4⟩, e5⟩⟩
section WPr
variable {g : sr_G} {M : sr_Md} {pc : Nat} {lv lv' : List (Nat × Value)} {st : List Value} {D : sr_St} {Q : Option Value → sr_St → Prop}
/-- fewer locals -/
theorem wp_sub (h : ∀ q ∈ lv', q ∈ lv) (k : WP g M pc lv' st D Q) : WP g M pc lv st D Q := by
  intro p e s m args below meth c H locs ls C hP hS hl
  refine k p e s m args below meth c H locs ls C hP hS ⟨hl.1, hl.2.1, fun q hq => ?_⟩
  obtain ⟨q', hq', rfl⟩ := List.mem_map.mp hq
  exact hl.2.2 _ (List.mem_map_of_mem (h q' hq'))
theorem wp_mono {Q' : Option Value → sr_St → Prop} (hq : ∀ r D', Q r D' → Q' r D') (k : WP g M pc lv st D Q) : WP g M pc lv st D Q' := by
  intro p e s m args below meth c H locs ls C hP hS hl T hT X
  obtain ⟨t, a, o, b1, b2, ⟨⟨r, D', e1, e2, e3⟩, e4⟩, b4⟩ := k p e s m args below meth c H locs ls C hP hS hl T hT X
  exact ⟨t, a, o, b1, b2, ⟨⟨r, D', e1, hq r D' e2, e3⟩, e4⟩, b4⟩
/-- a name for a number on the stack -/
theorem wp_topi {x : Int32} (k : ∀ y : Int32, y = x → WP g M pc lv (.int y :: st) D Q) : WP g M pc lv (.int x :: st) D Q := k x rfl
theorem wp_topl {x : Int64} (k : ∀ y : Int64, y = x → WP g M pc lv (.long y :: st) D Q) : WP g M pc lv (.long x :: st) D Q := k x rfl
theorem wp_D (k : ∀ E : sr_St, E = D → WP g M pc lv st E Q) : WP g M pc lv st D Q := k D rfl
def sr_get : List (Nat × Value) → Nat → Option Value
  | [], _ => none
  | (k, v) :: t, i => match Nat.beq k i with
    | true => some v
    | false => sr_get t i
theorem sr_get_mem {i : Nat} {v : Value} : ∀ {l : List (Nat × Value)}, sr_get l i = some v → (i, v) ∈ l := by
  intro l
  induction l with
  | nil => intro h; cases h
  | cons q t ih =>
    obtain ⟨k, w⟩ := q
    intro h
    unfold sr_get at h
    cases hb : Nat.beq k i with
    | true =>
      rw [hb] at h
      have hk := Nat.eq_of_beq_eq_true hb
      cases h
      subst hk
      exact List.mem_cons_self
    | false =>
      rw [hb] at h
      exact List.mem_cons_of_mem _ (ih h)
theorem sr_at {ad : Nat → Nat} {ls : Array Slot} {n i : Nat} {v : Value} (h : lv_has ls n (lv.map (sr_cl ad))) (hg : sr_get lv i = some v) : ls[i]? = some (.val (sr_cv ad v)) := h.2.2 (i, sr_cv ad v) (List.mem_map.mpr ⟨(i, v), sr_get_mem hg, rfl⟩)
def sr_del : List (Nat × Value) → Nat → Bool → List (Nat × Value)
  | [], _, _ => []
  | (k, v) :: t, i, b => match (Nat.beq k i || (Nat.beq (k + 1) i && Nat.beq v.category 2) || (b && Nat.beq k (i + 1))) with
    | true => sr_del t i b
    | false => (k, v) :: sr_del t i b
def sr_ins : List (Nat × Value) → Nat → Value → List (Nat × Value)
  | [], i, v => [(i, v)]
  | (k, w) :: t, i, v => match Nat.blt i k with
    | true => (i, v) :: (k, w) :: t
    | false => (k, w) :: sr_ins t i v
def sr_set (l : List (Nat × Value)) (i : Nat) (v : Value) (b : Bool) : List (Nat × Value) := sr_ins (sr_del l i b) i v
theorem sr_ins_mem {i : Nat} {v : Value} {q : Nat × Value} : ∀ {l : List (Nat × Value)}, q ∈ sr_ins l i v → q = (i, v) ∨ q ∈ l := by
  intro l
  induction l with
  | nil => intro h; exact Or.inl (List.mem_singleton.mp h)
  | cons w t ih =>
    intro h
    unfold sr_ins at h
    cases hb : Nat.blt i w.1 with
    | true =>
      rw [hb] at h
      exact (List.mem_cons.mp h)
    | false =>
      rw [hb] at h
      rcases List.mem_cons.mp h with h | h
      · exact Or.inr (List.mem_cons.mpr (Or.inl h))
      · exact (ih h).imp id (fun h => List.mem_cons_of_mem _ h)
theorem sr_del_mem {i : Nat} {b : Bool} {q : Nat × Value} : ∀ {l : List (Nat × Value)}, q ∈ sr_del l i b → q ∈ l ∧ ¬ q.1 = i ∧ ¬ (q.1 + 1 = i ∧ q.2.category = 2) ∧ ¬ (b = true ∧ q.1 = i + 1) := by
  intro l
  induction l with
  | nil => intro h; cases h
  | cons w t ih =>
    intro h
    unfold sr_del at h
    cases hb : (Nat.beq w.1 i || (Nat.beq (w.1 + 1) i && Nat.beq w.2.category 2) || (b && Nat.beq w.1 (i + 1))) with
    | true =>
      rw [hb] at h
      have := ih h
      exact ⟨List.mem_cons_of_mem _ this.1, this.2⟩
    | false =>
      rw [hb] at h
      rcases List.mem_cons.mp h with h | h
      · subst h
        simp only [Bool.or_eq_false_iff, Bool.and_eq_false_iff] at hb
        obtain ⟨⟨h1, h2⟩, h3⟩ := hb
        refine ⟨List.mem_cons_self, Nat.ne_of_beq_eq_false h1, fun e => ?_, fun e => ?_⟩
        · rcases h2 with h2 | h2
          · exact Nat.ne_of_beq_eq_false h2 e.1
          · exact Nat.ne_of_beq_eq_false h2 e.2
        · rcases h3 with h3 | h3
          · rw [e.1] at h3; cases h3
          · exact Nat.ne_of_beq_eq_false h3 e.2
      · have := ih h
        exact ⟨List.mem_cons_of_mem _ this.1, this.2⟩
theorem sr_set_sub1 {ad : Nat → Nat} {ls : Array Slot} {n i : Nat} {v : Value} (h : lv_has ls n ((i, sr_cv ad v) :: (lv.map (sr_cl ad)).filter (fun q => !(q.1 == i) && !(q.1 + 1 == i && q.2.category == 2)))) : lv_has ls n ((sr_set lv i v false).map (sr_cl ad)) := by
  refine ⟨h.1, h.2.1, fun q hq => ?_⟩
  obtain ⟨q', hq', rfl⟩ := List.mem_map.mp hq
  rcases sr_ins_mem hq' with e | e
  · subst e
    exact h.2.2 _ List.mem_cons_self
  · obtain ⟨e1, e2, e3, -⟩ := sr_del_mem e
    refine h.2.2 _ (List.mem_cons_of_mem _ (List.mem_filter.mpr ⟨List.mem_map_of_mem e1, ?_⟩))
    simp only [sr_cl, sr_cv_cat, Bool.and_eq_true, Bool.not_eq_true', beq_eq_false_iff_ne, ne_eq, Bool.and_eq_false_iff]
    exact ⟨e2, (Decidable.em (q'.1 + 1 = i)).elim (fun h => Or.inr (fun h2 => e3 ⟨h, h2⟩)) (fun h => Or.inl h)⟩
theorem sr_set_sub2 {ad : Nat → Nat} {ls : Array Slot} {n i : Nat} {v : Value} (h : lv_has ls n ((i, sr_cv ad v) :: (lv.map (sr_cl ad)).filter (fun q => !(q.1 == i) && (!(q.1 == i + 1) && !(q.1 + 1 == i && q.2.category == 2))))) : lv_has ls n ((sr_set lv i v true).map (sr_cl ad)) := by
  refine ⟨h.1, h.2.1, fun q hq => ?_⟩
  obtain ⟨q', hq', rfl⟩ := List.mem_map.mp hq
  rcases sr_ins_mem hq' with e | e
  · subst e
    exact h.2.2 _ List.mem_cons_self
  · obtain ⟨e1, e2, e3, e4⟩ := sr_del_mem e
    refine h.2.2 _ (List.mem_cons_of_mem _ (List.mem_filter.mpr ⟨List.mem_map_of_mem e1, ?_⟩))
    simp only [sr_cl, sr_cv_cat, Bool.and_eq_true, Bool.not_eq_true', beq_eq_false_iff_ne, ne_eq, Bool.and_eq_false_iff]
    exact ⟨e2, fun h => e4 ⟨rfl, h⟩, (Decidable.em (q'.1 + 1 = i)).elim (fun h => Or.inr (fun h2 => e3 ⟨h, h2⟩)) (fun h => Or.inl h)⟩
theorem wp_iconst {n : Int} {v : Int32} (hd : decode M.2.1 pc = .ok (.iconst n, 1)) (hv : Int32.ofInt n = v) (k : WP g M (pc + 1) lv (.int v :: st) D Q) : WP g M pc lv st D Q := by
  intro p e s m args below meth c H locs ls C hP hS hl
  exact lv_iconst C.1 C.2.1 hd hv (k p e s m args below meth c H locs ls C hP hS hl)
theorem wp_bipush {n : Int} {v : Int32} (hd : decode M.2.1 pc = .ok (.bipush n, 2)) (hv : (Int8.ofInt n).toInt32 = v) (k : WP g M (pc + 2) lv (.int v :: st) D Q) : WP g M pc lv st D Q := by
  intro p e s m args below meth c H locs ls C hP hS hl
  exact lv_bipush C.1 C.2.1 hd hv (k p e s m args below meth c H locs ls C hP hS hl)
theorem wp_sipush {n : Int} {v : Int32} (hd : decode M.2.1 pc = .ok (.sipush n, 3)) (hv : (Int16.ofInt n).toInt32 = v) (k : WP g M (pc + 3) lv (.int v :: st) D Q) : WP g M pc lv st D Q := by
  intro p e s m args below meth c H locs ls C hP hS hl
  exact lv_sipush C.1 C.2.1 hd hv (k p e s m args below meth c H locs ls C hP hS hl)
theorem wp_lconst {n : Fin 2} {v : Int64} (hd : decode M.2.1 pc = .ok (.lconst n, 1)) (hv : Int64.ofNat (n : Nat) = v) (k : WP g M (pc + 1) lv (.long v :: st) D Q) : WP g M pc lv st D Q := by
  intro p e s m args below meth c H locs ls C hP hS hl
  exact lv_lconst C.1 C.2.1 hd hv (k p e s m args below meth c H locs ls C hP hS hl)
theorem wp_ldc {i : Nat} {v : Int32} (hd : decode M.2.1 pc = .ok (.ldc i, 2)) (hc : Cond.constant M.1.cls i v ∈ sr_ws) (k : WP g M (pc + 2) lv (.int v :: st) D Q) : WP g M pc lv st D Q := by
  intro p e s m args below meth c H locs ls C hP hS hl
  exact lv_ldc C.1 C.2.1 C.2.2.2.2.1 (C.2.2.2.2.2.2.1 _ hc) hd (k p e s m args below meth c H locs ls C hP hS hl)
theorem wp_ldc2 {i : Nat} {v : Int64} (hd : decode M.2.1 pc = .ok (.ldc2_w i, 3)) (hc : Cond.constantLong M.1.cls i v ∈ sr_ws) (k : WP g M (pc + 3) lv (.long v :: st) D Q) : WP g M pc lv st D Q := by
  intro p e s m args below meth c H locs ls C hP hS hl
  exact lv_ldc2 C.1 C.2.1 C.2.2.2.2.1 (C.2.2.2.2.2.2.1 _ hc) hd (k p e s m args below meth c H locs ls C hP hS hl)
theorem wp_iload_n {n : Fin 4} {i : Nat} {x : Int32} (hd : decode M.2.1 pc = .ok (.iload_n n, 1)) (hi : (n : Nat) = i) (hg : sr_get lv i = some (.int x)) (k : WP g M (pc + 1) lv (.int x :: st) D Q) : WP g M pc lv st D Q := by
  intro p e s m args below meth c H locs ls C hP hS hl
  exact lv_iload_n C.1 C.2.1 hd hi (sr_at hl hg) (k p e s m args below meth c H locs ls C hP hS hl)
theorem wp_iload {i : Nat} {x : Int32} (hd : decode M.2.1 pc = .ok (.iload i, 2)) (hg : sr_get lv i = some (.int x)) (k : WP g M (pc + 2) lv (.int x :: st) D Q) : WP g M pc lv st D Q := by
  intro p e s m args below meth c H locs ls C hP hS hl
  exact lv_iload C.1 C.2.1 hd (sr_at hl hg) (k p e s m args below meth c H locs ls C hP hS hl)
theorem wp_istore_n {n : Fin 4} {i : Nat} {x : Int32} (hd : decode M.2.1 pc = .ok (.istore_n n, 1)) (hi : (n : Nat) = i) (hn : i < M.2.2.1) (hs : sr_set lv i (.int x) false = lv') (k : WP g M (pc + 1) lv' st D Q) : WP g M pc lv (.int x :: st) D Q := by
  intro p e s m args below meth c H locs ls C hP hS hl
  subst hs
  exact lv_istore_n C.1 C.2.1 hd hi hl hn rfl (fun ls' hl' => k p e s m args below meth c H locs ls' C hP hS (sr_set_sub1 hl'))
theorem wp_istore {i : Nat} {x : Int32} (hd : decode M.2.1 pc = .ok (.istore i, 2)) (hn : i < M.2.2.1) (hs : sr_set lv i (.int x) false = lv') (k : WP g M (pc + 2) lv' st D Q) : WP g M pc lv (.int x :: st) D Q := by
  intro p e s m args below meth c H locs ls C hP hS hl
  subst hs
  exact lv_istore C.1 C.2.1 hd hl hn rfl (fun ls' hl' => k p e s m args below meth c H locs ls' C hP hS (sr_set_sub1 hl'))
theorem wp_lload_n {n : Fin 4} {i : Nat} {x : Int64} (hd : decode M.2.1 pc = .ok (.lload_n n, 1)) (hi : (n : Nat) = i) (hg : sr_get lv i = some (.long x)) (k : WP g M (pc + 1) lv (.long x :: st) D Q) : WP g M pc lv st D Q := by
  intro p e s m args below meth c H locs ls C hP hS hl
  exact lv_lload_n C.1 C.2.1 hd hi (sr_at hl hg) (k p e s m args below meth c H locs ls C hP hS hl)
theorem wp_lload {i : Nat} {x : Int64} (hd : decode M.2.1 pc = .ok (.lload i, 2)) (hg : sr_get lv i = some (.long x)) (k : WP g M (pc + 2) lv (.long x :: st) D Q) : WP g M pc lv st D Q := by
  intro p e s m args below meth c H locs ls C hP hS hl
  exact lv_lload C.1 C.2.1 hd (sr_at hl hg) (k p e s m args below meth c H locs ls C hP hS hl)
theorem wp_lstore_n {n : Fin 4} {i : Nat} {x : Int64} (hd : decode M.2.1 pc = .ok (.lstore_n n, 1)) (hi : (n : Nat) = i) (hn : i + 1 < M.2.2.1) (hs : sr_set lv i (.long x) true = lv') (k : WP g M (pc + 1) lv' st D Q) : WP g M pc lv (.long x :: st) D Q := by
  intro p e s m args below meth c H locs ls C hP hS hl
  subst hs
  exact lv_lstore_n C.1 C.2.1 hd hi hl hn rfl (fun ls' hl' => k p e s m args below meth c H locs ls' C hP hS (sr_set_sub2 hl'))
theorem wp_lstore {i : Nat} {x : Int64} (hd : decode M.2.1 pc = .ok (.lstore i, 2)) (hn : i + 1 < M.2.2.1) (hs : sr_set lv i (.long x) true = lv') (k : WP g M (pc + 2) lv' st D Q) : WP g M pc lv (.long x :: st) D Q := by
  intro p e s m args below meth c H locs ls C hP hS hl
  subst hs
  exact lv_lstore C.1 C.2.1 hd hl hn rfl (fun ls' hl' => k p e s m args below meth c H locs ls' C hP hS (sr_set_sub2 hl'))
theorem wp_aload_n {n : Fin 4} {i : Nat} {x : Nat} (hd : decode M.2.1 pc = .ok (.aload_n n, 1)) (hi : (n : Nat) = i) (hg : sr_get lv i = some (.ref x)) (k : WP g M (pc + 1) lv (.ref x :: st) D Q) : WP g M pc lv st D Q := by
  intro p e s m args below meth c H locs ls C hP hS hl
  exact lv_aload_n C.1 C.2.1 hd hi (sr_at hl hg) (k p e s m args below meth c H locs ls C hP hS hl)
theorem wp_aload {i : Nat} {x : Nat} (hd : decode M.2.1 pc = .ok (.aload i, 2)) (hg : sr_get lv i = some (.ref x)) (k : WP g M (pc + 2) lv (.ref x :: st) D Q) : WP g M pc lv st D Q := by
  intro p e s m args below meth c H locs ls C hP hS hl
  exact lv_aload C.1 C.2.1 hd (sr_at hl hg) (k p e s m args below meth c H locs ls C hP hS hl)
theorem wp_astore_n {n : Fin 4} {i : Nat} {x : Nat} (hd : decode M.2.1 pc = .ok (.astore_n n, 1)) (hi : (n : Nat) = i) (hn : i < M.2.2.1) (hs : sr_set lv i (.ref x) false = lv') (k : WP g M (pc + 1) lv' st D Q) : WP g M pc lv (.ref x :: st) D Q := by
  intro p e s m args below meth c H locs ls C hP hS hl
  subst hs
  exact lv_astore_n C.1 C.2.1 hd hi hl hn rfl (fun ls' hl' => k p e s m args below meth c H locs ls' C hP hS (sr_set_sub1 hl'))
theorem wp_astore {i : Nat} {x : Nat} (hd : decode M.2.1 pc = .ok (.astore i, 2)) (hn : i < M.2.2.1) (hs : sr_set lv i (.ref x) false = lv') (k : WP g M (pc + 2) lv' st D Q) : WP g M pc lv (.ref x :: st) D Q := by
  intro p e s m args below meth c H locs ls C hP hS hl
  subst hs
  exact lv_astore C.1 C.2.1 hd hl hn rfl (fun ls' hl' => k p e s m args below meth c H locs ls' C hP hS (sr_set_sub1 hl'))
theorem wp_iinc {i : Nat} {n : Int} {x v : Int32} (hd : decode M.2.1 pc = .ok (.iinc i n, 3)) (hg : sr_get lv i = some (.int x)) (hv : x + Int32.ofInt n = v) (hn : i < M.2.2.1) (hs : sr_set lv i (.int v) false = lv') (k : WP g M (pc + 3) lv' st D Q) : WP g M pc lv st D Q := by
  intro p e s m args below meth c H locs ls C hP hS hl
  subst hs
  obtain ⟨j, hj⟩ := List.getElem?_of_mem (List.mem_map.mpr ⟨(i, .int x), sr_get_mem hg, rfl⟩ : (i, Value.int x) ∈ lv.map (sr_cl g.2.2.2.1))
  exact lv_iinc C.1 C.2.1 hd hl hj hv hn rfl (fun ls' hl' => k p e s m args below meth c H locs ls' C hP hS (sr_set_sub1 (v := .int v) hl'))
theorem wp_iadd {x y : Int32} (hd : decode M.2.1 pc = .ok (.iadd, 1)) (k : WP g M (pc + 1) lv (.int (x + y) :: st) D Q) : WP g M pc lv (.int y :: .int x :: st) D Q := by
  intro p e s m args below meth c H locs ls C hP hS hl
  exact lv_iadd C.1 C.2.1 hd  (k p e s m args below meth c H locs ls C hP hS hl)
theorem wp_isub {x y : Int32} (hd : decode M.2.1 pc = .ok (.isub, 1)) (k : WP g M (pc + 1) lv (.int (x - y) :: st) D Q) : WP g M pc lv (.int y :: .int x :: st) D Q := by
  intro p e s m args below meth c H locs ls C hP hS hl
  exact lv_isub C.1 C.2.1 hd  (k p e s m args below meth c H locs ls C hP hS hl)
theorem wp_imul {x y : Int32} (hd : decode M.2.1 pc = .ok (.imul, 1)) (k : WP g M (pc + 1) lv (.int (x * y) :: st) D Q) : WP g M pc lv (.int y :: .int x :: st) D Q := by
  intro p e s m args below meth c H locs ls C hP hS hl
  exact lv_imul C.1 C.2.1 hd  (k p e s m args below meth c H locs ls C hP hS hl)
theorem wp_iand {x y : Int32} (hd : decode M.2.1 pc = .ok (.iand, 1)) (k : WP g M (pc + 1) lv (.int (x &&& y) :: st) D Q) : WP g M pc lv (.int y :: .int x :: st) D Q := by
  intro p e s m args below meth c H locs ls C hP hS hl
  exact lv_iand C.1 C.2.1 hd  (k p e s m args below meth c H locs ls C hP hS hl)
theorem wp_ior {x y : Int32} (hd : decode M.2.1 pc = .ok (.ior, 1)) (k : WP g M (pc + 1) lv (.int (x ||| y) :: st) D Q) : WP g M pc lv (.int y :: .int x :: st) D Q := by
  intro p e s m args below meth c H locs ls C hP hS hl
  exact lv_ior C.1 C.2.1 hd  (k p e s m args below meth c H locs ls C hP hS hl)
theorem wp_ixor {x y : Int32} (hd : decode M.2.1 pc = .ok (.ixor, 1)) (k : WP g M (pc + 1) lv (.int (x ^^^ y) :: st) D Q) : WP g M pc lv (.int y :: .int x :: st) D Q := by
  intro p e s m args below meth c H locs ls C hP hS hl
  exact lv_ixor C.1 C.2.1 hd  (k p e s m args below meth c H locs ls C hP hS hl)
theorem wp_ladd {x y : Int64} (hd : decode M.2.1 pc = .ok (.ladd, 1)) (k : WP g M (pc + 1) lv (.long (x + y) :: st) D Q) : WP g M pc lv (.long y :: .long x :: st) D Q := by
  intro p e s m args below meth c H locs ls C hP hS hl
  exact lv_ladd C.1 C.2.1 hd  (k p e s m args below meth c H locs ls C hP hS hl)
theorem wp_lsub {x y : Int64} (hd : decode M.2.1 pc = .ok (.lsub, 1)) (k : WP g M (pc + 1) lv (.long (x - y) :: st) D Q) : WP g M pc lv (.long y :: .long x :: st) D Q := by
  intro p e s m args below meth c H locs ls C hP hS hl
  exact lv_lsub C.1 C.2.1 hd  (k p e s m args below meth c H locs ls C hP hS hl)
theorem wp_lmul {x y : Int64} (hd : decode M.2.1 pc = .ok (.lmul, 1)) (k : WP g M (pc + 1) lv (.long (x * y) :: st) D Q) : WP g M pc lv (.long y :: .long x :: st) D Q := by
  intro p e s m args below meth c H locs ls C hP hS hl
  exact lv_lmul C.1 C.2.1 hd  (k p e s m args below meth c H locs ls C hP hS hl)
theorem wp_idiv {x y : Int32} (hd : decode M.2.1 pc = .ok (.idiv, 1)) (hne : ¬ y = 0) (k : WP g M (pc + 1) lv (.int (x / y) :: st) D Q) : WP g M pc lv (.int y :: .int x :: st) D Q := by
  intro p e s m args below meth c H locs ls C hP hS hl
  exact lv_idiv C.1 C.2.1 hd hne (k p e s m args below meth c H locs ls C hP hS hl)
theorem wp_irem {x y : Int32} (hd : decode M.2.1 pc = .ok (.irem, 1)) (hne : ¬ y = 0) (k : WP g M (pc + 1) lv (.int (x - x / y * y) :: st) D Q) : WP g M pc lv (.int y :: .int x :: st) D Q := by
  intro p e s m args below meth c H locs ls C hP hS hl
  exact lv_irem C.1 C.2.1 hd hne (k p e s m args below meth c H locs ls C hP hS hl)
theorem wp_ldiv {x y : Int64} (hd : decode M.2.1 pc = .ok (.ldiv, 1)) (hne : ¬ y = 0) (k : WP g M (pc + 1) lv (.long (x / y) :: st) D Q) : WP g M pc lv (.long y :: .long x :: st) D Q := by
  intro p e s m args below meth c H locs ls C hP hS hl
  exact lv_ldiv C.1 C.2.1 hd hne (k p e s m args below meth c H locs ls C hP hS hl)
theorem wp_lrem {x y : Int64} (hd : decode M.2.1 pc = .ok (.lrem, 1)) (hne : ¬ y = 0) (k : WP g M (pc + 1) lv (.long (x - x / y * y) :: st) D Q) : WP g M pc lv (.long y :: .long x :: st) D Q := by
  intro p e s m args below meth c H locs ls C hP hS hl
  exact lv_lrem C.1 C.2.1 hd hne (k p e s m args below meth c H locs ls C hP hS hl)
theorem wp_ineg {x : Int32} (hd : decode M.2.1 pc = .ok (.ineg, 1)) (k : WP g M (pc + 1) lv (.int (-x) :: st) D Q) : WP g M pc lv (.int x :: st) D Q := by
  intro p e s m args below meth c H locs ls C hP hS hl
  exact lv_ineg C.1 C.2.1 hd  (k p e s m args below meth c H locs ls C hP hS hl)
theorem wp_lneg {x : Int64} (hd : decode M.2.1 pc = .ok (.lneg, 1)) (k : WP g M (pc + 1) lv (.long (-x) :: st) D Q) : WP g M pc lv (.long x :: st) D Q := by
  intro p e s m args below meth c H locs ls C hP hS hl
  exact lv_lneg C.1 C.2.1 hd  (k p e s m args below meth c H locs ls C hP hS hl)
theorem wp_ishl {x y : Int32} (hd : decode M.2.1 pc = .ok (.ishl, 1)) (k : WP g M (pc + 1) lv (.int (x <<< (y &&& 31)) :: st) D Q) : WP g M pc lv (.int y :: .int x :: st) D Q := by
  intro p e s m args below meth c H locs ls C hP hS hl
  exact lv_ishl C.1 C.2.1 hd  (k p e s m args below meth c H locs ls C hP hS hl)
theorem wp_ishr {x y : Int32} (hd : decode M.2.1 pc = .ok (.ishr, 1)) (k : WP g M (pc + 1) lv (.int (x >>> (y &&& 31)) :: st) D Q) : WP g M pc lv (.int y :: .int x :: st) D Q := by
  intro p e s m args below meth c H locs ls C hP hS hl
  exact lv_ishr C.1 C.2.1 hd  (k p e s m args below meth c H locs ls C hP hS hl)
theorem wp_i2l {x : Int32} (hd : decode M.2.1 pc = .ok (.i2l, 1)) (k : WP g M (pc + 1) lv (.long x.toInt64 :: st) D Q) : WP g M pc lv (.int x :: st) D Q := by
  intro p e s m args below meth c H locs ls C hP hS hl
  exact lv_i2l C.1 C.2.1 hd rfl (k p e s m args below meth c H locs ls C hP hS hl)
theorem wp_i2b {x : Int32} (hd : decode M.2.1 pc = .ok (.i2b, 1)) (k : WP g M (pc + 1) lv (.int x.toInt8.toInt32 :: st) D Q) : WP g M pc lv (.int x :: st) D Q := by
  intro p e s m args below meth c H locs ls C hP hS hl
  exact lv_i2b C.1 C.2.1 hd rfl (k p e s m args below meth c H locs ls C hP hS hl)
theorem wp_dup {v : Value} (hd : decode M.2.1 pc = .ok (.dup, 1)) (hv : v.category = 1) (k : WP g M (pc + 1) lv (v :: v :: st) D Q) : WP g M pc lv (v :: st) D Q := by
  intro p e s m args below meth c H locs ls C hP hS hl
  exact lv_dup C.1 C.2.1 hd ((sr_cv_cat _ v).trans hv) (k p e s m args below meth c H locs ls C hP hS hl)
theorem wp_pop {v : Value} (hd : decode M.2.1 pc = .ok (.pop, 1)) (hv : v.category = 1) (k : WP g M (pc + 1) lv st D Q) : WP g M pc lv (v :: st) D Q := by
  intro p e s m args below meth c H locs ls C hP hS hl
  exact lv_pop C.1 C.2.1 hd ((sr_cv_cat _ v).trans hv) (k p e s m args below meth c H locs ls C hP hS hl)
theorem wp_dup2 {v w : Value} (hd : decode M.2.1 pc = .ok (.dup2, 1)) (hv : v.category = 1) (hw : w.category = 1) (k : WP g M (pc + 1) lv (v :: w :: v :: w :: st) D Q) : WP g M pc lv (v :: w :: st) D Q := by
  intro p e s m args below meth c H locs ls C hP hS hl
  exact lv_dup2_11 C.1 C.2.1 hd ((sr_cv_cat _ v).trans hv) ((sr_cv_cat _ w).trans hw) (k p e s m args below meth c H locs ls C hP hS hl)
theorem wp_goto {off : Int} {tgt : Nat} (hd : decode M.2.1 pc = .ok (.goto off, 3)) (ht : (pc : Int) + off = (tgt : Int)) (k : WP g M tgt lv st D Q) : WP g M pc lv st D Q := by
  intro p e s m args below meth c H locs ls C hP hS hl
  exact lv_goto C.1 C.2.1 hd ht (k p e s m args below meth c H locs ls C hP hS hl)
theorem wp_if_eq {x : Int32} {off : Int} {tgt : Nat} (hd : decode M.2.1 pc = .ok (.ifCond .eq off, 3)) (ht : (pc : Int) + off = (tgt : Int)) (kt : x = 0 → WP g M tgt lv st D Q) (kf : ¬ (x = 0) → WP g M (pc + 3) lv st D Q) : WP g M pc lv (.int x :: st) D Q := by
  intro p e s m args below meth c H locs ls C hP hS hl
  exact lv_if_eq C.1 C.2.1 hd ht (fun q => kt q p e s m args below meth c H locs ls C hP hS hl) (fun q => kf q p e s m args below meth c H locs ls C hP hS hl)
theorem wp_icmp_eq {x y : Int32} {off : Int} {tgt : Nat} (hd : decode M.2.1 pc = .ok (.if_icmp .eq off, 3)) (ht : (pc : Int) + off = (tgt : Int)) (kt : x = y → WP g M tgt lv st D Q) (kf : ¬ (x = y) → WP g M (pc + 3) lv st D Q) : WP g M pc lv (.int y :: .int x :: st) D Q := by
  intro p e s m args below meth c H locs ls C hP hS hl
  exact lv_icmp_eq C.1 C.2.1 hd ht (fun q => kt q p e s m args below meth c H locs ls C hP hS hl) (fun q => kf q p e s m args below meth c H locs ls C hP hS hl)
theorem wp_if_ne {x : Int32} {off : Int} {tgt : Nat} (hd : decode M.2.1 pc = .ok (.ifCond .ne off, 3)) (ht : (pc : Int) + off = (tgt : Int)) (kt : ¬ x = 0 → WP g M tgt lv st D Q) (kf : x = 0 → WP g M (pc + 3) lv st D Q) : WP g M pc lv (.int x :: st) D Q := by
  intro p e s m args below meth c H locs ls C hP hS hl
  exact lv_if_ne C.1 C.2.1 hd ht (fun q => kt q p e s m args below meth c H locs ls C hP hS hl) (fun q => kf q p e s m args below meth c H locs ls C hP hS hl)
theorem wp_icmp_ne {x y : Int32} {off : Int} {tgt : Nat} (hd : decode M.2.1 pc = .ok (.if_icmp .ne off, 3)) (ht : (pc : Int) + off = (tgt : Int)) (kt : ¬ x = y → WP g M tgt lv st D Q) (kf : x = y → WP g M (pc + 3) lv st D Q) : WP g M pc lv (.int y :: .int x :: st) D Q := by
  intro p e s m args below meth c H locs ls C hP hS hl
  exact lv_icmp_ne C.1 C.2.1 hd ht (fun q => kt q p e s m args below meth c H locs ls C hP hS hl) (fun q => kf q p e s m args below meth c H locs ls C hP hS hl)
theorem wp_if_lt {x : Int32} {off : Int} {tgt : Nat} (hd : decode M.2.1 pc = .ok (.ifCond .lt off, 3)) (ht : (pc : Int) + off = (tgt : Int)) (kt : x < 0 → WP g M tgt lv st D Q) (kf : ¬ (x < 0) → WP g M (pc + 3) lv st D Q) : WP g M pc lv (.int x :: st) D Q := by
  intro p e s m args below meth c H locs ls C hP hS hl
  exact lv_if_lt C.1 C.2.1 hd ht (fun q => kt q p e s m args below meth c H locs ls C hP hS hl) (fun q => kf q p e s m args below meth c H locs ls C hP hS hl)
theorem wp_icmp_lt {x y : Int32} {off : Int} {tgt : Nat} (hd : decode M.2.1 pc = .ok (.if_icmp .lt off, 3)) (ht : (pc : Int) + off = (tgt : Int)) (kt : x < y → WP g M tgt lv st D Q) (kf : ¬ (x < y) → WP g M (pc + 3) lv st D Q) : WP g M pc lv (.int y :: .int x :: st) D Q := by
  intro p e s m args below meth c H locs ls C hP hS hl
  exact lv_icmp_lt C.1 C.2.1 hd ht (fun q => kt q p e s m args below meth c H locs ls C hP hS hl) (fun q => kf q p e s m args below meth c H locs ls C hP hS hl)
theorem wp_if_ge {x : Int32} {off : Int} {tgt : Nat} (hd : decode M.2.1 pc = .ok (.ifCond .ge off, 3)) (ht : (pc : Int) + off = (tgt : Int)) (kt : 0 ≤ x → WP g M tgt lv st D Q) (kf : ¬ (0 ≤ x) → WP g M (pc + 3) lv st D Q) : WP g M pc lv (.int x :: st) D Q := by
  intro p e s m args below meth c H locs ls C hP hS hl
  exact lv_if_ge C.1 C.2.1 hd ht (fun q => kt q p e s m args below meth c H locs ls C hP hS hl) (fun q => kf q p e s m args below meth c H locs ls C hP hS hl)
theorem wp_icmp_ge {x y : Int32} {off : Int} {tgt : Nat} (hd : decode M.2.1 pc = .ok (.if_icmp .ge off, 3)) (ht : (pc : Int) + off = (tgt : Int)) (kt : y ≤ x → WP g M tgt lv st D Q) (kf : ¬ (y ≤ x) → WP g M (pc + 3) lv st D Q) : WP g M pc lv (.int y :: .int x :: st) D Q := by
  intro p e s m args below meth c H locs ls C hP hS hl
  exact lv_icmp_ge C.1 C.2.1 hd ht (fun q => kt q p e s m args below meth c H locs ls C hP hS hl) (fun q => kf q p e s m args below meth c H locs ls C hP hS hl)
theorem wp_if_gt {x : Int32} {off : Int} {tgt : Nat} (hd : decode M.2.1 pc = .ok (.ifCond .gt off, 3)) (ht : (pc : Int) + off = (tgt : Int)) (kt : 0 < x → WP g M tgt lv st D Q) (kf : ¬ (0 < x) → WP g M (pc + 3) lv st D Q) : WP g M pc lv (.int x :: st) D Q := by
  intro p e s m args below meth c H locs ls C hP hS hl
  exact lv_if_gt C.1 C.2.1 hd ht (fun q => kt q p e s m args below meth c H locs ls C hP hS hl) (fun q => kf q p e s m args below meth c H locs ls C hP hS hl)
theorem wp_icmp_gt {x y : Int32} {off : Int} {tgt : Nat} (hd : decode M.2.1 pc = .ok (.if_icmp .gt off, 3)) (ht : (pc : Int) + off = (tgt : Int)) (kt : y < x → WP g M tgt lv st D Q) (kf : ¬ (y < x) → WP g M (pc + 3) lv st D Q) : WP g M pc lv (.int y :: .int x :: st) D Q := by
  intro p e s m args below meth c H locs ls C hP hS hl
  exact lv_icmp_gt C.1 C.2.1 hd ht (fun q => kt q p e s m args below meth c H locs ls C hP hS hl) (fun q => kf q p e s m args below meth c H locs ls C hP hS hl)
theorem wp_if_le {x : Int32} {off : Int} {tgt : Nat} (hd : decode M.2.1 pc = .ok (.ifCond .le off, 3)) (ht : (pc : Int) + off = (tgt : Int)) (kt : x ≤ 0 → WP g M tgt lv st D Q) (kf : ¬ (x ≤ 0) → WP g M (pc + 3) lv st D Q) : WP g M pc lv (.int x :: st) D Q := by
  intro p e s m args below meth c H locs ls C hP hS hl
  exact lv_if_le C.1 C.2.1 hd ht (fun q => kt q p e s m args below meth c H locs ls C hP hS hl) (fun q => kf q p e s m args below meth c H locs ls C hP hS hl)
theorem wp_icmp_le {x y : Int32} {off : Int} {tgt : Nat} (hd : decode M.2.1 pc = .ok (.if_icmp .le off, 3)) (ht : (pc : Int) + off = (tgt : Int)) (kt : x ≤ y → WP g M tgt lv st D Q) (kf : ¬ (x ≤ y) → WP g M (pc + 3) lv st D Q) : WP g M pc lv (.int y :: .int x :: st) D Q := by
  intro p e s m args below meth c H locs ls C hP hS hl
  exact lv_icmp_le C.1 C.2.1 hd ht (fun q => kt q p e s m args below meth c H locs ls C hP hS hl) (fun q => kf q p e s m args below meth c H locs ls C hP hS hl)
theorem wp_lcmp {x y : Int64} (hd : decode M.2.1 pc = .ok (.lcmp, 1)) (k : WP g M (pc + 1) lv (.int (lg_cmp x y) :: st) D Q) : WP g M pc lv (.long y :: .long x :: st) D Q := by
  intro p e s m args below meth c H locs ls C hP hS hl
  exact W.lcmp C.1 C.2.1 hd  (k p e s m args below meth c H locs ls C hP hS hl)
theorem sr_cmp_eq (x y : Int64) : lg_cmp x y = 0 ↔ x = y := by
  unfold lg_cmp
  simp only [gt_iff_lt, Int64.lt_iff_toInt_lt, ← Int64.toInt_inj]
  repeat' split
  all_goals (constructor <;> intro h <;> first | omega | decide | (exfalso; revert h; decide))
theorem sr_cmp_lt (x y : Int64) : lg_cmp x y < 0 ↔ x < y := by
  unfold lg_cmp
  simp only [gt_iff_lt, Int64.lt_iff_toInt_lt, ← Int64.toInt_inj]
  repeat' split
  all_goals (constructor <;> intro h <;> first | omega | decide | (exfalso; revert h; decide))
theorem sr_cmp_gt (x y : Int64) : 0 < lg_cmp x y ↔ y < x := by
  unfold lg_cmp
  simp only [gt_iff_lt, Int64.lt_iff_toInt_lt, ← Int64.toInt_inj]
  repeat' split
  all_goals (constructor <;> intro h <;> first | omega | decide | (exfalso; revert h; decide))
theorem sr_cmp_le (x y : Int64) : lg_cmp x y ≤ 0 ↔ x ≤ y := by
  unfold lg_cmp
  simp only [gt_iff_lt, Int64.lt_iff_toInt_lt, Int64.le_iff_toInt_le, ← Int64.toInt_inj]
  repeat' split
  all_goals (constructor <;> intro h <;> first | omega | decide | (exfalso; revert h; decide))
theorem wp_lcmp_eq {x y : Int64} {off : Int} {tgt : Nat} (hd1 : decode M.2.1 pc = .ok (.lcmp, 1)) (hd : decode M.2.1 (pc + 1) = .ok (.ifCond .eq off, 3)) (ht : ((pc + 1 : Nat) : Int) + off = (tgt : Int)) (kt : x = y → WP g M tgt lv st D Q) (kf : ¬ (x = y) → WP g M (pc + 4) lv st D Q) : WP g M pc lv (.long y :: .long x :: st) D Q :=
  wp_lcmp hd1 (wp_if_eq hd ht (fun q => kt ((sr_cmp_eq x y).mp q)) (fun q => kf (fun z => q ((sr_cmp_eq x y).mpr z))))
theorem wp_lcmp_ne {x y : Int64} {off : Int} {tgt : Nat} (hd1 : decode M.2.1 pc = .ok (.lcmp, 1)) (hd : decode M.2.1 (pc + 1) = .ok (.ifCond .ne off, 3)) (ht : ((pc + 1 : Nat) : Int) + off = (tgt : Int)) (kt : ¬ x = y → WP g M tgt lv st D Q) (kf : x = y → WP g M (pc + 4) lv st D Q) : WP g M pc lv (.long y :: .long x :: st) D Q :=
  wp_lcmp hd1 (wp_if_ne hd ht (fun q => kt (fun z => q ((sr_cmp_eq x y).mpr z))) (fun q => kf ((sr_cmp_eq x y).mp q)))
theorem wp_lcmp_lt {x y : Int64} {off : Int} {tgt : Nat} (hd1 : decode M.2.1 pc = .ok (.lcmp, 1)) (hd : decode M.2.1 (pc + 1) = .ok (.ifCond .lt off, 3)) (ht : ((pc + 1 : Nat) : Int) + off = (tgt : Int)) (kt : x < y → WP g M tgt lv st D Q) (kf : ¬ (x < y) → WP g M (pc + 4) lv st D Q) : WP g M pc lv (.long y :: .long x :: st) D Q :=
  wp_lcmp hd1 (wp_if_lt hd ht (fun q => kt ((sr_cmp_lt x y).mp q)) (fun q => kf (fun z => q ((sr_cmp_lt x y).mpr z))))
theorem wp_lcmp_ge {x y : Int64} {off : Int} {tgt : Nat} (hd1 : decode M.2.1 pc = .ok (.lcmp, 1)) (hd : decode M.2.1 (pc + 1) = .ok (.ifCond .ge off, 3)) (ht : ((pc + 1 : Nat) : Int) + off = (tgt : Int)) (kt : y ≤ x → WP g M tgt lv st D Q) (kf : ¬ (y ≤ x) → WP g M (pc + 4) lv st D Q) : WP g M pc lv (.long y :: .long x :: st) D Q :=
  wp_lcmp hd1 (wp_if_ge hd ht (fun q => kt ((lg_cmp_ge x y).mp q)) (fun q => kf (fun z => q ((lg_cmp_ge x y).mpr z))))
theorem wp_lcmp_gt {x y : Int64} {off : Int} {tgt : Nat} (hd1 : decode M.2.1 pc = .ok (.lcmp, 1)) (hd : decode M.2.1 (pc + 1) = .ok (.ifCond .gt off, 3)) (ht : ((pc + 1 : Nat) : Int) + off = (tgt : Int)) (kt : y < x → WP g M tgt lv st D Q) (kf : ¬ (y < x) → WP g M (pc + 4) lv st D Q) : WP g M pc lv (.long y :: .long x :: st) D Q :=
  wp_lcmp hd1 (wp_if_gt hd ht (fun q => kt ((sr_cmp_gt x y).mp q)) (fun q => kf (fun z => q ((sr_cmp_gt x y).mpr z))))
theorem wp_lcmp_le {x y : Int64} {off : Int} {tgt : Nat} (hd1 : decode M.2.1 pc = .ok (.lcmp, 1)) (hd : decode M.2.1 (pc + 1) = .ok (.ifCond .le off, 3)) (ht : ((pc + 1 : Nat) : Int) + off = (tgt : Int)) (kt : x ≤ y → WP g M tgt lv st D Q) (kf : ¬ (x ≤ y) → WP g M (pc + 4) lv st D Q) : WP g M pc lv (.long y :: .long x :: st) D Q :=
  wp_lcmp hd1 (wp_if_le hd ht (fun q => kt ((sr_cmp_le x y).mp q)) (fun q => kf (fun z => q ((sr_cmp_le x y).mpr z))))
/-! numbers that are told as naturals -/
theorem wp_iadd_n {a b : Nat} (hd : decode M.2.1 pc = .ok (.iadd, 1)) (k : WP g M (pc + 1) lv (.int (nI (a + b)) :: st) D Q) : WP g M pc lv (.int (nI b) :: .int (nI a) :: st) D Q := wp_iadd hd (by rw [nI_add]; exact k)
theorem wp_imul_n {a b : Nat} (hd : decode M.2.1 pc = .ok (.imul, 1)) (k : WP g M (pc + 1) lv (.int (nI (a * b)) :: st) D Q) : WP g M pc lv (.int (nI b) :: .int (nI a) :: st) D Q := wp_imul hd (by rw [pk_mul]; exact k)
theorem wp_isub_n {a b : Nat} (hd : decode M.2.1 pc = .ok (.isub, 1)) (h : b ≤ a) (k : WP g M (pc + 1) lv (.int (nI (a - b)) :: st) D Q) : WP g M pc lv (.int (nI b) :: .int (nI a) :: st) D Q := wp_isub hd (by rw [pk_sub h]; exact k)
theorem wp_iinc_n {i a b : Nat} {n : Int} (hd : decode M.2.1 pc = .ok (.iinc i n, 3)) (hb : Int32.ofInt n = nI b) (hg : sr_get lv i = some (.int (nI a))) (hn : i < M.2.2.1) (hs : sr_set lv i (.int (nI (a + b))) false = lv') (k : WP g M (pc + 3) lv' st D Q) : WP g M pc lv st D Q := wp_iinc hd hg (by rw [hb, nI_add]) hn hs k
theorem wp_icmp_eq_n {a b : Nat} {off : Int} {tgt : Nat} (hd : decode M.2.1 pc = .ok (.if_icmp .eq off, 3)) (ht : (pc : Int) + off = (tgt : Int)) (ha : a < 2 ^ 31) (hb : b < 2 ^ 31) (kt : a = b → WP g M tgt lv st D Q) (kf : ¬ a = b → WP g M (pc + 3) lv st D Q) : WP g M pc lv (.int (nI b) :: .int (nI a) :: st) D Q :=
  wp_icmp_eq hd ht (fun q => kt ((nI_eq ha hb).mp q)) (fun q => kf (fun z => q ((nI_eq ha hb).mpr z)))
theorem wp_icmp_ne_n {a b : Nat} {off : Int} {tgt : Nat} (hd : decode M.2.1 pc = .ok (.if_icmp .ne off, 3)) (ht : (pc : Int) + off = (tgt : Int)) (ha : a < 2 ^ 31) (hb : b < 2 ^ 31) (kt : ¬ a = b → WP g M tgt lv st D Q) (kf : a = b → WP g M (pc + 3) lv st D Q) : WP g M pc lv (.int (nI b) :: .int (nI a) :: st) D Q :=
  wp_icmp_ne hd ht (fun q => kt (fun z => q ((nI_eq ha hb).mpr z))) (fun q => kf ((nI_eq ha hb).mp q))
theorem wp_icmp_lt_n {a b : Nat} {off : Int} {tgt : Nat} (hd : decode M.2.1 pc = .ok (.if_icmp .lt off, 3)) (ht : (pc : Int) + off = (tgt : Int)) (ha : a < 2 ^ 31) (hb : b < 2 ^ 31) (kt : a < b → WP g M tgt lv st D Q) (kf : b ≤ a → WP g M (pc + 3) lv st D Q) : WP g M pc lv (.int (nI b) :: .int (nI a) :: st) D Q :=
  wp_icmp_lt hd ht (fun q => kt ((nI_ltI ha hb).mp q)) (fun q => kf (Nat.le_of_not_lt (fun z => q ((nI_ltI ha hb).mpr z))))
theorem wp_icmp_ge_n {a b : Nat} {off : Int} {tgt : Nat} (hd : decode M.2.1 pc = .ok (.if_icmp .ge off, 3)) (ht : (pc : Int) + off = (tgt : Int)) (ha : a < 2 ^ 31) (hb : b < 2 ^ 31) (kt : b ≤ a → WP g M tgt lv st D Q) (kf : a < b → WP g M (pc + 3) lv st D Q) : WP g M pc lv (.int (nI b) :: .int (nI a) :: st) D Q :=
  wp_icmp_ge hd ht (fun q => kt ((nI_leI hb ha).mp q)) (fun q => kf (Nat.lt_of_not_le (fun z => q ((nI_leI hb ha).mpr z))))
theorem wp_icmp_gt_n {a b : Nat} {off : Int} {tgt : Nat} (hd : decode M.2.1 pc = .ok (.if_icmp .gt off, 3)) (ht : (pc : Int) + off = (tgt : Int)) (ha : a < 2 ^ 31) (hb : b < 2 ^ 31) (kt : b < a → WP g M tgt lv st D Q) (kf : a ≤ b → WP g M (pc + 3) lv st D Q) : WP g M pc lv (.int (nI b) :: .int (nI a) :: st) D Q :=
  wp_icmp_gt hd ht (fun q => kt ((nI_ltI hb ha).mp q)) (fun q => kf (Nat.le_of_not_lt (fun z => q ((nI_ltI hb ha).mpr z))))
theorem wp_icmp_le_n {a b : Nat} {off : Int} {tgt : Nat} (hd : decode M.2.1 pc = .ok (.if_icmp .le off, 3)) (ht : (pc : Int) + off = (tgt : Int)) (ha : a < 2 ^ 31) (hb : b < 2 ^ 31) (kt : a ≤ b → WP g M tgt lv st D Q) (kf : b < a → WP g M (pc + 3) lv st D Q) : WP g M pc lv (.int (nI b) :: .int (nI a) :: st) D Q :=
  wp_icmp_le hd ht (fun q => kt ((nI_leI ha hb).mp q)) (fun q => kf (Nat.lt_of_not_le (fun z => q ((nI_leI ha hb).mpr z))))
/-! fields -/
theorem sr_in0 : ∀ w ∈ wsX00, w ∈ sr_ws := by
  intro w hw
  obtain ⟨k, hk, rfl⟩ := List.mem_map.mp hw
  have hk := List.mem_range.mp hk
  match k, hk with
  | 0, _ => exact (sr_mt1 (List.mem_of_getElem? (i := 187) rfl) rfl)
  | 1, _ => exact (sr_mt1 (List.mem_of_getElem? (i := 189) rfl) rfl)
  | 2, _ => exact (sr_mt1 (List.mem_of_getElem? (i := 191) rfl) rfl)
  | 3, _ => exact (sr_mt1 (List.mem_of_getElem? (i := 193) rfl) rfl)
  | k + 4, h => exact absurd h (by omega)
theorem sr_in1 : ∀ w ∈ wsX10, w ∈ sr_ws := by
  intro w hw
  obtain ⟨k, hk, rfl⟩ := List.mem_map.mp hw
  have hk := List.mem_range.mp hk
  match k, hk with
  | 0, _ => exact (sr_mt1 (List.mem_of_getElem? (i := 141) rfl) rfl)
  | 1, _ => exact (sr_mt1 (List.mem_of_getElem? (i := 143) rfl) rfl)
  | 2, _ => exact (sr_mt1 (List.mem_of_getElem? (i := 145) rfl) rfl)
  | 3, _ => exact (sr_mt1 (List.mem_of_getElem? (i := 147) rfl) rfl)
  | 4, _ => exact (sr_mt1 (List.mem_of_getElem? (i := 149) rfl) rfl)
  | 5, _ => exact (sr_mt1 (List.mem_of_getElem? (i := 151) rfl) rfl)
  | k + 6, h => exact absurd h (by omega)
theorem sr_in2 : ∀ w ∈ wsX20, w ∈ sr_ws := by
  intro w hw
  obtain ⟨k, hk, rfl⟩ := List.mem_map.mp hw
  have hk := List.mem_range.mp hk
  match k, hk with
  | 0, _ => exact (sr_mt1 (List.mem_of_getElem? (i := 166) rfl) rfl)
  | 1, _ => exact (sr_mt1 (List.mem_of_getElem? (i := 168) rfl) rfl)
  | k + 2, h => exact absurd h (by omega)
theorem sr_in3 : ∀ w ∈ wsX30, w ∈ sr_ws := by
  intro w hw
  obtain ⟨k, hk, rfl⟩ := List.mem_map.mp hw
  have hk := List.mem_range.mp hk
  match k, hk with
  | 0, _ => exact (sr_mt1 (List.mem_of_getElem? (i := 48) rfl) rfl)
  | 1, _ => exact (sr_mt1 (List.mem_of_getElem? (i := 50) rfl) rfl)
  | 2, _ => exact (sr_mt1 (List.mem_of_getElem? (i := 52) rfl) rfl)
  | 3, _ => exact (sr_mt1 (List.mem_of_getElem? (i := 54) rfl) rfl)
  | 4, _ => exact (sr_mt1 (List.mem_of_getElem? (i := 56) rfl) rfl)
  | 5, _ => exact (sr_mt1 (List.mem_of_getElem? (i := 58) rfl) rfl)
  | 6, _ => exact (sr_mt1 (List.mem_of_getElem? (i := 60) rfl) rfl)
  | k + 7, h => exact absurd h (by omega)
theorem sr_in4 : ∀ w ∈ wsX40, w ∈ sr_ws := by
  intro w hw
  obtain ⟨k, hk, rfl⟩ := List.mem_map.mp hw
  have hk := List.mem_range.mp hk
  match k, hk with
  | 0, _ => exact (sr_mt1 (List.mem_of_getElem? (i := 86) rfl) rfl)
  | 1, _ => exact (sr_mt1 (List.mem_of_getElem? (i := 88) rfl) rfl)
  | 2, _ => exact (sr_mt1 (List.mem_of_getElem? (i := 90) rfl) rfl)
  | 3, _ => exact (sr_mt1 (List.mem_of_getElem? (i := 92) rfl) rfl)
  | 4, _ => exact (sr_mt1 (List.mem_of_getElem? (i := 94) rfl) rfl)
  | 5, _ => exact (sr_mt1 (List.mem_of_getElem? (i := 96) rfl) rfl)
  | k + 6, h => exact absurd h (by omega)
theorem sr_in5 : ∀ w ∈ wsX50, w ∈ sr_ws := by
  intro w hw
  obtain ⟨k, hk, rfl⟩ := List.mem_map.mp hw
  have hk := List.mem_range.mp hk
  match k, hk with
  | 0, _ => exact (sr_mt1 (List.mem_of_getElem? (i := 112) rfl) rfl)
  | 1, _ => exact (sr_mt1 (List.mem_of_getElem? (i := 114) rfl) rfl)
  | 2, _ => exact (sr_mt1 (List.mem_of_getElem? (i := 116) rfl) rfl)
  | 3, _ => exact (sr_mt1 (List.mem_of_getElem? (i := 118) rfl) rfl)
  | 4, _ => exact (sr_mt1 (List.mem_of_getElem? (i := 120) rfl) rfl)
  | 5, _ => exact (sr_mt1 (List.mem_of_getElem? (i := 122) rfl) rfl)
  | k + 6, h => exact absurd h (by omega)
theorem sr_in6 : ∀ w ∈ wsX60, w ∈ sr_ws := by
  intro w hw
  obtain ⟨k, hk, rfl⟩ := List.mem_map.mp hw
  have hk := List.mem_range.mp hk
  match k, hk with
  | 0, _ => exact (sr_mt1 (List.mem_of_getElem? (i := 208) rfl) rfl)
  | 1, _ => exact (sr_mt1 (List.mem_of_getElem? (i := 210) rfl) rfl)
  | 2, _ => exact (sr_mt1 (List.mem_of_getElem? (i := 212) rfl) rfl)
  | 3, _ => exact (sr_mt1 (List.mem_of_getElem? (i := 214) rfl) rfl)
  | 4, _ => exact (sr_mt1 (List.mem_of_getElem? (i := 216) rfl) rfl)
  | 5, _ => exact (sr_mt1 (List.mem_of_getElem? (i := 218) rfl) rfl)
  | 6, _ => exact (sr_mt1 (List.mem_of_getElem? (i := 220) rfl) rfl)
  | 7, _ => exact (sr_mt1 (List.mem_of_getElem? (i := 222) rfl) rfl)
  | 8, _ => exact (sr_mt1 (List.mem_of_getElem? (i := 224) rfl) rfl)
  | 9, _ => exact (sr_mt1 (List.mem_of_getElem? (i := 226) rfl) rfl)
  | 10, _ => exact (sr_mt1 (List.mem_of_getElem? (i := 228) rfl) rfl)
  | 11, _ => exact (sr_mt1 (List.mem_of_getElem? (i := 230) rfl) rfl)
  | k + 12, h => exact absurd h (by omega)
theorem sr_in7 : ∀ w ∈ wsX70, w ∈ sr_ws := by
  intro w hw
  obtain ⟨k, hk, rfl⟩ := List.mem_map.mp hw
  have hk := List.mem_range.mp hk
  match k, hk with
  | 0, _ => exact (sr_mt4 (List.mem_of_getElem? (i := 15) rfl) rfl)
  | 1, _ => exact (sr_mt4 (List.mem_of_getElem? (i := 17) rfl) rfl)
  | 2, _ => exact (sr_mt4 (List.mem_of_getElem? (i := 19) rfl) rfl)
  | 3, _ => exact (sr_mt4 (List.mem_of_getElem? (i := 21) rfl) rfl)
  | 4, _ => exact (sr_mt4 (List.mem_of_getElem? (i := 23) rfl) rfl)
  | 5, _ => exact (sr_mt4 (List.mem_of_getElem? (i := 25) rfl) rfl)
  | 6, _ => exact (sr_mt4 (List.mem_of_getElem? (i := 27) rfl) rfl)
  | 7, _ => exact (sr_mt4 (List.mem_of_getElem? (i := 29) rfl) rfl)
  | 8, _ => exact (sr_mt4 (List.mem_of_getElem? (i := 31) rfl) rfl)
  | 9, _ => exact (sr_mt4 (List.mem_of_getElem? (i := 33) rfl) rfl)
  | 10, _ => exact (sr_mt4 (List.mem_of_getElem? (i := 35) rfl) rfl)
  | 11, _ => exact (sr_mt4 (List.mem_of_getElem? (i := 37) rfl) rfl)
  | 12, _ => exact (sr_mt4 (List.mem_of_getElem? (i := 39) rfl) rfl)
  | 13, _ => exact (sr_mt4 (List.mem_of_getElem? (i := 41) rfl) rfl)
  | 14, _ => exact (sr_mt4 (List.mem_of_getElem? (i := 43) rfl) rfl)
  | 15, _ => exact (sr_mt4 (List.mem_of_getElem? (i := 45) rfl) rfl)
  | 16, _ => exact (sr_mt4 (List.mem_of_getElem? (i := 47) rfl) rfl)
  | 17, _ => exact (sr_mt4 (List.mem_of_getElem? (i := 49) rfl) rfl)
  | 18, _ => exact (sr_mt4 (List.mem_of_getElem? (i := 51) rfl) rfl)
  | 19, _ => exact (sr_mt4 (List.mem_of_getElem? (i := 53) rfl) rfl)
  | 20, _ => exact (sr_mt4 (List.mem_of_getElem? (i := 55) rfl) rfl)
  | 21, _ => exact (sr_mt4 (List.mem_of_getElem? (i := 57) rfl) rfl)
  | 22, _ => exact (sr_mt4 (List.mem_of_getElem? (i := 59) rfl) rfl)
  | 23, _ => exact (sr_mt4 (List.mem_of_getElem? (i := 61) rfl) rfl)
  | 24, _ => exact (sr_mt4 (List.mem_of_getElem? (i := 63) rfl) rfl)
  | 25, _ => exact (sr_mt4 (List.mem_of_getElem? (i := 65) rfl) rfl)
  | k + 26, h => exact absurd h (by omega)
theorem sr_in : ∀ (kd : Nat) (q : vw_C), vwCl[kd]? = some q → ∀ w ∈ u_ws q.1 q.2.1 q.2.2, w ∈ sr_ws := by
  intro kd q h
  match kd, h with
  | 0, h => cases h; exact sr_in0
  | 1, h => cases h; exact sr_in1
  | 2, h => cases h; exact sr_in2
  | 3, h => cases h; exact sr_in3
  | 4, h => cases h; exact sr_in4
  | 5, h => cases h; exact sr_in5
  | 6, h => cases h; exact sr_in6
  | 7, h => cases h; exact sr_in7
  | k + 8, h => simp [vwCl] at h
def sr_tf (T : u_T) (ty0 : Nat → FieldType) (N kd : Nat) : Prop := (∀ k, k < N → parseFieldDescriptor (T k).2.2.1 = some (ty0 k)) ∧ (∀ a, a < N → ∀ b, b < N → a ≠ b → (T a).2.1 ≠ (T b).2.1) ∧ (∀ k, k < N → (sr_ty kd)[k]? = some 0 → ty0 k = .int ∧ (T k).2.2.2 = false) ∧ (∀ k, k < N → (sr_ty kd)[k]? = some 1 → ty0 k = .long ∧ (T k).2.2.2 = false) ∧ (sr_ty kd).length = N
theorem sr_tf_all : ∀ (kd : Nat) (q : vw_C), vwCl[kd]? = some q → ∃ ty0, sr_tf q.2.1 ty0 q.2.2 kd := by
  intro kd q h
  match kd, h with
  | 0, h => cases h; exact ⟨tyX0, tyX0_ok, nmX0, by decide +kernel, by decide +kernel, rfl⟩
  | 1, h => cases h; exact ⟨tyX1, tyX1_ok, nmX1, by decide +kernel, by decide +kernel, rfl⟩
  | 2, h => cases h; exact ⟨tyX2, tyX2_ok, nmX2, by decide +kernel, by decide +kernel, rfl⟩
  | 3, h => cases h; exact ⟨tyX3, tyX3_ok, nmX3, by decide +kernel, by decide +kernel, rfl⟩
  | 4, h => cases h; exact ⟨tyX4, tyX4_ok, nmX4, by decide +kernel, by decide +kernel, rfl⟩
  | 5, h => cases h; exact ⟨tyX5, tyX5_ok, nmX5, by decide +kernel, by decide +kernel, rfl⟩
  | 6, h => cases h; exact ⟨tyX6, tyX6_ok, nmX6, by decide +kernel, by decide +kernel, rfl⟩
  | 7, h => cases h; exact ⟨tyX7, tyX7_ok, nmX7, by decide +kernel, by decide +kernel, rfl⟩
  | k + 8, h => simp [vwCl] at h
/-- a field as own's constant pool names it: the class kd, the slot k -/
def sr_FL (own : String) (idx kd k : Nat) : Prop := ∃ q : vw_C, vwCl[kd]? = some q ∧ k < q.2.2 ∧ Cond.fieldLink own idx (q.2.1 k).1 (q.2.1 k).2.1 (q.2.1 k).2.2.1 ∈ sr_ws
theorem sr_vw_lt {kd : Nat} {q : vw_C} (h : vwCl[kd]? = some q) : kd < 8 := (List.getElem?_eq_some_iff.mp h).1
theorem sr_obj {ad : Nat → Nat} {cy : Nat → ClassId} {o kd : Nat} (ho : o < 74) (hk : sr_kind o = kd) (h8 : kd < 8) : (sr_W ad cy D)[o]? = some (ad o, .inr (kd, sr_fs ad D o 0 (sr_ty kd))) := by
  subst hk
  rw [sr_W_get ho, sr_cell_o h8]
theorem wp_get {o idx kd k t : Nat} (hd : decode M.2.1 pc = .ok (.getfield idx, 3)) (hf : sr_FL M.1.cls idx kd k) (ho : o < 74) (hk : sr_kind o = kd) (ht : (sr_ty kd)[k]? = some t) {v : Value} (hv : ∀ ad, sr_fv ad D o k t = sr_cv ad v) (kk : WP g M (pc + 3) lv (v :: st) D Q) : WP g M pc lv (.ref o :: st) D Q := by
  intro p e s m args below meth c H locs ls C hP hS hl
  obtain ⟨q, hq, hkN, hlk⟩ := hf
  have h8 := sr_vw_lt hq
  refine va_get (D := (g.2.1, g.2.2.1)) (ci := kd) (v := sr_cv g.2.2.2.1 v) (C := q.1) (T := q.2.1) (N := q.2.2) C.1 C.2.1 C.2.2.2.2.2.2.1 (sr_in kd q hq) C.2.2.2.2.1 C.2.2.2.2.2.2.2.1 hP o (sr_obj ho hk h8) hq k hkN (C.2.2.2.2.2.2.1 _ hlk) (fun _ h9 => h9) ?_ hd (kk p e s m args below meth c H locs ls C hP hS hl)
  rw [sr_fs_get, ht]
  simp [hv]
theorem wp_getI {o idx kd k : Nat} (hd : decode M.2.1 pc = .ok (.getfield idx, 3)) (hf : sr_FL M.1.cls idx kd k) (ho : o < 74) (hk : sr_kind o = kd) (ht : (sr_ty kd)[k]? = some 0) (kk : WP g M (pc + 3) lv (.int (D.1 o k) :: st) D Q) : WP g M pc lv (.ref o :: st) D Q := wp_get hd hf ho hk ht (fun _ => rfl) kk
theorem wp_getJ {o idx kd k : Nat} (hd : decode M.2.1 pc = .ok (.getfield idx, 3)) (hf : sr_FL M.1.cls idx kd k) (ho : o < 74) (hk : sr_kind o = kd) (ht : (sr_ty kd)[k]? = some 1) (kk : WP g M (pc + 3) lv (.long (D.2 o k) :: st) D Q) : WP g M pc lv (.ref o :: st) D Q := wp_get hd hf ho hk ht (fun _ => rfl) kk
theorem wp_getR {o idx kd k r : Nat} (hd : decode M.2.1 pc = .ok (.getfield idx, 3)) (hf : sr_FL M.1.cls idx kd k) (ho : o < 74) (hk : sr_kind o = kd) (ht : (sr_ty kd)[k]? = some 2) (hr : sr_ref o k = r) (kk : WP g M (pc + 3) lv (.ref r :: st) D Q) : WP g M pc lv (.ref o :: st) D Q := wp_get hd hf ho hk ht (fun _ => by rw [← hr]; rfl) kk
theorem wp_getI_n {o idx kd k n : Nat} (hd : decode M.2.1 pc = .ok (.getfield idx, 3)) (hf : sr_FL M.1.cls idx kd k) (ho : o < 74) (hk : sr_kind o = kd) (ht : (sr_ty kd)[k]? = some 0) (hn : D.1 o k = nI n) (kk : WP g M (pc + 3) lv (.int (nI n) :: st) D Q) : WP g M pc lv (.ref o :: st) D Q := wp_getI hd hf ho hk ht (by rw [hn]; exact kk)
theorem wp_putI {o idx kd k : Nat} {v : Int32} (hd : decode M.2.1 pc = .ok (.putfield idx, 3)) (hf : sr_FL M.1.cls idx kd k) (ho : o < 74) (hk : sr_kind o = kd) (ht : (sr_ty kd)[k]? = some 0) (kk : WP g M (pc + 3) lv st (sr_sI D o k v) Q) : WP g M pc lv (.int v :: .ref o :: st) D Q := by
  intro p e s m args below meth c H locs ls C hP hS hl
  obtain ⟨q, hq, hkN, hlk⟩ := hf
  have h8 := sr_vw_lt hq
  obtain ⟨ty0, h1, h2, h3, -, h5⟩ := sr_tf_all kd q hq
  obtain ⟨e1, e2⟩ := h3 k hkN ht
  refine va_put (D := (g.2.1, g.2.2.1)) (ci := kd) (v := .int v) (ty := .int) (C := q.1) (T := q.2.1) (N := q.2.2) C.1 C.2.1 C.2.2.2.2.2.2.1 (sr_in kd q hq) ty0 h1 h2 C.2.2.2.2.1 C.2.2.2.2.2.2.2.1 hP (sr_W_D C.2.2.2.2.2.2.2.2.1) hS o (sr_obj ho hk h8) hq k hkN (C.2.2.2.2.2.2.1 _ hlk) (fun _ h9 => h9) e2 (by rw [h1 k hkN, e1]) rfl rfl (by rw [sr_fs_len, h5]; exact hkN) hd (fun H1 locs1 hP1 hD1 hS1 => ?_)
  subst hk
  rw [sr_putI h8 ht] at hP1
  exact kk p e s m args below meth c H1 locs1 ls C hP1 hS1 hl
theorem wp_putJ {o idx kd k : Nat} {v : Int64} (hd : decode M.2.1 pc = .ok (.putfield idx, 3)) (hf : sr_FL M.1.cls idx kd k) (ho : o < 74) (hk : sr_kind o = kd) (ht : (sr_ty kd)[k]? = some 1) (kk : WP g M (pc + 3) lv st (sr_sJ D o k v) Q) : WP g M pc lv (.long v :: .ref o :: st) D Q := by
  intro p e s m args below meth c H locs ls C hP hS hl
  obtain ⟨q, hq, hkN, hlk⟩ := hf
  have h8 := sr_vw_lt hq
  obtain ⟨ty0, h1, h2, -, h3, h5⟩ := sr_tf_all kd q hq
  obtain ⟨e1, e2⟩ := h3 k hkN ht
  refine va_put (D := (g.2.1, g.2.2.1)) (ci := kd) (v := .long v) (ty := .long) (C := q.1) (T := q.2.1) (N := q.2.2) C.1 C.2.1 C.2.2.2.2.2.2.1 (sr_in kd q hq) ty0 h1 h2 C.2.2.2.2.1 C.2.2.2.2.2.2.2.1 hP (sr_W_D C.2.2.2.2.2.2.2.2.1) hS o (sr_obj ho hk h8) hq k hkN (C.2.2.2.2.2.2.1 _ hlk) (fun _ h9 => h9) e2 (by rw [h1 k hkN, e1]) rfl rfl (by rw [sr_fs_len, h5]; exact hkN) hd (fun H1 locs1 hP1 hD1 hS1 => ?_)
  subst hk
  rw [sr_putJ h8 ht] at hP1
  exact kk p e s m args below meth c H1 locs1 ls C hP1 hS1 hl
/-! arrays -/
theorem wp_iald {o n : Nat} (hd : decode M.2.1 pc = .ok (.iaload, 1)) (ho : o < 74) (hk : sr_kind o = 9) (hn : n < sr_len o) (hb : n < 2 ^ 31) (kk : WP g M (pc + 1) lv (.int (D.1 o n) :: st) D Q) : WP g M pc lv (.int (nI n) :: .ref o :: st) D Q := by
  intro p e s m args below meth c H locs ls C hP hS hl
  refine va_iald (D := (g.2.1, g.2.2.1)) C.1 C.2.1 C.2.2.2.2.2.2.2.1 hP o 1 (by rw [sr_W_get ho, sr_cell_I hk]) rfl (i := nI n) ?_ hd ?_
  · unfold vp_in
    rw [nI_clamp hb]
    exact fun q => q.elim (nI_pos hb) (fun q => absurd hn (Nat.not_lt.mpr q))
  · rw [nI_clamp hb]
    exact kk p e s m args below meth c H locs ls C hP hS hl
theorem wp_bald {o n : Nat} (hd : decode M.2.1 pc = .ok (.baload, 1)) (ho : o < 74) (hk : sr_kind o = 8) (hn : n < sr_len o) (hb : n < 2 ^ 31) (kk : WP g M (pc + 1) lv (.int (D.1 o n) :: st) D Q) : WP g M pc lv (.int (nI n) :: .ref o :: st) D Q := by
  intro p e s m args below meth c H locs ls C hP hS hl
  refine va_bald (D := (g.2.1, g.2.2.1)) C.1 C.2.1 C.2.2.2.2.2.2.2.1 hP o 0 (by rw [sr_W_get ho, sr_cell_B hk]) rfl (i := nI n) ?_ hd ?_
  · unfold vp_in
    rw [nI_clamp hb]
    exact fun q => q.elim (nI_pos hb) (fun q => absurd hn (Nat.not_lt.mpr q))
  · rw [nI_clamp hb]
    exact kk p e s m args below meth c H locs ls C hP hS hl
theorem wp_zald {o n : Nat} (hd : decode M.2.1 pc = .ok (.baload, 1)) (ho : o < 74) (hk : sr_kind o = 11) (hn : n < sr_len o) (hb : n < 2 ^ 31) (kk : WP g M (pc + 1) lv (.int (D.1 o n) :: st) D Q) : WP g M pc lv (.int (nI n) :: .ref o :: st) D Q := by
  intro p e s m args below meth c H locs ls C hP hS hl
  refine va_zald (D := (g.2.1, g.2.2.1)) C.1 C.2.1 C.2.2.2.2.2.2.2.1 hP o 3 (by rw [sr_W_get ho, sr_cell_Z hk]) rfl (i := nI n) ?_ hd ?_
  · unfold vp_in
    rw [nI_clamp hb]
    exact fun q => q.elim (nI_pos hb) (fun q => absurd hn (Nat.not_lt.mpr q))
  · rw [nI_clamp hb]
    exact kk p e s m args below meth c H locs ls C hP hS hl
theorem wp_lald {o n : Nat} (hd : decode M.2.1 pc = .ok (.laload, 1)) (ho : o < 74) (hk : sr_kind o = 10) (hn : n < sr_len o) (hb : n < 2 ^ 31) (kk : WP g M (pc + 1) lv (.long (D.2 o n) :: st) D Q) : WP g M pc lv (.int (nI n) :: .ref o :: st) D Q := by
  intro p e s m args below meth c H locs ls C hP hS hl
  refine va_lald (D := (g.2.1, g.2.2.1)) C.1 C.2.1 C.2.2.2.2.2.2.2.1 hP o 2 (by rw [sr_W_get ho, sr_cell_J hk]) rfl (i := nI n) ?_ hd ?_
  · unfold vp_in
    rw [nI_clamp hb]
    exact fun q => q.elim (nI_pos hb) (fun q => absurd hn (Nat.not_lt.mpr q))
  · rw [nI_clamp hb]
    exact kk p e s m args below meth c H locs ls C hP hS hl
theorem wp_iast {o n : Nat} {v : Int32} (hd : decode M.2.1 pc = .ok (.iastore, 1)) (ho : o < 74) (hk : sr_kind o = 9) (hn : n < sr_len o) (hb : n < 2 ^ 31) (kk : WP g M (pc + 1) lv st (sr_sI D o n v) Q) : WP g M pc lv (.int v :: .int (nI n) :: .ref o :: st) D Q := by
  intro p e s m args below meth c H locs ls C hP hS hl
  refine va_iast (D := (g.2.1, g.2.2.1)) C.1 C.2.1 C.2.2.2.2.2.2.2.1 hP (sr_W_D C.2.2.2.2.2.2.2.2.1) hS o 1 (by rw [sr_W_get ho, sr_cell_I hk]) rfl (i := nI n) ?_ hd (fun H1 locs1 hP1 hD1 hS1 => ?_)
  · unfold vp_in
    rw [nI_clamp hb]
    exact fun q => q.elim (nI_pos hb) (fun q => absurd hn (Nat.not_lt.mpr q))
  · rw [nI_clamp hb, sr_astI hk (Or.inr (Or.inl rfl))] at hP1
    exact kk p e s m args below meth c H1 locs1 ls C hP1 hS1 hl
theorem wp_bast {o n : Nat} {v : Int32} (hd : decode M.2.1 pc = .ok (.bastore, 1)) (ho : o < 74) (hk : sr_kind o = 8) (hn : n < sr_len o) (hb : n < 2 ^ 31) (kk : WP g M (pc + 1) lv st (sr_sI D o n (vp_nar .byte v)) Q) : WP g M pc lv (.int v :: .int (nI n) :: .ref o :: st) D Q := by
  intro p e s m args below meth c H locs ls C hP hS hl
  refine va_bast (D := (g.2.1, g.2.2.1)) C.1 C.2.1 C.2.2.2.2.2.2.2.1 hP (sr_W_D C.2.2.2.2.2.2.2.2.1) hS o 0 (by rw [sr_W_get ho, sr_cell_B hk]) rfl (i := nI n) ?_ hd (fun H1 locs1 hP1 hD1 hS1 => ?_)
  · unfold vp_in
    rw [nI_clamp hb]
    exact fun q => q.elim (nI_pos hb) (fun q => absurd hn (Nat.not_lt.mpr q))
  · rw [nI_clamp hb, sr_astI hk (Or.inl rfl)] at hP1
    exact kk p e s m args below meth c H1 locs1 ls C hP1 hS1 hl
theorem wp_zast {o n : Nat} {v : Int32} (hd : decode M.2.1 pc = .ok (.bastore, 1)) (ho : o < 74) (hk : sr_kind o = 11) (hn : n < sr_len o) (hb : n < 2 ^ 31) (kk : WP g M (pc + 1) lv st (sr_sI D o n (vp_nar .boolean v)) Q) : WP g M pc lv (.int v :: .int (nI n) :: .ref o :: st) D Q := by
  intro p e s m args below meth c H locs ls C hP hS hl
  refine va_zast (D := (g.2.1, g.2.2.1)) C.1 C.2.1 C.2.2.2.2.2.2.2.1 hP (sr_W_D C.2.2.2.2.2.2.2.2.1) hS o 3 (by rw [sr_W_get ho, sr_cell_Z hk]) rfl (i := nI n) ?_ hd (fun H1 locs1 hP1 hD1 hS1 => ?_)
  · unfold vp_in
    rw [nI_clamp hb]
    exact fun q => q.elim (nI_pos hb) (fun q => absurd hn (Nat.not_lt.mpr q))
  · rw [nI_clamp hb, sr_astI hk (Or.inr (Or.inr rfl))] at hP1
    exact kk p e s m args below meth c H1 locs1 ls C hP1 hS1 hl
theorem wp_last {o n : Nat} {v : Int64} (hd : decode M.2.1 pc = .ok (.lastore, 1)) (ho : o < 74) (hk : sr_kind o = 10) (hn : n < sr_len o) (hb : n < 2 ^ 31) (kk : WP g M (pc + 1) lv st (sr_sJ D o n v) Q) : WP g M pc lv (.long v :: .int (nI n) :: .ref o :: st) D Q := by
  intro p e s m args below meth c H locs ls C hP hS hl
  refine va_last (D := (g.2.1, g.2.2.1)) C.1 C.2.1 C.2.2.2.2.2.2.2.1 hP (sr_W_D C.2.2.2.2.2.2.2.2.1) hS o 2 (by rw [sr_W_get ho, sr_cell_J hk]) rfl (i := nI n) ?_ hd (fun H1 locs1 hP1 hD1 hS1 => ?_)
  · unfold vp_in
    rw [nI_clamp hb]
    exact fun q => q.elim (nI_pos hb) (fun q => absurd hn (Nat.not_lt.mpr q))
  · rw [nI_clamp hb, sr_astJ hk] at hP1
    exact kk p e s m args below meth c H1 locs1 ls C hP1 hS1 hl
theorem wp_aald {o n : Nat} (hd : decode M.2.1 pc = .ok (.aaload, 1)) (ho : o < 74) (hk : sr_kind o = 12) (hn : n < sr_len o) (hb : n < 2 ^ 31) (kk : WP g M (pc + 1) lv (.ref (o + 1 + n) :: st) D Q) : WP g M pc lv (.int (nI n) :: .ref o :: st) D Q := by
  intro p e s m args below meth c H locs ls C hP hS hl
  have ha : (sr_W g.2.2.2.1 g.2.2.2.2 D)[o]? = some (g.2.2.2.1 o, .inl (g.2.2.2.2 12, sr_len o, .inr (.inr (.inr (.inr (fun i => some (g.2.2.2.1 (o + 1 + i)))))))) := by rw [sr_W_get ho, sr_cell_Q hk]
  refine W.aald (v := .ref (g.2.2.2.1 (o + 1 + n))) (ty := .array .long) (j := nI n) C.1 C.2.1 (hP o _ ha) ((C.2.2.2.2.2.2.2.1.2 4 (g.2.2.2.2 12, .array .long) rfl).1 (sr_len o) (fun j => va_rf ((fun i => some (g.2.2.2.1 (o + 1 + i))) j))) rfl (fun q => by cases q) ?_ ?_ rfl rfl hd (kk p e s m args below meth c H locs ls C hP hS hl)
  · show ¬ (nI n < 0 ∨ (arrV _ _ _).slots.size ≤ _)
    rw [arrV_size, nI_clamp hb]
    exact fun q => q.elim (nI_pos hb) (fun q => absurd hn (Nat.not_lt.mpr q))
  · show (arrV _ _ _).slots[_]? = _
    rw [nI_clamp hb, arrV_read _ _ hn]
    rfl
/-! the end of a method -/
theorem wp_iret {v : Int32} (hd : decode M.2.1 pc = .ok (.ireturn, 1)) (hr : M.2.2.2.1 = some .int) (hq : Q (some (.int v)) D) : WP g M pc lv [.int v] D Q := by
  intro p e s m args below meth c H locs ls C hP hS hl
  have hlocks := C.2.2.2.2.2.1
  exact W.iret (v := v) C.1 C.2.1 (C.2.2.1.trans hr) (fun t ht hW => ⟨⟨some (.int v), D, rfl, hq, by rw [ht]; exact hP, va_K.moved hW.alike C.2.2.2.2.2.2.2.1⟩, hS.F ht⟩) hS.2.2 hd
theorem wp_zret {v : Int32} (hd : decode M.2.1 pc = .ok (.ireturn, 1)) (hr : M.2.2.2.1 = some .boolean) (hv : v = 0 ∨ v = 1) (hq : Q (some (.int v)) D) : WP g M pc lv [.int v] D Q := by
  intro p e s m args below meth c H locs ls C hP hS hl
  have hlocks := C.2.2.2.2.2.1
  exact W.zret (v := v) (ty := .boolean) C.1 C.2.1 (C.2.2.1.trans hr) (by rcases hv with h | h <;> subst h <;> rfl) (fun t ht hW => ⟨⟨some (.int v), D, rfl, hq, by rw [ht]; exact hP, va_K.moved hW.alike C.2.2.2.2.2.2.2.1⟩, hS.F ht⟩) hS.2.2 hd
theorem wp_lret {v : Int64} (hd : decode M.2.1 pc = .ok (.lreturn, 1)) (hr : M.2.2.2.1 = some .long) (hq : Q (some (.long v)) D) : WP g M pc lv [.long v] D Q := by
  intro p e s m args below meth c H locs ls C hP hS hl
  have hlocks := C.2.2.2.2.2.1
  exact W.lret (v := v) C.1 C.2.1 (C.2.2.1.trans hr) (fun t ht hW => ⟨⟨some (.long v), D, rfl, hq, by rw [ht]; exact hP, va_K.moved hW.alike C.2.2.2.2.2.2.2.1⟩, hS.F ht⟩) hS.2.2 hd
theorem wp_vret (hd : decode M.2.1 pc = .ok (.return_, 1)) (hr : M.2.2.2.1 = none) (hq : Q none D) : WP g M pc lv [] D Q := by
  intro p e s m args below meth c H locs ls C hP hS hl
  have hlocks := C.2.2.2.2.2.1
  exact W.vret C.1 C.2.1 (C.2.2.1.trans hr) (fun t ht hW => ⟨⟨none, D, rfl, hq, by rw [ht]; exact hP, va_K.moved hW.alike C.2.2.2.2.2.2.2.1⟩, hS.F ht⟩) hS.2.2 hd
/-! calls -/
theorem sr_call {p : Program} {e : Env} {R : Room} {s : State} {m : MethodId} {args : Array Value} {below : List Frame} {meth : Method} {c : Code} {H : Heap} {locs : List Loc} {cells slots : Nat} {Qf : State → Prop} {ls : Array Slot} {st0 rest : List Value} {a : Array Value} {Q' : Option Value → sr_St → Prop}
    (hr : va_Run p g.1 e R s m args below meth c H locs cells slots 0 0 (F0 m pc ls st0) rest (sr_QC g Q' a) (sr_A g.2.2.2.1)) (hS : va_S (sr_A g.2.2.2.1) s.heap H locs)
    (kk : ∀ (r : Option Value) (D' : sr_St) (H1 : Heap) (locs1 : List Loc), Q' r D' → sr_P g D' H1 → va_S (sr_A g.2.2.2.1) s.heap H1 locs1 → W p g.1 e R s m args below meth c H1 locs1 cells slots Qf (F0 m (pc + 3) ls ((r.map (sr_cv g.2.2.2.1)).toList ++ rest))) : W p g.1 e R s m args below meth c H locs cells slots Qf (F0 m pc ls st0) := by
  intro T hT X
  obtain ⟨v, st₀, t, T', L, h0, X', hL, e1, e2, ⟨⟨r, D', hv, hq, hp, hk⟩, hz, hkk⟩, st⟩ := hr T hT X
  cases hv
  rw [h0] at hz hkk
  obtain ⟨t2, a1, b1⟩ := kk r D' T'.heap (locs ++ L) hq (by rw [e1]; exact hp)
    ⟨Nat.le_trans hS.1 (by rw [e1]; exact hz), fun q h1 h2 => by rw [e1, hkk q (Nat.lt_of_lt_of_le h1 hS.1) h2]; exact hS.2.1 q h1 h2, fun q hq => by
      rcases List.mem_append.mp hq with h | h
      · exact hS.2.2 q h
      · exact hL q h⟩ T' rfl X'
  exact ⟨t2, st t2 a1, b1⟩
/-- the words of a call of M2 by own's constant pool -/
def sr_CW (own : String) (idx : Nat) (M2 : sr_Md) : Prop := Cond.methodLink own idx M2.1 ∈ sr_ws ∧ Cond.initialized M2.1.cls ∈ sr_ws ∧ Cond.code M2.1 M2.2.1 M2.2.2.1 M2.2.2.2.1 ∈ sr_ws
def sr_CV (own : String) (idx : Nat) (M2 : sr_Md) : Prop := sr_CW own idx M2 ∧ Cond.instanceMethod M2.1 ∈ sr_ws ∧ Cond.selects M2.1.cls M2.1 M2.1 ∈ sr_ws
def sr_CS (own : String) (idx : Nat) (M2 : sr_Md) : Prop := sr_CW own idx M2 ∧ Cond.static M2.1 ∈ sr_ws
/-- what can be seen of a method's name, and of the room -/
def sr_fit (M M2 : sr_Md) (n : Nat) : Prop := (M2.1.cls ≠ "java/lang/invoke/MethodHandle" ∧ M2.1.cls ≠ "java/lang/invoke/VarHandle" ∧ (parseMethodDescriptor M2.1.desc).map (fun d => d.parameters.length) = some n) ∧ M2.2.2.2.2.1 + 1 ≤ M.2.2.2.2.1 ∧ 8 + (M2.2.2.1 + 11) + M2.2.2.2.2.2 ≤ M.2.2.2.2.2
theorem sr_callB {M2 : sr_Md} {s : State} {args : Array Value} {own : String} {idx n : Nat} {R : Room} (hts : ∀ w ∈ sr_ws, w.before args s = true) (hw : sr_CW own idx M2) (hd : M2.1.cls ≠ "java/lang/invoke/MethodHandle" ∧ M2.1.cls ≠ "java/lang/invoke/VarHandle" ∧ (parseMethodDescriptor M2.1.desc).map (fun d => d.parameters.length) = some n) (hR : M2.2.2.2.2.1 + 1 ≤ R.frames ∧ 8 + (M2.2.2.1 + 11) + M2.2.2.2.2.2 ≤ R.locals) :
    CallB R s args own idx M2.1 M2.2.1 M2.2.2.1 M2.2.2.2.1 (.code M2.1 M2.2.1 M2.2.2.1 M2.2.2.2.1 :: sr_ws) (sr_rm M2) 0 0 n := by
  refine callB_of n hts (fun w h => ?_) rfl rfl rfl (hts _ hw.2.1) (hts _ hw.1) hd hR
  rcases List.mem_cons.mp h with h | h
  · rw [h]; exact sr_goodIn _ hw.2.2
  · exact sr_goodIn _ h
theorem sr_blind {av : List Value} : FrameBlind (va_Pc (av.map (sr_cv g.2.2.2.1)) (fun U => sr_P g D U.heap ∧ sr_K g U ∧ sr_J g U)) := fun a U gf mk q => ⟨q.1, q.2.1, va_K.moved (u := U) (U := U.calling gf mk a) (Vm.Alike.refl U.vm) q.2.2.1, q.2.2.2.call⟩
theorem sr_mapapp {ad : Nat → Nat} {As : List Value} : (As.reverse ++ st).map (sr_cv ad) = (As.map (sr_cv ad)).reverse ++ st.map (sr_cv ad) := by simp
theorem sr_catsum {ad : Nat → Nat} : ((st.map (sr_cv ad)).map fun v => v.category) = st.map (fun v => v.category) := by simp [sr_cv_cat]
theorem wp_callV {M2 : sr_Md} {idx n o kd : Nat} {As st0 : List Value} {Q' : Option Value → sr_St → Prop} (hd : decode M.2.1 pc = .ok (.invokevirtual idx, 3)) (hM : Con g M2 (.ref o :: As) D Q') (hw : sr_CV M.1.cls idx M2) (hf : sr_fit M M2 n) (hn : As.length = n) (ho : o < 74) (hk : sr_kind o = kd) (hc : (vwCl[kd]?).map (fun q => q.1) = some M2.1.cls) (h0 : st0 = As.reverse ++ .ref o :: st) (hW : (st.map fun v => v.category).sum ≤ 8)
    (kk : ∀ (r : Option Value) (D' : sr_St), Q' r D' → WP g M (pc + 3) lv (r.toList ++ st) D' Q) : WP g M pc lv st0 D Q := by
  intro p e s m args below meth c H locs ls C hP hS hl
  subst h0
  obtain ⟨q, hq, hqc⟩ : ∃ q, vwCl[kd]? = some q ∧ q.1 = M2.1.cls := by
    cases h : vwCl[kd]? with
    | none => rw [h] at hc; cases hc
    | some q => rw [h] at hc; exact ⟨q, rfl, Option.some.inj hc⟩
  have h8 := sr_vw_lt hq
  have hrec := va_recv C.2.2.2.2.2.2.2.1 hP hq (sr_obj (ad := g.2.2.2.1) (cy := g.2.2.2.2) (D := D) ho hk h8)
  rw [hqc] at hrec
  have hts := C.2.2.2.2.2.2.1
  refine sr_call (va_runV (As := As.map (sr_cv g.2.2.2.1)) (rest := st.map (sr_cv g.2.2.2.1)) (n := n) ⟨C.1, C.2.1, C.2.2.2.1, C.2.2.2.2.1, hts⟩ hM ⟨sr_callB hts hw.1 hf.1 hf.2, hts _ hw.2.1, hts _ hw.2.2⟩ ⟨sr_blind, hrec, fun U hU hW => ⟨rfl, by rw [hU]; exact hP, va_K.moved hW.alike C.2.2.2.2.2.2.2.1, sr_J.to hS hU hW C.2.2.2.2.2.2.2.2⟩⟩ rfl (by rw [List.length_map]; exact hn) hl.1 ?_ ?_ hd ⟨Nat.zero_le _, Nat.zero_le _⟩) hS (fun r D' H1 locs1 hQ hP1 hS1 => ?_)
  · exact (sr_mapapp (st := .ref o :: st)).trans rfl
  · rw [sr_catsum]; simpa [JFrame.monitorRoom] using hW
  · have h := kk r D' hQ p e s m args below meth c H1 locs1 ls C hP1 hS1 hl
    rw [List.map_append] at h
    cases r <;> exact h
theorem wp_callS {M2 : sr_Md} {idx n : Nat} {As st0 : List Value} {Q' : Option Value → sr_St → Prop} (hd : decode M.2.1 pc = .ok (.invokestatic idx, 3)) (hM : Con g M2 As D Q') (hw : sr_CS M.1.cls idx M2) (hf : sr_fit M M2 n) (hn : As.length = n) (h0 : st0 = As.reverse ++ st) (hW : (st.map fun v => v.category).sum ≤ 8)
    (kk : ∀ (r : Option Value) (D' : sr_St), Q' r D' → WP g M (pc + 3) lv (r.toList ++ st) D' Q) : WP g M pc lv st0 D Q := by
  intro p e s m args below meth c H locs ls C hP hS hl
  subst h0
  have hts := C.2.2.2.2.2.2.1
  refine sr_call (va_runS (As := As.map (sr_cv g.2.2.2.1)) (rest := st.map (sr_cv g.2.2.2.1)) (n := n) ⟨C.1, C.2.1, C.2.2.2.1, C.2.2.2.2.1, hts⟩ hM ⟨sr_callB hts hw.1 hf.1 hf.2, hts _ hw.2⟩ ⟨sr_blind, fun U hU hW => ⟨rfl, by rw [hU]; exact hP, va_K.moved hW.alike C.2.2.2.2.2.2.2.1, sr_J.to hS hU hW C.2.2.2.2.2.2.2.2⟩⟩ rfl (by rw [List.length_map]; exact hn) hl.1 ?_ ?_ hd ⟨Nat.zero_le _, Nat.zero_le _⟩) hS (fun r D' H1 locs1 hQ hP1 hS1 => ?_)
  · exact sr_mapapp
  · rw [sr_catsum]; simpa [JFrame.monitorRoom] using hW
  · have h := kk r D' hQ p e s m args below meth c H1 locs1 ls C hP1 hS1 hl
    rw [List.map_append] at h
    cases r <;> exact h
/-! switches -/
theorem wp_lookup {dflt : Int} {ps : Array (Int × Int)} {len : Nat} {x : Int32} {off : Int} {tgt : Nat} (hd : decode M.2.1 pc = .ok (.lookupswitch dflt ps, len)) (hp : (ps.toList.zip (ps.toList.drop 1)).all (fun (a, next) => a.1 < next.1) = true) (ho : Op.lookupswitch.offset ps.toList dflt x.toInt = off) (ht : (pc : Int) + off = (tgt : Int)) (k : WP g M tgt lv st D Q) : WP g M pc lv (.int x :: st) D Q := by
  intro p e s m args below meth c H locs ls C hP hS hl
  exact lv_lookup C.1 C.2.1 hd hp ho ht (k p e s m args below meth c H locs ls C hP hS hl)
theorem wp_tableOut {dflt lo hi : Int} {offs : Array Int} {len : Nat} {x : Int32} {tgt : Nat} (hd : decode M.2.1 pc = .ok (.tableswitch dflt lo hi offs, len)) (h : x.toInt < lo ∨ hi < x.toInt) (ht : (pc : Int) + dflt = (tgt : Int)) (k : WP g M tgt lv st D Q) : WP g M pc lv (.int x :: st) D Q := by
  intro p e s m args below meth c H locs ls C hP hS hl
  exact lv_tableOut C.1 C.2.1 hd h ht (k p e s m args below meth c H locs ls C hP hS hl)
theorem wp_tableIn {dflt lo hi : Int} {offs : Array Int} {len : Nat} {x : Int32} {off : Int} {tgt : Nat} (hd : decode M.2.1 pc = .ok (.tableswitch dflt lo hi offs, len)) (h1 : ¬ x.toInt < lo) (h2 : ¬ hi < x.toInt) (ho : offs[(x.toInt - lo).toNat]? = some off) (ht : (pc : Int) + off = (tgt : Int)) (k : WP g M tgt lv st D Q) : WP g M pc lv (.int x :: st) D Q := by
  intro p e s m args below meth c H locs ls C hP hS hl
  exact lv_tableIn C.1 C.2.1 hd h1 h2 ho ht (k p e s m args below meth c H locs ls C hP hS hl)
end WPr
