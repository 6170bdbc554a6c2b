/-! THE CLAIM OUT OF ONE WALK OF THE LAW'S BODY. Your part is whole_start (and what it stands on); all else here is the same for every law, but numbers. -/
def R_law : String := "SeatRacingLaw"
def lw_P (b : Addr) (xs : List Int32) (args : Array Value) (s : State) : Prop := args = #[.ref b] ∧ s.IntsAt b xs ∧ xs.length ≤ 3072 ∧ (Jvm.Cond.and given_1 narrow_1).before args s = true
def lw_Q (_ : Array Value) (s : State) (o : Outcome) (t : State) : Prop := o = .returned (some (.int 1)) ∧ Framed s o t [] 603142 7286679
def lw_Z (below : List Frame) (a : Array Value) (s : State) : State → Prop := fun t => ∃ o, t.status = .running ∧ Ended t below o ∧ lw_Q a s o t
/-- the law's own end, with 1 on the stack, nothing written that was there before, its room as the claim has it -/
theorem lw_ret {p : Program} {l : Launch} {e : Env} {s : State} {m : MethodId} {below : List Frame} {meth : Method} {c : Code} {b : Nat} (hx : p.tables.exec = Jvm.exec) (hb : c.code = code) (hr : meth.sig.returnType = ret) (hlocks : meth.locks = false) {pc : Nat} {H : Heap} {ls : Array Slot} (hdg : decode code pc = .ok (.ireturn, 1)) : W p l e room_1 s m #[Value.ref b] below meth c H [] 603142 7286679 (lw_Z below #[Value.ref b] s) (F0 m pc ls [.int 1]) := by
  intro T hT X
  obtain ⟨fs, hret, hrun, hended, hW, hframe⟩ := X.leave (v := some (.int 1)) (hlocks := hlocks) (fun h => by rw [hr] at h; cases h)
  have hmeth' : T.vm.method? m = some meth := X.method'
  refine ⟨T.setFrames fs, ?_, .returned (some (.int 1)), hrun, hended, rfl, ⟨_, rfl⟩, hW, hframe⟩
  jvm_step X.here [X.here.top, hx, hb, hdg, hmeth', hr, ret, narrow_b1]
  (try refine ⟨rfl, ?_⟩); (try refine ⟨rfl, ?_⟩)
  first | (intro acts; rw [hret _ acts rfl rfl rfl]) | rw [hret _ _ rfl rfl rfl]
  exact Steps.refl _
/-- what holds at the law's entry: the machine, the code, the tables' words (any of lw_tbl by 'hts w (by decide +kernel)'), the script of L ints xs at the cell b, what the Statement gives of the start (any of its parts by flat_of_before) -/
def lw_At (p : Program) (s : State) (m : MethodId) (meth : Method) (c : Code) (b L : Nat) (xs : Nat → Int32) : Prop :=
  p.tables.exec = Jvm.exec ∧ c.code = code ∧ meth.sig.returnType = ret ∧ c.maxLocals = 7 ∧ s.vm.findClass R_law = some m.cls ∧ (∀ w ∈ lw_tbl, w.before #[Value.ref b] s = true) ∧ va_X b L xs s s.heap ∧ b < s.heap.size ∧ meth.locks = false ∧ (Jvm.Cond.and given_1 narrow_1).before #[Value.ref b] s = true

/-! ===== the law's own walk ===== -/
abbrev M_law : sr_Md := (yL_law, code, 7, ret, 0, 0)
/-- the script (cell 91), what is new -/
abbrev sr_B : Type := Nat × Nat × (Nat → Int32)
def LX (g : sr_G) (B : sr_B) (s : State) : Prop := g.2.2.2.1 91 = B.1 ∧ va_X B.1 B.2.1 B.2.2 s s.heap ∧ B.1 < s.heap.size ∧ (∀ o, o < 74 → s.heap.size ≤ g.2.2.2.1 o) ∧ B.2.1 ≤ 3072 ∧ EX g s
def WL (g : sr_G) (B : sr_B) (k0 n0 : Nat) (pc : Nat) (lv : List (Nat × Value)) (st : List Value) (D : sr_St) : Prop :=
  ∀ (p : Program) (e : Env) (s : State) (m : MethodId) (below : List Frame) (meth : Method) (c : Code) (H : Heap) (locs : List Loc) (ls : Array Slot),
    sr_CX g M_law p s m #[Value.ref B.1] meth c → LX g B s → sr_P g D H → va_S (sr_A g.2.2.2.1) s.heap H locs → lv_has ls M_law.2.2.1 (lv.map (sr_cl g.2.2.2.1)) →
    W p g.1 e room_1 s m #[Value.ref B.1] below meth c H locs k0 n0 (lw_Z below #[Value.ref B.1] s) (F0 m pc ls (st.map (sr_cv g.2.2.2.1)))
section WLs
variable {g : sr_G} {B : sr_B} {k0 n0 : Nat} {pc : Nat} {lv lv' : List (Nat × Value)} {st : List Value} {D : sr_St}
theorem wl_iconst {n : Int} {v : Int32} (hd : decode M_law.2.1 pc = .ok (.iconst n, 1)) (hv : Int32.ofInt n = v) (k : WL g B k0 n0 (pc + 1) lv (.int v :: st) D) : WL g B k0 n0 pc lv st D := by
  intro p e s m below meth c H locs ls C X hP hS hl
  exact lv_iconst C.1 C.2.1 hd hv (k p e s m below meth c H locs ls C X hP hS hl)
theorem wl_bipush {n : Int} {v : Int32} (hd : decode M_law.2.1 pc = .ok (.bipush n, 2)) (hv : (Int8.ofInt n).toInt32 = v) (k : WL g B k0 n0 (pc + 2) lv (.int v :: st) D) : WL g B k0 n0 pc lv st D := by
  intro p e s m below meth c H locs ls C X hP hS hl
  exact lv_bipush C.1 C.2.1 hd hv (k p e s m below meth c H locs ls C X hP hS hl)
theorem wl_iload {i : Nat} {x : Int32} (hd : decode M_law.2.1 pc = .ok (.iload i, 2)) (hg : sr_get lv i = some (.int x)) (k : WL g B k0 n0 (pc + 2) lv (.int x :: st) D) : WL g B k0 n0 pc lv st D := by
  intro p e s m below meth c H locs ls C X hP hS hl
  exact lv_iload C.1 C.2.1 hd (sr_at hl hg) (k p e s m below meth c H locs ls C X hP hS hl)
theorem wl_iload_n {n : Fin 4} {i : Nat} {x : Int32} (hd : decode M_law.2.1 pc = .ok (.iload_n n, 1)) (hi : (n : Nat) = i) (hg : sr_get lv i = some (.int x)) (k : WL g B k0 n0 (pc + 1) lv (.int x :: st) D) : WL g B k0 n0 pc lv st D := by
  intro p e s m below meth c H locs ls C X hP hS hl
  exact lv_iload_n C.1 C.2.1 hd hi (sr_at hl hg) (k p e s m below meth c H locs ls C X hP hS hl)
theorem wl_istore {i : Nat} {x : Int32} (hd : decode M_law.2.1 pc = .ok (.istore i, 2)) (hn : i < M_law.2.2.1) (hs : sr_set lv i (.int x) false = lv') (k : WL g B k0 n0 (pc + 2) lv' st D) : WL g B k0 n0 pc lv (.int x :: st) D := by
  intro p e s m below meth c H locs ls C X hP hS hl
  subst hs
  exact lv_istore C.1 C.2.1 hd hl hn rfl (fun ls' hl' => k p e s m below meth c H locs ls' C X hP hS (sr_set_sub1 hl'))
theorem wl_aload_n {n : Fin 4} {i : Nat} {x : Nat} (hd : decode M_law.2.1 pc = .ok (.aload_n n, 1)) (hi : (n : Nat) = i) (hg : sr_get lv i = some (.ref x)) (k : WL g B k0 n0 (pc + 1) lv (.ref x :: st) D) : WL g B k0 n0 pc lv st D := by
  intro p e s m below meth c H locs ls C X hP hS hl
  exact lv_aload_n C.1 C.2.1 hd hi (sr_at hl hg) (k p e s m below meth c H locs ls C X hP hS hl)
theorem wl_iadd {x y : Int32} (hd : decode M_law.2.1 pc = .ok (.iadd, 1)) (k : WL g B k0 n0 (pc + 1) lv (.int (x + y) :: st) D) : WL g B k0 n0 pc lv (.int y :: .int x :: st) D := by
  intro p e s m below meth c H locs ls C X hP hS hl
  exact lv_iadd C.1 C.2.1 hd  (k p e s m below meth c H locs ls C X hP hS hl)
theorem wl_isub {x y : Int32} (hd : decode M_law.2.1 pc = .ok (.isub, 1)) (k : WL g B k0 n0 (pc + 1) lv (.int (x - y) :: st) D) : WL g B k0 n0 pc lv (.int y :: .int x :: st) D := by
  intro p e s m below meth c H locs ls C X hP hS hl
  exact lv_isub C.1 C.2.1 hd  (k p e s m below meth c H locs ls C X hP hS hl)
theorem wl_iand {x y : Int32} (hd : decode M_law.2.1 pc = .ok (.iand, 1)) (k : WL g B k0 n0 (pc + 1) lv (.int (x &&& y) :: st) D) : WL g B k0 n0 pc lv (.int y :: .int x :: st) D := by
  intro p e s m below meth c H locs ls C X hP hS hl
  exact lv_iand C.1 C.2.1 hd  (k p e s m below meth c H locs ls C X hP hS hl)
theorem wl_icmp_eq {x y : Int32} {off : Int} {tgt : Nat} (hd : decode M_law.2.1 pc = .ok (.if_icmp .eq off, 3)) (ht : (pc : Int) + off = (tgt : Int)) (kt : x = y → WL g B k0 n0 tgt lv st D) (kf : ¬ (x = y) → WL g B k0 n0 (pc + 3) lv st D) : WL g B k0 n0 pc lv (.int y :: .int x :: st) D := by
  intro p e s m below meth c H locs ls C X hP hS hl
  exact lv_icmp_eq C.1 C.2.1 hd ht (fun q => kt q p e s m below meth c H locs ls C X hP hS hl) (fun q => kf q p e s m below meth c H locs ls C X hP hS hl)
theorem wl_icmp_gt {x y : Int32} {off : Int} {tgt : Nat} (hd : decode M_law.2.1 pc = .ok (.if_icmp .gt off, 3)) (ht : (pc : Int) + off = (tgt : Int)) (kt : y < x → WL g B k0 n0 tgt lv st D) (kf : ¬ (y < x) → WL g B k0 n0 (pc + 3) lv st D) : WL g B k0 n0 pc lv (.int y :: .int x :: st) D := by
  intro p e s m below meth c H locs ls C X hP hS hl
  exact lv_icmp_gt C.1 C.2.1 hd ht (fun q => kt q p e s m below meth c H locs ls C X hP hS hl) (fun q => kf q p e s m below meth c H locs ls C X hP hS hl)
theorem wl_if_eq {x : Int32} {off : Int} {tgt : Nat} (hd : decode M_law.2.1 pc = .ok (.ifCond .eq off, 3)) (ht : (pc : Int) + off = (tgt : Int)) (kt : x = 0 → WL g B k0 n0 tgt lv st D) (kf : ¬ (x = 0) → WL g B k0 n0 (pc + 3) lv st D) : WL g B k0 n0 pc lv (.int x :: st) D := by
  intro p e s m below meth c H locs ls C X hP hS hl
  exact lv_if_eq C.1 C.2.1 hd ht (fun q => kt q p e s m below meth c H locs ls C X hP hS hl) (fun q => kf q p e s m below meth c H locs ls C X hP hS hl)
theorem wl_if_ne {x : Int32} {off : Int} {tgt : Nat} (hd : decode M_law.2.1 pc = .ok (.ifCond .ne off, 3)) (ht : (pc : Int) + off = (tgt : Int)) (kt : ¬ x = 0 → WL g B k0 n0 tgt lv st D) (kf : x = 0 → WL g B k0 n0 (pc + 3) lv st D) : WL g B k0 n0 pc lv (.int x :: st) D := by
  intro p e s m below meth c H locs ls C X hP hS hl
  exact lv_if_ne C.1 C.2.1 hd ht (fun q => kt q p e s m below meth c H locs ls C X hP hS hl) (fun q => kf q p e s m below meth c H locs ls C X hP hS hl)
theorem wl_goto {off : Int} {tgt : Nat} (hd : decode M_law.2.1 pc = .ok (.goto off, 3)) (ht : (pc : Int) + off = (tgt : Int)) (k : WL g B k0 n0 tgt lv st D) : WL g B k0 n0 pc lv st D := by
  intro p e s m below meth c H locs ls C X hP hS hl
  exact lv_goto C.1 C.2.1 hd ht (k p e s m below meth c H locs ls C X hP hS hl)
theorem wl_iinc {i : Nat} {n : Int} {x v : Int32} (hd : decode M_law.2.1 pc = .ok (.iinc i n, 3)) (hg : sr_get lv i = some (.int x)) (hv : x + Int32.ofInt n = v) (hn : i < M_law.2.2.1) (hs : sr_set lv i (.int v) false = lv') (k : WL g B k0 n0 (pc + 3) lv' st D) : WL g B k0 n0 pc lv st D := by
  intro p e s m below meth c H locs ls C X hP hS hl
  subst hs
  obtain ⟨j, hj⟩ := List.getElem?_of_mem (List.mem_map.mpr ⟨(i, .int x), sr_get_mem hg, rfl⟩ : (i, Value.int x) ∈ lv.map (sr_cl g.2.2.2.1))
  exact lv_iinc C.1 C.2.1 hd hl hj hv hn rfl (fun ls' hl' => k p e s m below meth c H locs ls' C X hP hS (sr_set_sub1 (v := .int v) hl'))
theorem wl_tableIn {dflt lo hi : Int} {offs : Array Int} {len : Nat} {x : Int32} {off : Int} {tgt : Nat} (hd : decode M_law.2.1 pc = .ok (.tableswitch dflt lo hi offs, len)) (h1 : ¬ x.toInt < lo) (h2 : ¬ hi < x.toInt) (ho : offs[(x.toInt - lo).toNat]? = some off) (ht : (pc : Int) + off = (tgt : Int)) (k : WL g B k0 n0 tgt lv st D) : WL g B k0 n0 pc lv (.int x :: st) D := by
  intro p e s m below meth c H locs ls C X hP hS hl
  exact lv_tableIn C.1 C.2.1 hd h1 h2 ho ht (k p e s m below meth c H locs ls C X hP hS hl)
theorem wl_tableOut {dflt lo hi : Int} {offs : Array Int} {len : Nat} {x : Int32} {tgt : Nat} (hd : decode M_law.2.1 pc = .ok (.tableswitch dflt lo hi offs, len)) (h : x.toInt < lo ∨ hi < x.toInt) (ht : (pc : Int) + dflt = (tgt : Int)) (k : WL g B k0 n0 tgt lv st D) : WL g B k0 n0 pc lv (.int x :: st) D := by
  intro p e s m below meth c H locs ls C X hP hS hl
  exact lv_tableOut C.1 C.2.1 hd h ht (k p e s m below meth c H locs ls C X hP hS hl)
theorem wl_lcmp {x y : Int64} (hd : decode M_law.2.1 pc = .ok (.lcmp, 1)) (k : WL g B k0 n0 (pc + 1) lv (.int (lg_cmp x y) :: st) D) : WL g B k0 n0 pc lv (.long y :: .long x :: st) D := by
  intro p e s m below meth c H locs ls C X hP hS hl
  exact W.lcmp C.1 C.2.1 hd  (k p e s m below meth c H locs ls C X hP hS hl)
theorem wl_i2l {x : Int32} (hd : decode M_law.2.1 pc = .ok (.i2l, 1)) (k : WL g B k0 n0 (pc + 1) lv (.long x.toInt64 :: st) D) : WL g B k0 n0 pc lv (.int x :: st) D := by
  intro p e s m below meth c H locs ls C X hP hS hl
  exact lv_i2l C.1 C.2.1 hd rfl (k p e s m below meth c H locs ls C X hP hS hl)
theorem wl_lald {o n : Nat} (hd : decode M_law.2.1 pc = .ok (.laload, 1)) (ho : o < 74) (hk : sr_kind o = 10) (hn : n < sr_len o) (hb : n < 2 ^ 31) (kk : WL g B k0 n0 (pc + 1) lv (.long (D.2 o n) :: st) D) : WL g B k0 n0 pc lv (.int (nI n) :: .ref o :: st) D := by
  intro p e s m below meth c H locs ls C X hP hS hl
  refine va_lald (D := (g.2.1, g.2.2.1)) C.1 C.2.1 C.2.2.2.2.2.2.2.1 hP o 2 (by rw [sr_W_get ho, sr_cell_J hk]) rfl (i := nI n) ?_ hd ?_
  · unfold vp_in
    rw [nI_clamp hb]
    exact fun q => q.elim (nI_pos hb) (fun q => absurd hn (Nat.not_lt.mpr q))
  · rw [nI_clamp hb]
    exact kk p e s m below meth c H locs ls C X hP hS hl
theorem wl_iadd_n {a b : Nat} (hd : decode M_law.2.1 pc = .ok (.iadd, 1)) (k : WL g B k0 n0 (pc + 1) lv (.int (nI (a + b)) :: st) D) : WL g B k0 n0 pc lv (.int (nI b) :: .int (nI a) :: st) D := wl_iadd hd (by rw [nI_add]; exact k)
theorem wl_iinc_n {i a b : Nat} {n : Int} (hd : decode M_law.2.1 pc = .ok (.iinc i n, 3)) (hb : Int32.ofInt n = nI b) (hg : sr_get lv i = some (.int (nI a))) (hn : i < M_law.2.2.1) (hs : sr_set lv i (.int (nI (a + b))) false = lv') (k : WL g B k0 n0 (pc + 3) lv' st D) : WL g B k0 n0 pc lv st D := wl_iinc hd hg (by rw [hb, nI_add]) hn hs k
theorem wl_pop {v : Value} (hd : decode M_law.2.1 pc = .ok (.pop, 1)) (hv : v.category = 1) (k : WL g B k0 n0 (pc + 1) lv st D) : WL g B k0 n0 pc lv (v :: st) D := by
  intro p e s m below meth c H locs ls C X hP hS hl
  exact lv_pop C.1 C.2.1 hd ((sr_cv_cat _ v).trans hv) (k p e s m below meth c H locs ls C X hP hS hl)
theorem LX.b {s : State} (X : LX g B s) : ¬ sr_A g.2.2.2.1 B.1 := by
  rintro ⟨o, ho, e⟩
  have h1 := X.2.2.2.1 o ho
  have h2 := X.2.2.1
  omega
theorem wl_sld {i : Nat} (hd : decode M_law.2.1 pc = .ok (.iaload, 1)) (hi : i < B.2.1) (k : WL g B k0 n0 (pc + 1) lv (.int (B.2.2 i) :: st) D) : WL g B k0 n0 pc lv (.int (nI i) :: .ref 91 :: st) D := by
  intro p e s m below meth c H locs ls C X hP hS hl
  have h := k p e s m below meth c H locs ls C X hP hS hl
  have hl2 : i < 2 ^ 31 := by have := X.2.2.2.2.1; omega
  have e91 : sr_cv g.2.2.2.1 (.ref 91) = .ref B.1 := by show Value.ref (g.2.2.2.1 91) = _; rw [X.1]
  show W p g.1 e room_1 s m #[Value.ref B.1] below meth c H locs k0 n0 _ (F0 m pc ls (.int (nI i) :: sr_cv g.2.2.2.1 (.ref 91) :: st.map (sr_cv g.2.2.2.1)))
  rw [e91]
  refine va_sld C.1 C.2.1 X.2.1 X.2.2.1 X.b hS (i := nI i) ?_ hd ?_
  · unfold vp_in
    rw [nI_clamp hl2]
    exact fun q => q.elim (nI_pos hl2) (fun q => absurd hi (Nat.not_lt.mpr q))
  · rw [nI_clamp hl2]; exact h
theorem wl_slen (hd : decode M_law.2.1 pc = .ok (.arraylength, 1)) (k : WL g B k0 n0 (pc + 1) lv (.int (nI B.2.1) :: st) D) : WL g B k0 n0 pc lv (.ref 91 :: st) D := by
  intro p e s m below meth c H locs ls C X hP hS hl
  have h := k p e s m below meth c H locs ls C X hP hS hl
  have e91 : sr_cv g.2.2.2.1 (.ref 91) = .ref B.1 := by show Value.ref (g.2.2.2.1 91) = _; rw [X.1]
  show W p g.1 e room_1 s m #[Value.ref B.1] below meth c H locs k0 n0 _ (F0 m pc ls (sr_cv g.2.2.2.1 (.ref 91) :: st.map (sr_cv g.2.2.2.1)))
  rw [e91]
  exact va_slen C.1 C.2.1 X.2.1 X.2.2.1 X.b hS hd h
/-- x != 0 as a boolean -/
theorem wl_bool {x : Int32} {off off2 : Int} {tgt : Nat} (h1 : decode M_law.2.1 pc = .ok (.ifCond .eq off, 3)) (e1 : (pc : Int) + off = (tgt : Int)) (h2 : decode M_law.2.1 (pc + 3) = .ok (.iconst 1, 1)) (h3 : decode M_law.2.1 (pc + 3 + 1) = .ok (.goto off2, 3)) (e2 : ((pc + 3 + 1 : Nat) : Int) + off2 = ((tgt + 1 : Nat) : Int)) (h4 : decode M_law.2.1 tgt = .ok (.iconst 0, 1)) (k : WL g B k0 n0 (tgt + 1) lv (.int (if x = 0 then 0 else 1) :: st) D) : WL g B k0 n0 pc lv (.int x :: st) D := by
  refine wl_if_eq h1 e1 (fun z => ?_) (fun z => ?_)
  · rw [if_pos z] at k
    exact wl_iconst (v := 0) h4 (by decide) k
  · rw [if_neg z] at k
    exact wl_iconst (v := 1) h2 (by decide) (wl_goto h3 e2 k)
/-- a call of the class's or the model's -/
theorem wl_call {M2 : sr_Md} {idx n o kd : Nat} {As st0 : List Value} {Q' : Option Value → sr_St → Prop} (hd : decode M_law.2.1 pc = .ok (.invokevirtual idx, 3)) (hM : Con g M2 (.ref o :: As) D Q') (hw : sr_CV M_law.1.cls idx M2) (hf1 : M2.1.cls ≠ "java/lang/invoke/MethodHandle" ∧ M2.1.cls ≠ "java/lang/invoke/VarHandle" ∧ (parseMethodDescriptor M2.1.desc).map (fun d => d.parameters.length) = some n) (hf2 : M2.2.2.2.2.1 + 1 ≤ 14 ∧ 8 + (M2.2.2.1 + 11) + M2.2.2.2.2.2 ≤ 512) (hn : As.length = n) (ho : o < 74) (hk : sr_kind o = kd) (hc : (vwCl[kd]?).map (fun q => q.1) = some M2.1.cls) (h0 : st0 = As.reverse ++ .ref o :: st) (hW : (st.map fun v => v.category).sum ≤ 8) (hk0 : k0 ≤ 603142) (hn0 : n0 ≤ 7286679)
    (kk : ∀ (r : Option Value) (D' : sr_St), Q' r D' → WL g B k0 n0 (pc + 3) lv (r.toList ++ st) D') : WL g B k0 n0 pc lv st0 D := by
  intro p e s m below meth c H locs ls C X hP hS hl
  subst h0
  obtain ⟨q, hq, hqc⟩ : ∃ q, vwCl[kd]? = some q ∧ q.1 = M2.1.cls := by
    cases h : vwCl[kd]? with
    | none => rw [h] at hc; cases hc
    | some q => rw [h] at hc; exact ⟨q, rfl, Option.some.inj hc⟩
  have h8 := sr_vw_lt hq
  have hrec := va_recv C.2.2.2.2.2.2.2.1 hP hq (sr_obj (ad := g.2.2.2.1) (cy := g.2.2.2.2) (D := D) ho hk h8)
  rw [hqc] at hrec
  have hts := C.2.2.2.2.2.2.1
  refine sr_call (va_runV (As := As.map (sr_cv g.2.2.2.1)) (rest := st.map (sr_cv g.2.2.2.1)) (n := n) ⟨C.1, C.2.1, C.2.2.2.1, C.2.2.2.2.1, hts⟩ hM ⟨sr_callB hts hw.1 hf1 hf2, hts _ hw.2.1, hts _ hw.2.2⟩ ⟨sr_blind, hrec, fun U hU hW => ⟨rfl, by rw [hU]; exact hP, va_K.moved hW.alike C.2.2.2.2.2.2.2.1, sr_J.to hS hU hW C.2.2.2.2.2.2.2.2⟩⟩ rfl (by rw [List.length_map]; exact hn) hl.1 ?_ ?_ hd ⟨hk0, hn0⟩) hS (fun r D' H1 locs1 hQ hP1 hS1 => ?_)
  · exact (sr_mapapp (st := .ref o :: st)).trans rfl
  · rw [sr_catsum]; simpa [JFrame.monitorRoom] using hW
  · have h := kk r D' hQ p e s m below meth c H1 locs1 ls C X hP1 hS1 hl
    rw [List.map_append] at h
    cases r <;> exact h
/-- the law's end -/
theorem wl_end (hd : decode M_law.2.1 pc = .ok (.ireturn, 1)) (hk : k0 ≤ 603142) (hn : n0 ≤ 7286679) : WL g B k0 n0 pc lv [.int 1] D := by
  intro p e s m below meth c H locs ls C X hP hS hl
  refine va_forget (fun q hq => ?_) (W.widen hk hn (lw_ret C.1 C.2.1 C.2.2.1 C.2.2.2.2.2.1 hd))
  obtain ⟨o, ho, e⟩ := hS.2.2 q hq
  rw [e]; exact X.2.2.2.1 o ho
end WLs
