/-! ===== raced: it may throw ===== -/
def WG (g : sr_G) (M : sr_Md) (X0 : State → Code → Prop) (Z : List Frame → Array Value → State → State → Prop) (k0 n0 : Nat) (pc : Nat) (lv : List (Nat × Value)) (st : List Value) (D : sr_St) : Prop :=
  ∀ (p : Program) (e : Env) (s : State) (m : MethodId) (args : Array Value) (below : List Frame) (meth : Method) (c : Code) (H : Heap) (locs : List Loc) (ls : Array Slot),
    sr_CX g M p s m args meth c → X0 s c → sr_P g D H → va_S (sr_A g.2.2.2.1) s.heap H locs → lv_has ls M.2.2.1 (lv.map (sr_cl g.2.2.2.1)) →
    W p g.1 e ({ frames := M.2.2.2.2.1, cells := 1, slots := 6, locals := M.2.2.2.2.2 } : Room) s m args below meth c H locs k0 n0 (Z below args s) (F0 m pc ls (st.map (sr_cv g.2.2.2.1)))
section WGs
variable {g : sr_G} {M : sr_Md} {X0 : State → Code → Prop} {Z : List Frame → Array Value → State → State → Prop} {k0 n0 : Nat} {pc : Nat} {lv lv' : List (Nat × Value)} {st : List Value} {D : sr_St}
theorem wg_iconst {n : Int} {v : Int32} (hd : decode M.2.1 pc = .ok (.iconst n, 1)) (hv : Int32.ofInt n = v) (k : WG g M X0 Z k0 n0 (pc + 1) lv (.int v :: st) D) : WG g M X0 Z k0 n0 pc lv st D := by
  intro p e s m args below meth c H locs ls C X hP hS hl
  exact lv_iconst C.1 C.2.1 hd hv (k p e s m args below meth c H locs ls C X hP hS hl)
theorem wg_iload_n {n : Fin 4} {i : Nat} {x : Int32} (hd : decode M.2.1 pc = .ok (.iload_n n, 1)) (hi : (n : Nat) = i) (hg : sr_get lv i = some (.int x)) (k : WG g M X0 Z k0 n0 (pc + 1) lv (.int x :: st) D) : WG g M X0 Z k0 n0 pc lv st D := by
  intro p e s m args below meth c H locs ls C X hP hS hl
  exact lv_iload_n C.1 C.2.1 hd hi (sr_at hl hg) (k p e s m args below meth c H locs ls C X hP hS hl)
theorem wg_aload_n {n : Fin 4} {i : Nat} {x : Nat} (hd : decode M.2.1 pc = .ok (.aload_n n, 1)) (hi : (n : Nat) = i) (hg : sr_get lv i = some (.ref x)) (k : WG g M X0 Z k0 n0 (pc + 1) lv (.ref x :: st) D) : WG g M X0 Z k0 n0 pc lv st D := by
  intro p e s m args below meth c H locs ls C X hP hS hl
  exact lv_aload_n C.1 C.2.1 hd hi (sr_at hl hg) (k p e s m args below meth c H locs ls C X hP hS hl)
theorem wg_if_ne {x : Int32} {off : Int} {tgt : Nat} (hd : decode M.2.1 pc = .ok (.ifCond .ne off, 3)) (ht : (pc : Int) + off = (tgt : Int)) (kt : ¬ x = 0 → WG g M X0 Z k0 n0 tgt lv st D) (kf : x = 0 → WG g M X0 Z k0 n0 (pc + 3) lv st D) : WG g M X0 Z k0 n0 pc lv (.int x :: st) D := by
  intro p e s m args below meth c H locs ls C X hP hS hl
  exact lv_if_ne C.1 C.2.1 hd ht (fun q => kt q p e s m args below meth c H locs ls C X hP hS hl) (fun q => kf q p e s m args below meth c H locs ls C X hP hS hl)
theorem wg_goto {off : Int} {tgt : Nat} (hd : decode M.2.1 pc = .ok (.goto off, 3)) (ht : (pc : Int) + off = (tgt : Int)) (k : WG g M X0 Z k0 n0 tgt lv st D) : WG g M X0 Z k0 n0 pc lv st D := by
  intro p e s m args below meth c H locs ls C X hP hS hl
  exact lv_goto C.1 C.2.1 hd ht (k p e s m args below meth c H locs ls C X hP hS hl)
theorem wg_tableIn {dflt lo hi : Int} {offs : Array Int} {len : Nat} {x : Int32} {off : Int} {tgt : Nat} (hd : decode M.2.1 pc = .ok (.tableswitch dflt lo hi offs, len)) (h1 : ¬ x.toInt < lo) (h2 : ¬ hi < x.toInt) (ho : offs[(x.toInt - lo).toNat]? = some off) (ht : (pc : Int) + off = (tgt : Int)) (k : WG g M X0 Z k0 n0 tgt lv st D) : WG g M X0 Z k0 n0 pc lv (.int x :: st) D := by
  intro p e s m args below meth c H locs ls C X hP hS hl
  exact lv_tableIn C.1 C.2.1 hd h1 h2 ho ht (k p e s m args below meth c H locs ls C X hP hS hl)
theorem wg_tableOut {dflt lo hi : Int} {offs : Array Int} {len : Nat} {x : Int32} {tgt : Nat} (hd : decode M.2.1 pc = .ok (.tableswitch dflt lo hi offs, len)) (h : x.toInt < lo ∨ hi < x.toInt) (ht : (pc : Int) + dflt = (tgt : Int)) (k : WG g M X0 Z k0 n0 tgt lv st D) : WG g M X0 Z k0 n0 pc lv (.int x :: st) D := by
  intro p e s m args below meth c H locs ls C X hP hS hl
  exact lv_tableOut C.1 C.2.1 hd h ht (k p e s m args below meth c H locs ls C X hP hS hl)
theorem wg_i2l {x : Int32} (hd : decode M.2.1 pc = .ok (.i2l, 1)) (k : WG g M X0 Z k0 n0 (pc + 1) lv (.long x.toInt64 :: st) D) : WG g M X0 Z k0 n0 pc lv (.int x :: st) D := by
  intro p e s m args below meth c H locs ls C X hP hS hl
  exact lv_i2l C.1 C.2.1 hd rfl (k p e s m args below meth c H locs ls C X hP hS hl)
theorem wg_get {o idx kd k t : Nat} (hd : decode M.2.1 pc = .ok (.getfield idx, 3)) (hf : sr_FL M.1.cls idx kd k) (ho : o < 74) (hk : sr_kind o = kd) (ht : (sr_ty kd)[k]? = some t) {v : Value} (hv : ∀ ad, sr_fv ad D o k t = sr_cv ad v) (kk : WG g M X0 Z k0 n0 (pc + 3) lv (v :: st) D) : WG g M X0 Z k0 n0 pc lv (.ref o :: st) D := by
  intro p e s m args below meth c H locs ls C X hP hS hl
  obtain ⟨q, hq, hkN, hlk⟩ := hf
  have h8 := sr_vw_lt hq
  refine va_get (D := (g.2.1, g.2.2.1)) (ci := kd) (v := sr_cv g.2.2.2.1 v) (C := q.1) (T := q.2.1) (N := q.2.2) C.1 C.2.1 C.2.2.2.2.2.2.1 (sr_in kd q hq) C.2.2.2.2.1 C.2.2.2.2.2.2.2.1 hP o (sr_obj ho hk h8) hq k hkN (C.2.2.2.2.2.2.1 _ hlk) (fun _ h9 => h9) ?_ hd (kk p e s m args below meth c H locs ls C X hP hS hl)
  rw [sr_fs_get, ht]
  simp [hv]
theorem wg_getR {o idx kd k r : Nat} (hd : decode M.2.1 pc = .ok (.getfield idx, 3)) (hf : sr_FL M.1.cls idx kd k) (ho : o < 74) (hk : sr_kind o = kd) (ht : (sr_ty kd)[k]? = some 2) (hr : sr_ref o k = r) (kk : WG g M X0 Z k0 n0 (pc + 3) lv (.ref r :: st) D) : WG g M X0 Z k0 n0 pc lv (.ref o :: st) D := wg_get hd hf ho hk ht (fun _ => by rw [← hr]; rfl) kk
theorem wg_iald {o n : Nat} (hd : decode M.2.1 pc = .ok (.iaload, 1)) (ho : o < 74) (hk : sr_kind o = 9) (hn : n < sr_len o) (hb : n < 2 ^ 31) (kk : WG g M X0 Z k0 n0 (pc + 1) lv (.int (D.1 o n) :: st) D) : WG g M X0 Z k0 n0 pc lv (.int (nI n) :: .ref o :: st) D := by
  intro p e s m args below meth c H locs ls C X hP hS hl
  refine va_iald (D := (g.2.1, g.2.2.1)) C.1 C.2.1 C.2.2.2.2.2.2.2.1 hP o 1 (by rw [sr_W_get ho, sr_cell_I hk]) rfl (i := nI n) ?_ hd ?_
  · unfold vp_in
    rw [nI_clamp hb]
    exact fun q => q.elim (nI_pos hb) (fun q => absurd hn (Nat.not_lt.mpr q))
  · rw [nI_clamp hb]
    exact kk p e s m args below meth c H locs ls C X hP hS hl
theorem wg_last {o n : Nat} {v : Int64} (hd : decode M.2.1 pc = .ok (.lastore, 1)) (ho : o < 74) (hk : sr_kind o = 10) (hn : n < sr_len o) (hb : n < 2 ^ 31) (kk : WG g M X0 Z k0 n0 (pc + 1) lv st (sr_sJ D o n v)) : WG g M X0 Z k0 n0 pc lv (.long v :: .int (nI n) :: .ref o :: st) D := by
  intro p e s m args below meth c H locs ls C X hP hS hl
  refine va_last (D := (g.2.1, g.2.2.1)) C.1 C.2.1 C.2.2.2.2.2.2.2.1 hP (sr_W_D C.2.2.2.2.2.2.2.2.1) hS o 2 (by rw [sr_W_get ho, sr_cell_J hk]) rfl (i := nI n) ?_ hd (fun H1 locs1 hP1 hD1 hS1 => ?_)
  · unfold vp_in
    rw [nI_clamp hb]
    exact fun q => q.elim (nI_pos hb) (fun q => absurd hn (Nat.not_lt.mpr q))
  · rw [nI_clamp hb, sr_astJ hk] at hP1
    exact kk p e s m args below meth c H1 locs1 ls C X hP1 hS1 hl
theorem wg_callV {M2 : sr_Md} {idx n o kd : Nat} {As st0 : List Value} {Q' : Option Value → sr_St → Prop} (hd : decode M.2.1 pc = .ok (.invokevirtual idx, 3)) (hM : Con g M2 (.ref o :: As) D Q') (hw : sr_CV M.1.cls idx M2) (hf : sr_fit M M2 n) (hn : As.length = n) (ho : o < 74) (hk : sr_kind o = kd) (hc : (vwCl[kd]?).map (fun q => q.1) = some M2.1.cls) (h0 : st0 = As.reverse ++ .ref o :: st) (hW : (st.map fun v => v.category).sum ≤ 8) (hk0 : k0 ≤ 1) (hn0 : n0 ≤ 6)
    (kk : ∀ (r : Option Value) (D' : sr_St), Q' r D' → WG g M X0 Z k0 n0 (pc + 3) lv (r.toList ++ st) D') : WG g M X0 Z k0 n0 pc lv st0 D := by
  intro p e s m args below meth c H locs ls C X hP hS hl
  subst h0
  obtain ⟨q, hq, hqc⟩ : ∃ q, vwCl[kd]? = some q ∧ q.1 = M2.1.cls := by
    cases h : vwCl[kd]? with
    | none => rw [h] at hc; cases hc
    | some q => rw [h] at hc; exact ⟨q, rfl, Option.some.inj hc⟩
  have h8 := sr_vw_lt hq
  have hrec := va_recv C.2.2.2.2.2.2.2.1 hP hq (sr_obj (ad := g.2.2.2.1) (cy := g.2.2.2.2) (D := D) ho hk h8)
  rw [hqc] at hrec
  have hts := C.2.2.2.2.2.2.1
  refine sr_call (va_runV (As := As.map (sr_cv g.2.2.2.1)) (rest := st.map (sr_cv g.2.2.2.1)) (n := n) ⟨C.1, C.2.1, C.2.2.2.1, C.2.2.2.2.1, hts⟩ hM ⟨sr_callB hts hw.1 hf.1 hf.2, hts _ hw.2.1, hts _ hw.2.2⟩ ⟨sr_blind, hrec, fun U hU hW => ⟨rfl, by rw [hU]; exact hP, va_K.moved hW.alike C.2.2.2.2.2.2.2.1, sr_J.to hS hU hW C.2.2.2.2.2.2.2.2⟩⟩ rfl (by rw [List.length_map]; exact hn) hl.1 ?_ ?_ hd ⟨hk0, hn0⟩) hS (fun r D' H1 locs1 hQ hP1 hS1 => ?_)
  · exact (sr_mapapp (st := .ref o :: st)).trans rfl
  · rw [sr_catsum]; simpa [JFrame.monitorRoom] using hW
  · have h := kk r D' hQ p e s m args below meth c H1 locs1 ls C X hP1 hS1 hl
    rw [List.map_append] at h
    cases r <;> exact h
end WGs
abbrev M_xr : sr_Md := (yX6_raced, cX6_raced, 3, (some .int), 8, 120)
abbrev M_lr : sr_Md := (yL_raced, cL_raced, 5, (some .int), 9, 150)
def xr_Q (g : sr_G) (D : sr_St) (r : Nat) (v w : Int32) : Array Value → State → Outcome → State → Prop := va_Qi (fun (x : Int32) (_ : Unit) => ∃ q k, q < r ∧ k < 4 ∧ v = nI q ∧ w = nI k ∧ x = D.1 (2 + k) q) (fun _ t => sr_P g D t.heap ∧ sr_K g t) (sr_A g.2.2.2.1)
def xr_X (g : sr_G) (D : sr_St) (r : Nat) (v w : Int32) : String → State → State → Prop := vx_X (fun _ : Unit => ¬ sr_racedOk r v w) (fun E _ t => E = "java/util/NoSuchElementException" ∧ sr_P g D t.heap ∧ sr_K g t) (sr_A g.2.2.2.1)
def xr_Z (g : sr_G) (D : sr_St) (r : Nat) (v w : Int32) : List Frame → Array Value → State → State → Prop := fun below args s => vx_MQ below (xr_Q g D r v w) (xr_X g D r v w) args s 1 6 (sr_A g.2.2.2.1)
def xr_X0 (g : sr_G) : State → Code → Prop := fun s c => EX g s ∧ ∀ x ∈ c.exceptionTable.toList, False
def kx_rx : ByteArray := ⟨#[42, 43, 183, 0, 13, 177]⟩
def kx_ps : List Nat := [80, 725, 734, 736, 739, 741, 726, 727, 91, 92, 728, 733, 737, 757, 715, 758, 717, 759, 719, 729, 731, 721, 753, 754, 756, 721, 744, 745, 746, 747, 747, 748, 749, 750, 750, 751, 752, 753, 743, 704, 712, 713, 714, 716, 718, 720, 724, 723, 722]
theorem kx_eq : (kx_at RX6 150 "java/util/NoSuchElementException" 13 kx_rx "java/lang/RuntimeException" ["java/lang/Exception"]).filter goodWord = kx_ps.filterMap (fun i => lw_tbl[i]?) := by decide +kernel
theorem kx_bad : ∀ w ∈ (kx_at RX6 150 "java/util/NoSuchElementException" 13 kx_rx "java/lang/RuntimeException" ["java/lang/Exception"]).filter (fun w => !goodWord w), w ∈ [Cond.declares (Bundle.initS "java/lang/RuntimeException"), Cond.declares (Bundle.initS "java/lang/Exception"), Cond.declares (Bundle.initS "java/lang/Throwable"), Cond.castable "java/util/NoSuchElementException" "java/util/NoSuchElementException"] := by decide +kernel
theorem xr_hat {args : Array Value} {s : State} {g : sr_G} (hts : ∀ w ∈ sr_ws, w.before args s = true) (hE : EX g s) : ∀ w ∈ kx_at RX6 150 "java/util/NoSuchElementException" 13 kx_rx "java/lang/RuntimeException" ["java/lang/Exception"], w.before args s = true := by
  refine vx_hat (fun w hw => ?_) kx_bad (vx_c (va_Nw.use rfl hE.2.2.2.1) (vx_c (va_Nw.use rfl hE.2.2.2.2.1) (vx_c (va_Nw.use rfl hE.2.2.2.2.2.1) (vx_c (va_Nw.use rfl hE.2.2.2.2.2.2) vx_n))))
  have hg := (List.mem_filter.mp hw).2
  rw [kx_eq] at hw
  obtain ⟨i, -, hi⟩ := List.mem_filterMap.mp hw
  exact hts w (List.mem_filter.mpr ⟨List.mem_of_getElem? hi, hg⟩)
theorem xr_good : ∀ w ∈ Cond.classLink RX6 146 "java/util/NoSuchElementException" :: Cond.initialized "java/util/NoSuchElementException" :: kx_at RX6 150 "java/util/NoSuchElementException" 13 kx_rx "java/lang/RuntimeException" ["java/lang/Exception"], vx_ot w = true := by decide +kernel
theorem xr_throw {g : sr_G} {D : sr_St} {r : Nat} {v w : Int32} {pc is i : Nat} {lv : List (Nat × Value)} (hi : i < 8) (e1 : st_O.getD i "" = RX6) (e2 : st_I.getD i 0 = is) (d0 : decode cX6_raced pc = .ok (.new 146, 3)) (d3 : decode cX6_raced (pc + 3) = .ok (.dup, 1)) (d4 : decode cX6_raced (pc + 4) = .ok (.ldc is, 2)) (d6 : decode cX6_raced (pc + 6) = .ok (.invokespecial 150, 3)) (d9 : decode cX6_raced (pc + 9) = .ok (.athrow, 1)) (hno : ¬ sr_racedOk r v w) : WG g M_xr (xr_X0 g) (xr_Z g D r v w) 0 0 pc lv [] D := by
  intro p e s m args below meth c H locs ls C X hP hS hl
  have hts := C.2.2.2.2.2.2.1
  have hstr := C.2.2.2.2.2.2.2.2.2.2.1 i hi
  rw [e1, e2] at hstr
  refine kx_make (own := RX6) (cls := "java/util/NoSuchElementException") (Y0 := "java/lang/RuntimeException") (names := ["java/lang/Exception"]) (ik := 146) (is := is) (ic := 150) (ix := 13) (rx := kx_rx) (A := sr_A g.2.2.2.1) C.1 C.2.1 X.1.1 (by decide +kernel) (by decide +kernel) (by decide +kernel) (by decide +kernel) C.2.2.2.2.1 (by decide +kernel) (by decide +kernel) (by decide +kernel) (hts (.classLink RX6 146 "java/util/NoSuchElementException") (sr_mt3 (List.mem_of_getElem? (i := 157) rfl) rfl)) (hts (.initialized "java/util/NoSuchElementException") (sr_mt1 (List.mem_of_getElem? (i := 17) rfl) rfl)) hstr (xr_hat hts X.1) xr_good X.1.2.1 X.1.2.2.1 hS (hl.1.trans C.2.2.2.1.symm) d0 d3 d4 d6 (by decide) (Nat.le_of_ble_eq_true rfl) (by decide) (by decide) (fun q ce H1 hq hv hcl hz hk => ?_)
  exact kx_athrow C.1 C.2.1 d9 (vx_out (E := "java/util/NoSuchElementException") (fun x hx => (X.2 x hx).elim) C.2.2.2.2.2.1 hq hv hcl (fun t ht hal => ⟨(), hno, ⟨rfl, by rw [ht]; exact hP.kept (fun k x hx => hk x.1 ((hP k x hx).lt)), va_K.moved hal C.2.2.2.2.2.2.2.1⟩, by rw [ht]; exact Nat.le_trans hS.1 hz, fun q h1 h2 => by rw [ht]; exact (hk q (Nat.lt_of_lt_of_le h1 hS.1)).trans (hS.2.1 q h1 h2)⟩) hS.2.2 (by decide) (by decide))
theorem xr_iret {g : sr_G} {D : sr_St} {r : Nat} {v w x : Int32} {pc : Nat} {lv : List (Nat × Value)} (hd : decode cX6_raced pc = .ok (.ireturn, 1)) (hq : ∃ q k, q < r ∧ k < 4 ∧ v = nI q ∧ w = nI k ∧ x = D.1 (2 + k) q) : WG g M_xr (xr_X0 g) (xr_Z g D r v w) 0 0 pc lv [.int x] D := by
  intro p e s m args below meth c H locs ls C X hP hS hl
  have hlocks := C.2.2.2.2.2.1
  exact vx_ret (W.widen (k := 1) (n := 6) (by decide) (by decide) (W.iret (v := x) C.1 C.2.1 C.2.2.1 (fun t ht hW => ⟨⟨x, (), rfl, hq, by rw [ht]; exact hP, va_K.moved hW.alike C.2.2.2.2.2.2.2.1⟩, hS.F ht⟩) hS.2.2 hd))
set_option maxHeartbeats 4000000 in
theorem xr_body (g : sr_G) (D : sr_St) (r : Nat) (hr : D.1 1 2 = nI r) (hr12 : r ≤ 12) (v w : Int32) : WG g M_xr (xr_X0 g) (xr_Z g D r v w) 0 0 0 [(0, .ref 0), (1, .int v), (2, .int w)] [] D := by
  refine wg_aload_n dX6_raced_0 rfl rfl ?_
  refine wg_getR (r := 1) dX6_raced_1 fl_X6_10 (by decide) rfl rfl rfl ?_
  refine wg_iload_n dX6_raced_4 rfl rfl ?_
  refine wg_callV (M2 := M_X3_hasRace) (n := 1) (As := [.int v]) (st := []) dX6_raced_5 (c_X3_hasRace1 g D r hr (by omega) v) ca_X6_126 ⟨nm_X3_hasRace, by decide, by decide⟩ rfl (by decide) rfl rfl rfl (Nat.le_of_ble_eq_true rfl) (by decide) (by decide) (fun r1 E1 q1 => ?_)
  obtain ⟨rfl, rfl⟩ := q1
  show WG g M_xr (xr_X0 g) (xr_Z g D r v w) 0 0 8 _ [.int (sr_b (sr_isIn v (nI 0) (nI r - nI 1)))] D
  refine wg_if_ne (tgt := 21) dX6_raced_8 (by decide) (fun c1 => ?_) (fun c1 => ?_)
  · have h1 : sr_isIn v (nI 0) (nI r - nI 1) = true := by
      cases h : sr_isIn v (nI 0) (nI r - nI 1) with
      | true => rfl
      | false => rw [h] at c1; exact absurd rfl c1
    obtain ⟨q, hq, rfl⟩ := (sr_in_n (by omega)).mp h1
    refine wg_iload_n dX6_raced_21 rfl rfl ?_
    by_cases hw : w.toInt < 0 ∨ 3 < w.toInt
    · refine wg_tableOut (tgt := 92) dX6_raced_22 hw (by decide) (xr_throw (is := 165) (i := 7) (by decide) rfl rfl dX6_raced_92 dX6_raced_95 dX6_raced_96 dX6_raced_98 dX6_raced_101 ?_)
      rintro ⟨q2, k, h2, h3, h4, h5⟩
      rw [h5, nI_toInt (by omega)] at hw
      omega
    · obtain ⟨k, hk0, hk⟩ := nI_of (x := w) (by rw [Int32.lt_iff_toInt_lt]; show ¬ _ < (0 : Int); omega)
      subst hk
      have hk4 : k < 4 := by
        rw [nI_toInt hk0] at hw
        omega
      rcases (show k = 0 ∨ k = 1 ∨ k = 2 ∨ k = 3 by omega) with rfl | rfl | rfl | rfl
      · refine wg_tableIn (off := 30) (tgt := 52) dX6_raced_22 (by decide) (by decide) (by decide) (by decide) ?_
        refine wg_aload_n dX6_raced_52 rfl rfl ?_
        refine wg_getR (r := 1) dX6_raced_53 fl_X6_10 (by decide) rfl rfl rfl ?_
        refine wg_getR (r := 2) dX6_raced_56 fl_X6_153 (by decide) rfl rfl rfl ?_
        refine wg_iload_n dX6_raced_59 rfl rfl ?_
        refine wg_iald dX6_raced_60 (by decide) rfl (by show q < 12; omega) (by omega) ?_
        exact xr_iret dX6_raced_61 ⟨q, 0, hq, by decide, rfl, rfl, rfl⟩
      · refine wg_tableIn (off := 40) (tgt := 62) dX6_raced_22 (by decide) (by decide) (by decide) (by decide) ?_
        refine wg_aload_n dX6_raced_62 rfl rfl ?_
        refine wg_getR (r := 1) dX6_raced_63 fl_X6_10 (by decide) rfl rfl rfl ?_
        refine wg_getR (r := 3) dX6_raced_66 fl_X6_156 (by decide) rfl rfl rfl ?_
        refine wg_iload_n dX6_raced_69 rfl rfl ?_
        refine wg_iald dX6_raced_70 (by decide) rfl (by show q < 12; omega) (by omega) ?_
        exact xr_iret dX6_raced_71 ⟨q, 1, hq, by decide, rfl, rfl, rfl⟩
      · refine wg_tableIn (off := 50) (tgt := 72) dX6_raced_22 (by decide) (by decide) (by decide) (by decide) ?_
        refine wg_aload_n dX6_raced_72 rfl rfl ?_
        refine wg_getR (r := 1) dX6_raced_73 fl_X6_10 (by decide) rfl rfl rfl ?_
        refine wg_getR (r := 4) dX6_raced_76 fl_X6_159 (by decide) rfl rfl rfl ?_
        refine wg_iload_n dX6_raced_79 rfl rfl ?_
        refine wg_iald dX6_raced_80 (by decide) rfl (by show q < 12; omega) (by omega) ?_
        exact xr_iret dX6_raced_81 ⟨q, 2, hq, by decide, rfl, rfl, rfl⟩
      · refine wg_tableIn (off := 60) (tgt := 82) dX6_raced_22 (by decide) (by decide) (by decide) (by decide) ?_
        refine wg_aload_n dX6_raced_82 rfl rfl ?_
        refine wg_getR (r := 1) dX6_raced_83 fl_X6_10 (by decide) rfl rfl rfl ?_
        refine wg_getR (r := 5) dX6_raced_86 fl_X6_162 (by decide) rfl rfl rfl ?_
        refine wg_iload_n dX6_raced_89 rfl rfl ?_
        refine wg_iald dX6_raced_90 (by decide) rfl (by show q < 12; omega) (by omega) ?_
        exact xr_iret dX6_raced_91 ⟨q, 3, hq, by decide, rfl, rfl, rfl⟩
  · refine xr_throw (is := 148) (i := 6) (by decide) rfl rfl dX6_raced_11 dX6_raced_14 dX6_raced_15 dX6_raced_17 dX6_raced_20 ?_
    rintro ⟨q, k, h1, h2, h3, h4⟩
    have h5 : sr_isIn v (nI 0) (nI r - nI 1) = true := (sr_in_n (by omega)).mpr ⟨q, h1, h3⟩
    rw [h5] at c1
    exact absurd c1 (by decide)
def xr_Pc (g : sr_G) (D : sr_St) (av : List Value) : Array Value → State → Prop := va_Pc (av.map (sr_cv g.2.2.2.1)) (fun U => (sr_P g D U.heap ∧ sr_K g U ∧ sr_J g U) ∧ EX g U)
theorem xr_blind {g : sr_G} {D : sr_St} {av : List Value} : FrameBlind (xr_Pc g D av) := fun a U gf mk q => ⟨q.1, ⟨q.2.1.1, va_K.moved (u := U) (U := U.calling gf mk a) (Vm.Alike.refl U.vm) q.2.1.2.1, q.2.1.2.2.call⟩, q.2.2.call⟩
abbrev xr_rm (M : sr_Md) : Room := { frames := M.2.2.2.2.1, cells := 1, slots := 6, locals := M.2.2.2.2.2 }
theorem xr_met (g : sr_G) (D : sr_St) (r : Nat) (hr : D.1 1 2 = nI r) (hr12 : r ≤ 12) (v w : Int32) : vx_Met g.1 yX6_raced (.code yX6_raced cX6_raced 3 (some .int) :: sr_ws) (xr_rm M_xr) (xr_Pc g D [.ref 0, .int v, .int w]) (xr_Q g D r v w) (xr_X g D r v w) 1 6 (sr_A g.2.2.2.1) := by
  refine vx_ofW (cc := cX6_raced) (maxL := 3) (ret := some .int) pn_X6_raced rfl ?_
  intro p e s m args below meth c s₁ B hml ht hv
  obtain ⟨rfl, ⟨hP, hK, hi⟩, hE⟩ := hv
  have hts := atoms_spec (ws := .code yX6_raced cX6_raced 3 (some .int) :: sr_ws) B.pre
  have hown : s.vm.findClass RX6 = some m.cls := findClass_of_methodNamed B.named
  have hlocks := B.notSynchronized
  have hl := lv_entry ([.ref 0, .int v, .int w].map (sr_cv g.2.2.2.1)) (n := 3) (Nat.le_of_ble_eq_true rfl)
  rw [lg_entry_eq]
  rw [sr_args_map] at hl
  exact xr_body g D r hr hr12 v w p e s m _ below meth c s.heap [] _ ⟨B.exec, B.bytes, B.returns, hml, hown, hlocks, fun w hw => hts w (List.mem_cons_of_mem _ hw), hK, hi⟩ ⟨hE, ht⟩ hP va_S.rf hl
/-! the law's own raced: it catches -/
def lr_Q (D : sr_St) (r : Nat) (v w : Int32) : Option Value → sr_St → Prop := fun a D' => (¬ sr_racedOk r v w ∧ a = some (.int (nI 1)) ∧ D' = D) ∨ ∃ q k, q < r ∧ k < 4 ∧ v = nI q ∧ w = nI k ∧ a = some (.int (nI 0)) ∧ D' = sr_sJ D 73 0 (D.1 (2 + k) q).toInt64
def lr_Z (g : sr_G) (D : sr_St) (r : Nat) (v w : Int32) : List Frame → Array Value → State → State → Prop := fun below args s => MQ below (sr_QC g (lr_Q D r v w)) args s 1 6 (sr_A g.2.2.2.1)
def lr_X0 (g : sr_G) : State → Code → Prop := fun s c => EX g s ∧ c.exceptionTable.toList = tableOf [(0, 10, 13, 13)]
theorem lr_iret {g : sr_G} {D E : sr_St} {r : Nat} {v w x : Int32} {pc : Nat} {lv : List (Nat × Value)} (hd : decode cL_raced pc = .ok (.ireturn, 1)) (hq : lr_Q D r v w (some (.int x)) E) : WG g M_lr (lr_X0 g) (lr_Z g D r v w) 1 6 pc lv [.int x] E := by
  intro p e s m args below meth c H locs ls C X hP hS hl
  have hlocks := C.2.2.2.2.2.1
  exact W.iret (v := x) C.1 C.2.1 C.2.2.1 (fun t ht hW => ⟨⟨some (.int x), E, rfl, hq, by rw [ht]; exact hP, va_K.moved hW.alike C.2.2.2.2.2.2.2.1⟩, hS.F ht⟩) hS.2.2 hd
set_option maxHeartbeats 4000000 in
theorem lr_body (g : sr_G) (D : sr_St) (r : Nat) (hr : D.1 1 2 = nI r) (hr12 : r ≤ 12) (v w : Int32) : WG g M_lr (lr_X0 g) (lr_Z g D r v w) 0 0 0 [(0, .ref 0), (1, .int v), (2, .int w), (3, .ref 73)] [] D := by
  refine wg_aload_n dL_raced_0 rfl rfl ?_
  refine wg_iconst (v := nI 0) dL_raced_1 rfl ?_
  refine wg_aload_n dL_raced_2 rfl rfl ?_
  refine wg_iload_n dL_raced_3 rfl rfl ?_
  refine wg_iload_n dL_raced_4 rfl rfl ?_
  intro p e s m args below meth c H locs ls C X hP hS hl
  have hts := C.2.2.2.2.2.2.1
  have hrec := va_recv C.2.2.2.2.2.2.2.1 hP (show vwCl[6]? = some _ from rfl) (sr_obj (ad := g.2.2.2.1) (cy := g.2.2.2.2) (D := D) (o := 0) (by decide) rfl (by decide))
  refine vx_calli (vx_runV (As := [.int v, .int w]) (rest := [.int (nI 0), .ref (g.2.2.2.1 73)]) (n := 2) ⟨C.1, C.2.1, C.2.2.2.1, C.2.2.2.2.1, hts⟩ (xr_met g D r hr hr12 v w) ⟨callB_of 2 hts (k_gin (sr_mt3 (List.mem_of_getElem? (i := 156) rfl) rfl)) rfl rfl rfl (hts _ (sr_mt1 (List.mem_of_getElem? (i := 1) rfl) rfl)) (hts _ (sr_mt3 (List.mem_of_getElem? (i := 153) rfl) rfl)) nm_X6_raced ⟨by decide, by decide⟩, hts _ (sr_mt3 (List.mem_of_getElem? (i := 154) rfl) rfl), hts _ (sr_mt3 (List.mem_of_getElem? (i := 155) rfl) rfl)⟩ ⟨xr_blind, hrec, fun U hU hW => ⟨rfl, ⟨by rw [hU]; exact hP, va_K.moved hW.alike C.2.2.2.2.2.2.2.1, sr_J.to hS hU hW C.2.2.2.2.2.2.2.2⟩, EX.to hS hU hW X.1⟩⟩ rfl rfl hl.1 rfl (Nat.le_of_ble_eq_true rfl) dL_raced_5 ⟨by decide, by decide⟩) hS (fun _ _ h => h) (fun _ h => h) (fun _ _ h => h) (fun E ce q9 u t H1 locs1 ht hal hpx hBX hz hkept hS1 hcell hv hcl => ?_) (fun x u t H1 locs1 ht hal hpost hB hz hkept hS1 => ?_)
  · obtain ⟨rfl, hP1, hK1⟩ := hBX
    rw [ht] at hP1
    refine vx_catch (own := RL) (name := "java/util/NoSuchElementException") C.2.2.2.2.1 [] ⟨0, 10, 13, 13⟩ [] X.2 (fun z hz => nomatch hz) (by decide) (by decide) (hts _ (sr_mt3 (List.mem_of_getElem? (i := 152) rfl) rfl)) (va_Nw.use rfl X.1.2.2.2.2.2.2) hcell hv hcl ?_
    refine lv_astore C.1 C.2.1 dL_raced_13 hl (by decide) rfl (fun ls' hl' => ?_)
    exact (wg_iconst (v := nI 1) dL_raced_15 rfl (lr_iret dL_raced_16 (Or.inl ⟨hpx, rfl, rfl⟩)) : WG g M_lr (lr_X0 g) (lr_Z g D r v w) 1 6 15 [] [] D) p e s m args below meth c H1 locs1 ls' C X hP1 hS1 ⟨hl'.1, hl'.2.1, fun q hq => nomatch hq⟩
  · obtain ⟨hP1, hK1⟩ := hB
    rw [ht] at hP1
    obtain ⟨q, k, h1, h2, h3, h4, h5⟩ := hpost
    have hw : WG g M_lr (lr_X0 g) (lr_Z g D r v w) 1 6 8 [(0, .ref 0), (1, .int v), (2, .int w), (3, .ref 73)] [.int x, .int (nI 0), .ref 73] D := by
      refine wg_i2l dL_raced_8 ?_
      refine wg_last (o := 73) (n := 0) dL_raced_9 (by decide) rfl (by decide) (by decide) ?_
      refine wg_goto (tgt := 17) dL_raced_10 (by decide) ?_
      refine wg_iconst (v := nI 0) dL_raced_17 rfl ?_
      exact lr_iret dL_raced_18 (Or.inr ⟨q, k, h1, h2, h3, h4, rfl, by rw [h5]⟩)
    exact hw p e s m args below meth c H1 locs1 ls C X hP1 hS1 hl
theorem lr_met (g : sr_G) (D : sr_St) (r : Nat) (hr : D.1 1 2 = nI r) (hr12 : r ≤ 12) (v w : Int32) : Met g.1 yL_raced (.codeWith yL_raced cL_raced 5 (some .int) [(0, 10, 13, 13)] :: sr_ws) (xr_rm M_lr) (xr_Pc g D [.ref 0, .int v, .int w, .ref 73]) (sr_QC g (lr_Q D r v w)) 1 6 (sr_A g.2.2.2.1) := by
  refine va_MetW (cc := cL_raced) (maxL := 5) (ret := some .int) (by decide +kernel) rfl ?_
  intro p e s m args below meth c s₁ B hml hv
  obtain ⟨rfl, ⟨hP, hK, hi⟩, hE⟩ := hv
  have hts := atoms_spec (ws := .codeWith yL_raced cL_raced 5 (some .int) [(0, 10, 13, 13)] :: sr_ws) B.pre
  have hown : s.vm.findClass RL = some m.cls := findClass_of_methodNamed B.named
  have hlocks := B.notSynchronized
  have htab := vx_table (x := yL_raced) B (hts _ List.mem_cons_self)
  have hl := lv_entry ([.ref 0, .int v, .int w, .ref 73].map (sr_cv g.2.2.2.1)) (n := 5) (Nat.le_of_ble_eq_true rfl)
  rw [lg_entry_eq]
  rw [sr_args_map] at hl
  exact lr_body g D r hr hr12 v w p e s m _ below meth c s.heap [] _ ⟨B.exec, B.bytes, B.returns, hml, hown, hlocks, fun w hw => hts w (List.mem_cons_of_mem _ hw), hK, hi⟩ ⟨hE, htab⟩ hP va_S.rf hl
section LRC
variable {g : sr_G} {B : sr_B} {k0 n0 i : Nat} {D : sr_St}
theorem sr_call1 {p : Program} {e : Env} {R : Room} {s : State} {m : MethodId} {args : Array Value} {below : List Frame} {meth : Method} {c : Code} {H : Heap} {locs : List Loc} {cells slots pc : Nat} {Qf : State → Prop} {ls : Array Slot} {st0 rest : List Value} {a : Array Value} {Q' : Option Value → sr_St → Prop}
    (hr : va_Run p g.1 e R s m args below meth c H locs cells slots 1 6 (F0 m pc ls st0) rest (sr_QC g Q' a) (sr_A g.2.2.2.1)) (hS : va_S (sr_A g.2.2.2.1) s.heap H locs)
    (kk : ∀ (r : Option Value) (D' : sr_St) (H1 : Heap) (locs1 : List Loc), Q' r D' → sr_P g D' H1 → va_S (sr_A g.2.2.2.1) s.heap H1 locs1 → W p g.1 e R s m args below meth c H1 locs1 (cells + 1) (slots + 6) Qf (F0 m (pc + 3) ls ((r.map (sr_cv g.2.2.2.1)).toList ++ rest))) : W p g.1 e R s m args below meth c H locs cells slots Qf (F0 m pc ls st0) := by
  intro T hT X
  obtain ⟨v, st₀, t, T', L, h0, X', hL, e1, e2, ⟨⟨r, D', hv, hq, hp, hk⟩, hz, hkk⟩, st⟩ := hr T hT X
  cases hv
  rw [h0] at hz hkk
  obtain ⟨t2, a1, b1⟩ := kk r D' T'.heap (locs ++ L) hq (by rw [e1]; exact hp)
    ⟨Nat.le_trans hS.1 (by rw [e1]; exact hz), fun q h1 h2 => by rw [e1, hkk q (Nat.lt_of_lt_of_le h1 hS.1) h2]; exact hS.2.1 q h1 h2, fun q hq => by
      rcases List.mem_append.mp hq with h | h
      · exact hS.2.2 q h
      · exact hL q h⟩ T' rfl X'
  exact ⟨t2, st t2 a1, b1⟩
theorem wl_raced {r : Nat} {v w : Int32} {lv : List (Nat × Value)} (hr : D.1 1 2 = nI r) (hr12 : r ≤ 12) (hk : k0 + 10 ≤ 603142) (hn : n0 + 100 ≤ 7286679) (kk : ∀ (a : Option Value) (D' : sr_St), lr_Q D r v w a D' → WL g B (k0 + 1) (n0 + 6) 462 lv (a.toList ++ []) D') : WL g B k0 n0 459 lv [.ref 73, .int w, .int v, .ref 0] D := by
  intro p e s m below meth c H locs ls C X hP hS hl
  have hts := C.2.2.2.2.2.2.1
  refine sr_call1 (vx_runSW (hh := [(0, 10, 13, 13)]) (As := [.ref (g.2.2.2.1 0), .int v, .int w, .ref (g.2.2.2.1 73)]) (rest := []) (n := 4) ⟨C.1, C.2.1, C.2.2.2.1, C.2.2.2.2.1, hts⟩ (lr_met g D r hr hr12 v w) ⟨⟨rfl, rfl, by decide, by decide, pay_in hts (k_gin (sr_mt3 (List.mem_of_getElem? (i := 151) rfl) rfl)), List.mem_cons_self⟩, hts _ (sr_mt3 (List.mem_of_getElem? (i := 151) rfl) rfl), hts _ (sr_mt1 (List.mem_of_getElem? (i := 0) rfl) rfl), ⟨by decide, by decide⟩, fun sig h => ?_, hts _ (sr_mt3 (List.mem_of_getElem? (i := 149) rfl) rfl), hts _ (sr_mt3 (List.mem_of_getElem? (i := 150) rfl) rfl)⟩ ⟨xr_blind, fun U hU hW => ⟨rfl, ⟨by rw [hU]; exact hP, va_K.moved hW.alike C.2.2.2.2.2.2.2.1, sr_J.to hS hU hW C.2.2.2.2.2.2.2.2⟩, EX.to hS hU hW X.2.2.2.2.2⟩⟩ rfl rfl hl.1 rfl (Nat.le_of_ble_eq_true rfl) dL_law_459 ⟨by show k0 + 1 ≤ 603142; omega, by show n0 + 6 ≤ 7286679; omega⟩) hS (fun a D' H1 locs1 hQ hP1 hS1 => ?_)
  · have h2 : (parseMethodDescriptor yL_raced.desc).map (fun d => d.parameters.length) = some 4 := by decide +kernel
    rw [h] at h2
    exact (Option.some.inj h2).symm
  · have h := kk a D' hQ p e s m below meth c H1 locs1 ls C X hP1 hS1 hl
    rw [List.map_append] at h
    cases a <;> exact h
theorem wl_sub {pc : Nat} {lv lv' : List (Nat × Value)} {st : List Value} (h : ∀ q ∈ lv', q ∈ lv) (k : WL g B k0 n0 pc lv' st D) : WL g B k0 n0 pc lv st D := by
  intro p e s m below meth c H locs ls C X hP hS hl
  refine k p e s m below meth c H locs ls C X hP hS ⟨hl.1, hl.2.1, fun q hq => ?_⟩
  obtain ⟨q', hq', rfl⟩ := List.mem_map.mp hq
  exact hl.2.2 _ (List.mem_map_of_mem (h q' hq'))
theorem inv_raced {n r : Nat} {x : Int64} {y : Int32} (h : INV' D n r) : INV' (sr_sI (sr_sJ D 73 0 x) 63 0 y) n r := h.fr (fun o ho => by
    show (if o = 63 then _ else D.1 o) = D.1 o
    rw [if_neg (by omega)]) (fun o ho => by
    show (if o = 73 then _ else D.2 o) = D.2 o
    rw [if_neg (by omega)]) (fun k hk => by
    show upd (D.1 63) 0 y k = _
    unfold upd
    rw [if_neg (by omega)])
theorem inv_raced0 {n r : Nat} {y : Int32} (h : INV' D n r) : INV' (sr_sI D 63 0 y) n r := h.fr (fun o ho => by
    show (if o = 63 then _ else D.1 o) = D.1 o
    rw [if_neg (by omega)]) (fun o ho => rfl) (fun k hk => by
    show upd (D.1 63) 0 y k = _
    unfold upd
    rw [if_neg (by omega)])
theorem law_rc : law_RC g B := by
  intro k0 n0 i D hk hn hL hi hI K
  obtain ⟨n, r, h⟩ := hI
  have hlg := h.1.2.1
  have hr := hlg.2.2.1
  have hr12 : r ≤ 12 := h.1.1.1.2.2.2
  have hr64 : D.1 64 2 = nI r := h.1.1.1.2.2.1
  refine wl_aload_n dL_law_445 rfl rfl ?_
  refine wl_aload_n dL_law_446 rfl rfl ?_
  refine wl_iload dL_law_447 rfl ?_
  refine wl_iconst (v := nI 1) dL_law_449 rfl ?_
  refine wl_iadd_n dL_law_450 ?_
  refine wl_sld dL_law_451 (by omega) ?_
  refine wl_aload_n dL_law_452 rfl rfl ?_
  refine wl_iload dL_law_453 rfl ?_
  refine wl_iconst (v := nI 2) dL_law_455 rfl ?_
  refine wl_iadd_n dL_law_456 ?_
  refine wl_sld dL_law_457 (by omega) ?_
  refine wl_aload_n dL_law_458 rfl rfl ?_
  refine wl_raced hr hr12 hk hn (fun a D1 q1 => ?_)
  rcases q1 with ⟨hno, rfl, rfl⟩ | ⟨q, k, hq, hk4, hv, hw, rfl, rfl⟩
  · show WL g B (k0 + 1) (n0 + 6) 462 _ [.int (nI 1)] D1
    refine wl_istore (lv' := [(0, .ref 91), (1, .ref 0), (2, .ref 63), (3, .ref 73), (4, .int (nI i)), (5, .int (nI 1))]) dL_law_462 (by decide) rfl ?_
    refine wl_aload_n dL_law_464 rfl rfl ?_
    refine wl_aload_n dL_law_465 rfl rfl ?_
    refine wl_iload dL_law_466 rfl ?_
    refine wl_iconst (v := nI 1) dL_law_468 rfl ?_
    refine wl_iadd_n dL_law_469 ?_
    refine wl_sld dL_law_470 (by omega) ?_
    refine wl_aload_n dL_law_471 rfl rfl ?_
    refine wl_iload dL_law_472 rfl ?_
    refine wl_iconst (v := nI 2) dL_law_474 rfl ?_
    refine wl_iadd_n dL_law_475 ?_
    refine wl_sld dL_law_476 (by omega) ?_
    refine wl_call (M2 := M_X7_raced) (n := 2) (o := 63) (kd := 7) (As := [.int (B.2.2 (i + 1)), .int (B.2.2 (i + 2))]) (st := []) dL_law_477 (c_X7_raced g D1 r hr64 hr12 _ _) ca_L_65 nm_X7_raced (by decide) rfl (by decide) rfl rfl rfl (Nat.le_of_ble_eq_true rfl) (by omega) (by omega) (fun r2 D2 q2 => ?_)
    obtain ⟨hD2, x, rfl⟩ := q2.2 hno
    subst hD2
    show WL g B (k0 + 1) (n0 + 6) 480 _ [.int x] _
    refine wl_istore (lv' := [(0, .ref 91), (1, .ref 0), (2, .ref 63), (3, .ref 73), (4, .int (nI i)), (5, .int (nI 1)), (6, .int x)]) dL_law_480 (by decide) rfl ?_
    refine wl_aload_n dL_law_482 rfl rfl ?_
    refine wl_call (M2 := M_X7_thrown) (n := 0) (o := 63) (kd := 7) (As := []) (st := []) dL_law_483 (c_X7_thrown g _) ca_L_66 nm_X7_thrown (by decide) rfl (by decide) rfl rfl rfl (Nat.le_of_ble_eq_true rfl) (by omega) (by omega) (fun r3 D3 q3 => ?_)
    obtain ⟨rfl, rfl⟩ := q3
    rw [sr_sI_same]
    show WL g B (k0 + 1) (n0 + 6) 486 _ [.int (nI 1)] _
    refine wl_iload dL_law_486 rfl ?_
    refine wl_icmp_eq (tgt := 493) dL_law_488 (by decide) (fun _ => ?_) (fun z => absurd rfl z)
    refine wl_iload dL_law_493 rfl ?_
    refine wl_if_ne (tgt := 510) dL_law_495 (by decide) (fun _ => ?_) (fun z => absurd z (by decide))
    refine wl_goto (tgt := 1168) dL_law_510 (by decide) ?_
    refine wl_wide (by omega) (by omega) (wl_sub ?_ (K _ ⟨n, r, inv_raced0 h⟩))
    exact fun q hq => List.mem_append_left [((5 : Nat), Value.int (nI 1)), (6, Value.int x)] hq
  · show WL g B (k0 + 1) (n0 + 6) 462 _ [.int (nI 0)] _
    refine wl_istore (lv' := [(0, .ref 91), (1, .ref 0), (2, .ref 63), (3, .ref 73), (4, .int (nI i)), (5, .int (nI 0))]) dL_law_462 (by decide) rfl ?_
    refine wl_aload_n dL_law_464 rfl rfl ?_
    refine wl_aload_n dL_law_465 rfl rfl ?_
    refine wl_iload dL_law_466 rfl ?_
    refine wl_iconst (v := nI 1) dL_law_468 rfl ?_
    refine wl_iadd_n dL_law_469 ?_
    refine wl_sld dL_law_470 (by omega) ?_
    refine wl_aload_n dL_law_471 rfl rfl ?_
    refine wl_iload dL_law_472 rfl ?_
    refine wl_iconst (v := nI 2) dL_law_474 rfl ?_
    refine wl_iadd_n dL_law_475 ?_
    refine wl_sld dL_law_476 (by omega) ?_
    refine wl_call (M2 := M_X7_raced) (n := 2) (o := 63) (kd := 7) (As := [.int (B.2.2 (i + 1)), .int (B.2.2 (i + 2))]) (st := []) dL_law_477 (c_X7_raced g (sr_sJ D 73 0 (D.1 (2 + k) q).toInt64) r hr64 hr12 _ _) ca_L_65 nm_X7_raced (by decide) rfl (by decide) rfl rfl rfl (Nat.le_of_ble_eq_true rfl) (by omega) (by omega) (fun r2 D2 q2 => ?_)
    obtain ⟨rfl, hD2⟩ := q2.1 q k hq hk4 hv hw
    subst hD2
    have ex : D.1 (2 + k) q = (sr_sJ D 73 0 (D.1 (2 + k) q).toInt64).1 64 (3 + 4 * q + k) := by
      obtain ⟨l1, l2, l3, l4⟩ := hlg.2.2.2 q hq
      rcases (show k = 0 ∨ k = 1 ∨ k = 2 ∨ k = 3 by omega) with rfl | rfl | rfl | rfl
      · exact l1
      · exact l2
      · exact l3
      · exact l4
    rw [← ex]
    generalize hx : D.1 (2 + k) q = x
    show WL g B (k0 + 1) (n0 + 6) 480 _ [.int x] _
    refine wl_istore (lv' := [(0, .ref 91), (1, .ref 0), (2, .ref 63), (3, .ref 73), (4, .int (nI i)), (5, .int (nI 0)), (6, .int x)]) dL_law_480 (by decide) rfl ?_
    refine wl_aload_n dL_law_482 rfl rfl ?_
    refine wl_call (M2 := M_X7_thrown) (n := 0) (o := 63) (kd := 7) (As := []) (st := []) dL_law_483 (c_X7_thrown g _) ca_L_66 nm_X7_thrown (by decide) rfl (by decide) rfl rfl rfl (Nat.le_of_ble_eq_true rfl) (by omega) (by omega) (fun r3 D3 q3 => ?_)
    obtain ⟨rfl, rfl⟩ := q3
    rw [sr_sI_same]
    show WL g B (k0 + 1) (n0 + 6) 486 _ [.int (nI 0)] _
    refine wl_iload dL_law_486 rfl ?_
    refine wl_icmp_eq (tgt := 493) dL_law_488 (by decide) (fun _ => ?_) (fun z => absurd rfl z)
    refine wl_iload dL_law_493 rfl ?_
    refine wl_if_ne (tgt := 510) dL_law_495 (by decide) (fun z => absurd rfl z) (fun _ => ?_)
    refine wl_aload_n dL_law_498 rfl rfl ?_
    refine wl_iconst (v := nI 0) dL_law_499 rfl ?_
    refine wl_lald (o := 73) (n := 0) dL_law_500 (by decide) rfl (by decide) (by decide) ?_
    refine wl_iload dL_law_501 rfl ?_
    refine wl_i2l dL_law_503 ?_
    refine wl_lcmp dL_law_504 ?_
    have e0 : lg_cmp ((sr_sI (sr_sJ D 73 0 x.toInt64) 63 0 (nI 0)).2 73 0) x.toInt64 = 0 := by
      rw [sr_sI_2, sr_sJ_same]
      exact (sr_cmp_eq _ _).mpr rfl
    rw [e0]
    refine wl_if_eq (tgt := 510) dL_law_505 (by decide) (fun _ => ?_) (fun z => absurd rfl z)
    refine wl_goto (tgt := 1168) dL_law_510 (by decide) ?_
    refine wl_wide (by omega) (by omega) (wl_sub ?_ (K _ ⟨n, r, inv_raced h⟩))
    exact fun q hq => List.mem_append_left [((5 : Nat), Value.int (nI 0)), (6, Value.int x)] hq
end LRC
