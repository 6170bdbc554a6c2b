/-! ===== constructors ===== -/
set_option maxHeartbeats 4000000 in
set_option maxRecDepth 100000 in
theorem k_X2_init (l : Launch) (dC : Nat → ClassId) (dI : Nat → Nat → Nat) (h0 sz : Nat) : Met l yX2_init (.code yX2_init cX2_init 1 none :: sr_ws) ({ frames := 1, cells := 0, slots := 0, locals := 12 }) (va_Pc [.ref h0] (fun U => U.heap.size = sz ∧ va_P (dC, dI) vwCl [(h0, .inr (2, [.long 0, .long 0]))] U.heap ∧ va_K (dC, dI) vwCl [] U ∧ va_D (fun _ => True) [(h0, .inr (2, [.long 0, .long 0]))])) (va_Qv (fun _ : Unit => True) (fun _ t => va_P (dC, dI) vwCl [(h0, .inr (2, [.long 0, .long 1]))] t.heap ∧ va_K (dC, dI) vwCl [] t ∧ va_D (va_A [(h0, .inr (2, [.long 0, .long 0]))] sz) [(h0, .inr (2, [.long 0, .long 1]))]) (va_A [(h0, .inr (2, [.long 0, .long 0]))] sz)) 0 0 (va_A [(h0, .inr (2, [.long 0, .long 0]))] sz) := by
  refine Met.ofW (cc := cX2_init) (maxL := 1) (ret := none) (by decide) rfl ?_
  intro p e s m args below meth c s₁ B hml hv
  obtain ⟨rfl, hsz, hP, hK, hD0⟩ := hv
  have hx := B.exec
  have hb := B.bytes
  have hr := B.returns
  have hts0 := atoms_spec (ws := .code yX2_init cX2_init 1 none :: sr_ws) B.pre
  have hts : ∀ w ∈ sr_ws, w.before _ s = true := fun w hw => hts0 w (List.mem_cons_of_mem _ hw)
  have hown : s.vm.findClass RX2 = some m.cls := findClass_of_methodNamed B.named
  have hlocks := B.notSynchronized
  subst hsz
  have hD := hD0.self (sz := s.heap.size)
  generalize hAe : va_A [(h0, .inr (2, [.long 0, .long 0]))] s.heap.size = A at hD ⊢
  have hS : va_S A s.heap s.heap [] := va_S.rf
  have hP : va_P (dC, dI) vwCl [(h0, .inr (2, [.long 0, .long 0]))] s.heap := hP
  have hl := lv_entry ([.ref h0]) (n := 1) (Nat.le_of_ble_eq_true rfl)
  rw [lg_entry_eq]
  generalize (lg_sl ([.ref h0]) ++ List.replicate (1 - (lg_sl ([.ref h0])).length) Slot.unset).toArray = ls at hl ⊢
  have hl : lv_has ls 1 [(0, .ref h0)] := hl
  refine lv_aload_n hx hb dX2_init_0 rfl (lv_at hl 0 rfl) ?_
  refine W.objInit hx hb hown (hts (.methodLink RX2 1 objectInit) (sr_mt1 (List.mem_of_getElem? (i := 161) rfl) rfl)) (hts (.instanceMethod objectInit) (sr_mt1 (List.mem_of_getElem? (i := 25) rfl) rfl)) (hts (.code objectInit object_method_1_code 1 none) (sr_mt1 (List.mem_of_getElem? (i := 26) rfl) rfl)) rfl (by rw [hml]; exact hl.1) rfl dX2_init_1 (Nat.le_of_ble_eq_true rfl) (Nat.le_of_ble_eq_true rfl) ?_
  refine W.eq (g2 := F0 m 4 ls []) rfl ?_
  refine lv_aload_n hx hb dX2_init_4 rfl (lv_at hl 0 rfl) ?_
  refine lv_lconst (v := 0) hx hb dX2_init_5 (by decide) ?_
  refine va_put (D := (dC, dI)) (ci := 2) (v := .long 0) (ty := .long) (C := RX2) (T := TX2) (N := 2) hx hb hts (sr_in 2 (RX2, TX2, 2) rfl) tyX2 tyX2_ok nmX2 hown hK hP hD hS 0 rfl rfl 0 (by decide) (hts _ (sr_mt1 (List.mem_of_getElem? (i := 162) rfl) rfl)) (fun _ h9 => h9) rfl (by decide +kernel) rfl rfl (Nat.le_of_ble_eq_true rfl) dX2_init_6 (fun H locs hP hD hS => ?_)
  have hP : va_P (dC, dI) vwCl [(h0, .inr (2, [.long 0, .long 0]))] H := hP
  have hD : va_D A [(h0, .inr (2, [.long 0, .long 0]))] := hD
  refine lv_aload_n hx hb dX2_init_9 rfl (lv_at hl 0 rfl) ?_
  refine lv_lconst (v := 1) hx hb dX2_init_10 (by decide) ?_
  refine va_put (D := (dC, dI)) (ci := 2) (v := .long 1) (ty := .long) (C := RX2) (T := TX2) (N := 2) hx hb hts (sr_in 2 (RX2, TX2, 2) rfl) tyX2 tyX2_ok nmX2 hown hK hP hD hS 0 rfl rfl 1 (by decide) (hts _ (sr_mt1 (List.mem_of_getElem? (i := 164) rfl) rfl)) (fun _ h9 => h9) rfl (by decide +kernel) rfl rfl (Nat.le_of_ble_eq_true rfl) dX2_init_11 (fun H locs hP hD hS => ?_)
  have hP : va_P (dC, dI) vwCl [(h0, .inr (2, [.long 0, .long 1]))] H := hP
  have hD : va_D A [(h0, .inr (2, [.long 0, .long 1]))] := hD
  exact W.vret hx hb hr (fun t ht hW => ⟨⟨(), rfl, trivial, by rw [ht]; exact hP, va_K.moved hW.alike hK, hD⟩, hS.F ht⟩) hS.2.2 dX2_init_14
