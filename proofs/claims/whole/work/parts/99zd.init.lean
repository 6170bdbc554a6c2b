set_option maxHeartbeats 4000000 in
set_option maxRecDepth 100000 in
theorem k_X3_init (l : Launch) (dC : Nat → ClassId) (dI : Nat → Nat → Nat) (cy : ClassId) (h0 sz : Nat) : Met l yX3_init (.code yX3_init cX3_init 1 none :: sr_ws) ({ frames := 1, cells := 4, slots := 48, locals := 12 }) (va_Pc [.ref h0] (fun U => U.heap.size = sz ∧ va_P (dC, dI) vwCl [(h0, .inr (3, [.int 0, .int 0, .int 0, .null, .null, .null, .null]))] U.heap ∧ va_K (dC, dI) vwCl [] U ∧ va_D (fun _ => True) [(h0, .inr (3, [.int 0, .int 0, .int 0, .null, .null, .null, .null]))] ∧ U.vm.findClass ("[" ++ FieldType.int.toString) = some cy)) (va_Qv (fun _ : Unit => True) (fun _ t => ∃ q1 q2 q3 q4 : Nat, va_P (dC, dI) vwCl [(h0, .inr (3, [.int 0, .int (nI 10), .int 0, .ref q1, .ref q2, .ref q3, .ref q4])), (q1, .inl (cy, 12, .inl (fun _ => 0))), (q2, .inl (cy, 12, .inl (fun _ => 0))), (q3, .inl (cy, 12, .inl (fun _ => 0))), (q4, .inl (cy, 12, .inl (fun _ => 0)))] t.heap ∧ va_K (dC, dI) vwCl [] t ∧ va_D (va_A [(h0, .inr (3, [.int 0, .int 0, .int 0, .null, .null, .null, .null]))] sz) [(h0, .inr (3, [.int 0, .int (nI 10), .int 0, .ref q1, .ref q2, .ref q3, .ref q4])), (q1, .inl (cy, 12, .inl (fun _ => 0))), (q2, .inl (cy, 12, .inl (fun _ => 0))), (q3, .inl (cy, 12, .inl (fun _ => 0))), (q4, .inl (cy, 12, .inl (fun _ => 0)))]) (va_A [(h0, .inr (3, [.int 0, .int 0, .int 0, .null, .null, .null, .null]))] sz)) 4 48 (va_A [(h0, .inr (3, [.int 0, .int 0, .int 0, .null, .null, .null, .null]))] sz) := by
  refine Met.ofW (cc := cX3_init) (maxL := 1) (ret := none) (by decide) rfl ?_
  intro p e s m args below meth c s₁ B hml hv
  obtain ⟨rfl, hsz, hP, hK, hD0, hcy⟩ := hv
  have hx := B.exec
  have hb := B.bytes
  have hr := B.returns
  have hts0 := atoms_spec (ws := .code yX3_init cX3_init 1 none :: sr_ws) B.pre
  have hts : ∀ w ∈ sr_ws, w.before _ s = true := fun w hw => hts0 w (List.mem_cons_of_mem _ hw)
  have hown : s.vm.findClass RX3 = some m.cls := findClass_of_methodNamed B.named
  have hlocks := B.notSynchronized
  have hin : meth.name = "<init>" := (name_of_methodNamed B.named B.method).1
  subst hsz
  have hD := hD0.self (sz := s.heap.size)
  generalize hAe : va_A [(h0, .inr (3, [.int 0, .int 0, .int 0, .null, .null, .null, .null]))] s.heap.size = A at hD ⊢
  have hA : ∀ q : Nat, s.heap.size ≤ q → A q := fun q h => by rw [← hAe]; exact Or.inr h
  have hS : va_S A s.heap s.heap [] := va_S.rf
  have hP : va_P (dC, dI) vwCl [(h0, .inr (3, [.int 0, .int 0, .int 0, .null, .null, .null, .null]))] s.heap := hP
  have hl := lv_entry ([.ref h0]) (n := 1) (Nat.le_of_ble_eq_true rfl)
  rw [lg_entry_eq]
  generalize (lg_sl ([.ref h0]) ++ List.replicate (1 - (lg_sl ([.ref h0])).length) Slot.unset).toArray = ls at hl ⊢
  have hl : lv_has ls 1 [(0, .ref h0)] := hl
  refine lv_aload_n hx hb dX3_init_0 rfl (lv_at hl 0 rfl) ?_
  refine W.objInit hx hb hown (hts (.methodLink RX3 3 objectInit) (sr_mt1 (List.mem_of_getElem? (i := 32) rfl) rfl)) (hts (.instanceMethod objectInit) (sr_mt1 (List.mem_of_getElem? (i := 25) rfl) rfl)) (hts (.code objectInit object_method_1_code 1 none) (sr_mt1 (List.mem_of_getElem? (i := 26) rfl) rfl)) rfl (by rw [hml]; exact hl.1) rfl dX3_init_1 (Nat.le_of_ble_eq_true rfl) (Nat.le_of_ble_eq_true rfl) ?_
  refine W.eq (g2 := F0 m 4 ls []) rfl ?_
  refine lv_aload_n hx hb dX3_init_4 rfl (lv_at hl 0 rfl) ?_
  refine lv_iconst (v := 0) hx hb dX3_init_5 (by decide) ?_
  refine va_put (D := (dC, dI)) (ci := 3) (v := .int 0) (ty := .int) (C := RX3) (T := TX3) (N := 7) hx hb hts (sr_in 3 (RX3, TX3, 7) rfl) tyX3 tyX3_ok nmX3 hown hK hP hD hS 0 rfl rfl 0 (by decide) (hts _ (sr_mt1 (List.mem_of_getElem? (i := 33) rfl) rfl)) (fun _ h9 => h9) rfl (by decide +kernel) rfl rfl (Nat.le_of_ble_eq_true rfl) dX3_init_6 (fun H locs hP hD hS => ?_)
  have hP : va_P (dC, dI) vwCl [(h0, .inr (3, [.int 0, .int 0, .int 0, .null, .null, .null, .null]))] H := hP
  have hD : va_D A [(h0, .inr (3, [.int 0, .int 0, .int 0, .null, .null, .null, .null]))] := hD
  refine lv_aload_n hx hb dX3_init_9 rfl (lv_at hl 0 rfl) ?_
  refine lv_bipush (v := (nI 10)) hx hb dX3_init_10 (by decide) ?_
  refine va_put (D := (dC, dI)) (ci := 3) (v := .int (nI 10)) (ty := .int) (C := RX3) (T := TX3) (N := 7) hx hb hts (sr_in 3 (RX3, TX3, 7) rfl) tyX3 tyX3_ok nmX3 hown hK hP hD hS 0 rfl rfl 1 (by decide) (hts _ (sr_mt1 (List.mem_of_getElem? (i := 35) rfl) rfl)) (fun _ h9 => h9) rfl (by decide +kernel) rfl rfl (Nat.le_of_ble_eq_true rfl) dX3_init_12 (fun H locs hP hD hS => ?_)
  have hP : va_P (dC, dI) vwCl [(h0, .inr (3, [.int 0, .int (nI 10), .int 0, .null, .null, .null, .null]))] H := hP
  have hD : va_D A [(h0, .inr (3, [.int 0, .int (nI 10), .int 0, .null, .null, .null, .null]))] := hD
  refine lv_aload_n hx hb dX3_init_15 rfl (lv_at hl 0 rfl) ?_
  refine lv_iconst (v := 0) hx hb dX3_init_16 (by decide) ?_
  refine va_put (D := (dC, dI)) (ci := 3) (v := .int 0) (ty := .int) (C := RX3) (T := TX3) (N := 7) hx hb hts (sr_in 3 (RX3, TX3, 7) rfl) tyX3 tyX3_ok nmX3 hown hK hP hD hS 0 rfl rfl 2 (by decide) (hts _ (sr_mt1 (List.mem_of_getElem? (i := 38) rfl) rfl)) (fun _ h9 => h9) rfl (by decide +kernel) rfl rfl (Nat.le_of_ble_eq_true rfl) dX3_init_17 (fun H locs hP hD hS => ?_)
  have hP : va_P (dC, dI) vwCl [(h0, .inr (3, [.int 0, .int (nI 10), .int 0, .null, .null, .null, .null]))] H := hP
  have hD : va_D A [(h0, .inr (3, [.int 0, .int (nI 10), .int 0, .null, .null, .null, .null]))] := hD
  refine lv_aload_n hx hb dX3_init_20 rfl (lv_at hl 0 rfl) ?_
  refine lv_bipush (v := nI 12) hx hb dX3_init_21 (by decide) ?_
  refine k_newa (atype := .int) (ty := .int) (cy := cy) (N' := 12) (a0 := (12, .inl (fun _ => 0))) hx hb (hts (.arrayClass .int) (sr_mt1 (List.mem_of_getElem? (i := 63) rfl) rfl)) rfl hcy hP hD hS hA (fun _ => rfl) (by decide) (by decide) (by decide) (by decide) (by decide) dX3_init_23 (fun q1 H hP hD hS => ?_)
  have hP : va_P (dC, dI) vwCl [(h0, .inr (3, [.int 0, .int (nI 10), .int 0, .null, .null, .null, .null])), (q1, .inl (cy, 12, .inl (fun _ => 0)))] H := hP
  have hD : va_D A [(h0, .inr (3, [.int 0, .int (nI 10), .int 0, .null, .null, .null, .null])), (q1, .inl (cy, 12, .inl (fun _ => 0)))] := hD
  refine va_putF (D := (dC, dI)) (ci := 3) (v := .ref q1) (ty := .array .int) (C := RX3) (T := TX3) (N := 7) hx hb hts (sr_in 3 (RX3, TX3, 7) rfl) tyX3 tyX3_ok nmX3 hown hK hP hD hS 0 rfl rfl 3 (by decide) (hts _ (sr_mt1 (List.mem_of_getElem? (i := 40) rfl) rfl)) (fun _ h9 => h9) rfl hin rfl (by decide +kernel) rfl rfl (Nat.le_of_ble_eq_true rfl) dX3_init_25 (fun H locs hP hD hS => ?_)
  have hP : va_P (dC, dI) vwCl [(h0, .inr (3, [.int 0, .int (nI 10), .int 0, .ref q1, .null, .null, .null])), (q1, .inl (cy, 12, .inl (fun _ => 0)))] H := hP
  have hD : va_D A [(h0, .inr (3, [.int 0, .int (nI 10), .int 0, .ref q1, .null, .null, .null])), (q1, .inl (cy, 12, .inl (fun _ => 0)))] := hD
  refine lv_aload_n hx hb dX3_init_28 rfl (lv_at hl 0 rfl) ?_
  refine lv_bipush (v := nI 12) hx hb dX3_init_29 (by decide) ?_
  refine k_newa (atype := .int) (ty := .int) (cy := cy) (N' := 12) (a0 := (12, .inl (fun _ => 0))) hx hb (hts (.arrayClass .int) (sr_mt1 (List.mem_of_getElem? (i := 63) rfl) rfl)) rfl hcy hP hD hS hA (fun _ => rfl) (by decide) (by decide) (by decide) (by decide) (by decide) dX3_init_31 (fun q2 H hP hD hS => ?_)
  have hP : va_P (dC, dI) vwCl [(h0, .inr (3, [.int 0, .int (nI 10), .int 0, .ref q1, .null, .null, .null])), (q1, .inl (cy, 12, .inl (fun _ => 0))), (q2, .inl (cy, 12, .inl (fun _ => 0)))] H := hP
  have hD : va_D A [(h0, .inr (3, [.int 0, .int (nI 10), .int 0, .ref q1, .null, .null, .null])), (q1, .inl (cy, 12, .inl (fun _ => 0))), (q2, .inl (cy, 12, .inl (fun _ => 0)))] := hD
  refine va_putF (D := (dC, dI)) (ci := 3) (v := .ref q2) (ty := .array .int) (C := RX3) (T := TX3) (N := 7) hx hb hts (sr_in 3 (RX3, TX3, 7) rfl) tyX3 tyX3_ok nmX3 hown hK hP hD hS 0 rfl rfl 4 (by decide) (hts _ (sr_mt1 (List.mem_of_getElem? (i := 42) rfl) rfl)) (fun _ h9 => h9) rfl hin rfl (by decide +kernel) rfl rfl (Nat.le_of_ble_eq_true rfl) dX3_init_33 (fun H locs hP hD hS => ?_)
  have hP : va_P (dC, dI) vwCl [(h0, .inr (3, [.int 0, .int (nI 10), .int 0, .ref q1, .ref q2, .null, .null])), (q1, .inl (cy, 12, .inl (fun _ => 0))), (q2, .inl (cy, 12, .inl (fun _ => 0)))] H := hP
  have hD : va_D A [(h0, .inr (3, [.int 0, .int (nI 10), .int 0, .ref q1, .ref q2, .null, .null])), (q1, .inl (cy, 12, .inl (fun _ => 0))), (q2, .inl (cy, 12, .inl (fun _ => 0)))] := hD
  refine lv_aload_n hx hb dX3_init_36 rfl (lv_at hl 0 rfl) ?_
  refine lv_bipush (v := nI 12) hx hb dX3_init_37 (by decide) ?_
  refine k_newa (atype := .int) (ty := .int) (cy := cy) (N' := 12) (a0 := (12, .inl (fun _ => 0))) hx hb (hts (.arrayClass .int) (sr_mt1 (List.mem_of_getElem? (i := 63) rfl) rfl)) rfl hcy hP hD hS hA (fun _ => rfl) (by decide) (by decide) (by decide) (by decide) (by decide) dX3_init_39 (fun q3 H hP hD hS => ?_)
  have hP : va_P (dC, dI) vwCl [(h0, .inr (3, [.int 0, .int (nI 10), .int 0, .ref q1, .ref q2, .null, .null])), (q1, .inl (cy, 12, .inl (fun _ => 0))), (q2, .inl (cy, 12, .inl (fun _ => 0))), (q3, .inl (cy, 12, .inl (fun _ => 0)))] H := hP
  have hD : va_D A [(h0, .inr (3, [.int 0, .int (nI 10), .int 0, .ref q1, .ref q2, .null, .null])), (q1, .inl (cy, 12, .inl (fun _ => 0))), (q2, .inl (cy, 12, .inl (fun _ => 0))), (q3, .inl (cy, 12, .inl (fun _ => 0)))] := hD
  refine va_putF (D := (dC, dI)) (ci := 3) (v := .ref q3) (ty := .array .int) (C := RX3) (T := TX3) (N := 7) hx hb hts (sr_in 3 (RX3, TX3, 7) rfl) tyX3 tyX3_ok nmX3 hown hK hP hD hS 0 rfl rfl 5 (by decide) (hts _ (sr_mt1 (List.mem_of_getElem? (i := 44) rfl) rfl)) (fun _ h9 => h9) rfl hin rfl (by decide +kernel) rfl rfl (Nat.le_of_ble_eq_true rfl) dX3_init_41 (fun H locs hP hD hS => ?_)
  have hP : va_P (dC, dI) vwCl [(h0, .inr (3, [.int 0, .int (nI 10), .int 0, .ref q1, .ref q2, .ref q3, .null])), (q1, .inl (cy, 12, .inl (fun _ => 0))), (q2, .inl (cy, 12, .inl (fun _ => 0))), (q3, .inl (cy, 12, .inl (fun _ => 0)))] H := hP
  have hD : va_D A [(h0, .inr (3, [.int 0, .int (nI 10), .int 0, .ref q1, .ref q2, .ref q3, .null])), (q1, .inl (cy, 12, .inl (fun _ => 0))), (q2, .inl (cy, 12, .inl (fun _ => 0))), (q3, .inl (cy, 12, .inl (fun _ => 0)))] := hD
  refine lv_aload_n hx hb dX3_init_44 rfl (lv_at hl 0 rfl) ?_
  refine lv_bipush (v := nI 12) hx hb dX3_init_45 (by decide) ?_
  refine k_newa (atype := .int) (ty := .int) (cy := cy) (N' := 12) (a0 := (12, .inl (fun _ => 0))) hx hb (hts (.arrayClass .int) (sr_mt1 (List.mem_of_getElem? (i := 63) rfl) rfl)) rfl hcy hP hD hS hA (fun _ => rfl) (by decide) (by decide) (by decide) (by decide) (by decide) dX3_init_47 (fun q4 H hP hD hS => ?_)
  have hP : va_P (dC, dI) vwCl [(h0, .inr (3, [.int 0, .int (nI 10), .int 0, .ref q1, .ref q2, .ref q3, .null])), (q1, .inl (cy, 12, .inl (fun _ => 0))), (q2, .inl (cy, 12, .inl (fun _ => 0))), (q3, .inl (cy, 12, .inl (fun _ => 0))), (q4, .inl (cy, 12, .inl (fun _ => 0)))] H := hP
  have hD : va_D A [(h0, .inr (3, [.int 0, .int (nI 10), .int 0, .ref q1, .ref q2, .ref q3, .null])), (q1, .inl (cy, 12, .inl (fun _ => 0))), (q2, .inl (cy, 12, .inl (fun _ => 0))), (q3, .inl (cy, 12, .inl (fun _ => 0))), (q4, .inl (cy, 12, .inl (fun _ => 0)))] := hD
  refine va_putF (D := (dC, dI)) (ci := 3) (v := .ref q4) (ty := .array .int) (C := RX3) (T := TX3) (N := 7) hx hb hts (sr_in 3 (RX3, TX3, 7) rfl) tyX3 tyX3_ok nmX3 hown hK hP hD hS 0 rfl rfl 6 (by decide) (hts _ (sr_mt1 (List.mem_of_getElem? (i := 46) rfl) rfl)) (fun _ h9 => h9) rfl hin rfl (by decide +kernel) rfl rfl (Nat.le_of_ble_eq_true rfl) dX3_init_49 (fun H locs hP hD hS => ?_)
  have hP : va_P (dC, dI) vwCl [(h0, .inr (3, [.int 0, .int (nI 10), .int 0, .ref q1, .ref q2, .ref q3, .ref q4])), (q1, .inl (cy, 12, .inl (fun _ => 0))), (q2, .inl (cy, 12, .inl (fun _ => 0))), (q3, .inl (cy, 12, .inl (fun _ => 0))), (q4, .inl (cy, 12, .inl (fun _ => 0)))] H := hP
  have hD : va_D A [(h0, .inr (3, [.int 0, .int (nI 10), .int 0, .ref q1, .ref q2, .ref q3, .ref q4])), (q1, .inl (cy, 12, .inl (fun _ => 0))), (q2, .inl (cy, 12, .inl (fun _ => 0))), (q3, .inl (cy, 12, .inl (fun _ => 0))), (q4, .inl (cy, 12, .inl (fun _ => 0)))] := hD
  exact W.vret hx hb hr (fun t ht hW => ⟨⟨(), rfl, trivial, q1, q2, q3, q4, by rw [ht]; exact hP, va_K.moved hW.alike hK, hD⟩, hS.F ht⟩) hS.2.2 dX3_init_52
