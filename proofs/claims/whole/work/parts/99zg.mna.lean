/-! ===== long[8][8] ===== -/
theorem k_gin {w : Cond} (h : w ∈ sr_ws) : GoodIn sr_ws (w :: sr_ws) := fun v hv => (List.mem_cons.mp hv).elim (fun e => by rw [e]; exact sr_goodIn w h) (sr_goodIn v)
section KM
variable {p : Program} {l : Launch} {e : Env} {R : Room} {s : State} {m : MethodId} {args : Array Value} {below : List Frame} {meth : Method} {c : Code} {H : Heap} {locs : List Loc} {cells slots : Nat} {Q : State → Prop}
variable {cc : ByteArray} {pc : Nat} {ls : Array Slot} {rest : List Value} {D : va_G} {cl : List vw_C} {A : Nat → Prop} {ws : va_W} {H0 : Heap} {tys : List (ClassId × FieldType)}
theorem k_mna8 (hexec : p.tables.exec = Jvm.exec) (hb : c.code = cc) {own : String} {index : Nat} {cJ cQ : ClassId} (hown : s.vm.findClass own = some m.cls) (hclink : (Cond.classLink own index "[[J").before args s = true) (hover : va_AOA .long s) (harr : (Cond.arrayClass .long).before args s = true) (hcJ : s.vm.findClass ("[" ++ FieldType.long.toString) = some cJ) (hcQ : s.vm.findClass "[[J" = some cQ)
    (hK : va_K D cl tys s) (hP : va_P D cl ws H) (hD : va_D A ws) (hS : va_S A H0 H locs) (hA : ∀ q, H0.size ≤ q → A q) (hcells : cells + 9 ≤ R.cells) (hslots : slots + 72 ≤ R.slots) (hdg : decode cc pc = .ok (.multianewarray index 2, 4))
    (kk : ∀ (q : Nat) (r : Nat → Nat) (H1 : Heap), va_P D cl (ws ++ [(q, .inl (cQ, 8, .inr (.inr (.inr (.inr (fun i => if i < 8 then some (r i) else none)))))), (r 0, .inl (cJ, 8, .inr (.inl (fun _ => 0)))), (r 1, .inl (cJ, 8, .inr (.inl (fun _ => 0)))), (r 2, .inl (cJ, 8, .inr (.inl (fun _ => 0)))), (r 3, .inl (cJ, 8, .inr (.inl (fun _ => 0)))), (r 4, .inl (cJ, 8, .inr (.inl (fun _ => 0)))), (r 5, .inl (cJ, 8, .inr (.inl (fun _ => 0)))), (r 6, .inl (cJ, 8, .inr (.inl (fun _ => 0)))), (r 7, .inl (cJ, 8, .inr (.inl (fun _ => 0))))]) H1 → va_D A (ws ++ [(q, .inl (cQ, 8, .inr (.inr (.inr (.inr (fun i => if i < 8 then some (r i) else none)))))), (r 0, .inl (cJ, 8, .inr (.inl (fun _ => 0)))), (r 1, .inl (cJ, 8, .inr (.inl (fun _ => 0)))), (r 2, .inl (cJ, 8, .inr (.inl (fun _ => 0)))), (r 3, .inl (cJ, 8, .inr (.inl (fun _ => 0)))), (r 4, .inl (cJ, 8, .inr (.inl (fun _ => 0)))), (r 5, .inl (cJ, 8, .inr (.inl (fun _ => 0)))), (r 6, .inl (cJ, 8, .inr (.inl (fun _ => 0)))), (r 7, .inl (cJ, 8, .inr (.inl (fun _ => 0))))]) → va_S A H0 H1 locs →
      W p l e R s m args below meth c H1 locs (cells + 9) (slots + 72) Q (F0 m (pc + 4) ls (.ref q :: rest))) : W p l e R s m args below meth c H locs cells slots Q (F0 m pc ls (.int (nI 8) :: .int (nI 8) :: rest)) := by
  have e1 : "[" ++ (FieldType.array .long).toString = "[[J" := by decide +kernel
  have e2 : (FieldType.array .long).toString = "[" ++ FieldType.long.toString := by decide +kernel
  refine va_mna (X := ws) (L := []) (f := fun _ => .inl (cJ, 0, .inl (fun _ => 0))) (n := nI 8) (k := nI 8) (N' := 8) (K' := 8) (z := (8, .inr (.inl (fun _ => 0)))) (ty := .long) (cy := cJ) hexec hb hown (by rw [e1]; exact hclink) hover harr (by rw [e2]; exact hcJ) hK (by rw [show va_pl [] (fun _ => .inl (cJ, 0, .inl (fun _ => 0))) = ([] : va_W) from rfl, List.append_nil]; exact hP) (by rw [show va_pl [] (fun _ => .inl (cJ, 0, .inl (fun _ => 0))) = ([] : va_W) from rfl, List.append_nil]; exact hD) hS hA (by decide) (by decide) (by decide) (by decide) (by decide) (by decide) (by decide) rfl rfl hcells hslots (fun _ => rfl) hdg fun q r cA H1 hri hrn hK2 hP2 hD2 hS2 => ?_
  have ec : cA = cQ := by
    have h := (hK2.2 tys.length (cA, .array .long) (by rw [List.getElem?_append_right (Nat.le_refl _), Nat.sub_self]; rfl)).2
    have h3 : s.vm.findClass ("[" ++ (FieldType.array .long).toString) = some cA := h
    rw [e1] at h3
    exact Option.some.inj (h3.symm.trans hcQ)
  subst ec
  have er : va_pl ([] : List Nat) (fun _ => .inl (cJ, 0, .inl (fun _ => 0))) ++ ((List.range 8).map r).map (fun a => (a, (.inl (cJ, 8, .inr (.inl (fun _ => 0))) : va_E))) = va_pl ([] ++ (List.range 8).map r) (vr_up (fun _ => .inl (cJ, 0, .inl (fun _ => 0))) ((List.range 8).map r) (.inl (cJ, 8, .inr (.inl (fun _ => 0))))) := vr_rows (fun _ _ h => nomatch h)
  rw [← er, List.append_assoc] at hP2 hD2
  exact kk q r H1 hP2 hD2 hS2
end KM
