/-! ===== the start: what the constructors leave ===== -/
def D0 : sr_St := (fun o => match o with
  | 0 => fun k => if k = 11 then -1 else 0
  | 1 => fun k => if k = 1 then nI 10 else 0
  | 9 => fun k => if k = 1 then nI 10 else 0
  | 59 => fun k => if k = 2 then -1 else 0
  | 63 => fun k => if k = 6 then -1 else 0
  | 64 => upd (fun _ => 0) 1 (nI 10)
  | _ => fun _ => 0, fun o => match o with
  | 14 => fun k => if k = 0 then 1 else 0
  | 35 => fun k => if k = 0 then 1 else 0
  | 56 => fun k => if k = 1 then 1 else 0
  | 57 => fun k => if k = 1 then 1 else 0
  | 58 => fun k => if k = 1 then 1 else 0
  | 60 => fun k => if k = 1 then 1 else 0
  | _ => fun _ => 0)
theorem go_zero : ∀ c, cl_go (fun _ _ => 0) c = ((fun _ _ => 0), 1, 0)
  | 0 => rfl
  | c + 1 => by
    have ih := go_zero c
    unfold cl_go
    rw [ih]
    exact if_neg (by show ¬ (0 : Int64) < 0; decide)
theorem mx_zero {q : Nat} (h : ∀ o, q < o → o < q + 9 → D0.2 o = fun _ => 0) : mx q D0 (fun _ _ => 0) := fun i j hi hj => by rw [h (q + 1 + i) (by omega) (by omega)]
theorem inv_D0 : INV' D0 0 0 := by
  have z15 : ∀ o, 15 < o → o < 15 + 9 → D0.2 o = fun _ => 0 := fun o h1 h2 => by
    have q : o = 16 ∨ o = 17 ∨ o = 18 ∨ o = 19 ∨ o = 20 ∨ o = 21 ∨ o = 22 ∨ o = 23 := by omega
    rcases q with rfl | rfl | rfl | rfl | rfl | rfl | rfl | rfl <;> rfl
  have z24 : ∀ o, 24 < o → o < 24 + 9 → D0.2 o = fun _ => 0 := fun o h1 h2 => by
    have q : o = 25 ∨ o = 26 ∨ o = 27 ∨ o = 28 ∨ o = 29 ∨ o = 30 ∨ o = 31 ∨ o = 32 := by omega
    rcases q with rfl | rfl | rfl | rfl | rfl | rfl | rfl | rfl <;> rfl
  have g7 := go_zero 7
  refine ⟨⟨⟨⟨rfl, by decide, rfl, by decide⟩, fun q hq => absurd hq (by omega)⟩, ⟨rfl, rfl, rfl, fun q hq => absurd hq (by omega)⟩, mx_zero z15, ?_⟩, by decide, ⟨0, by decide, rfl, rfl⟩, rfl, fun k => rfl, rfl, rfl, ⟨0, 0, 0, 0, 0, 0, 0, by decide, by decide, rfl, rfl, rfl, rfl, rfl, rfl, rfl⟩, ⟨0, by decide, rfl⟩⟩
  show cl_ok 14 24 33 (fun _ _ => 0) D0
  unfold cl_ok
  rw [g7]
  refine ⟨mx_zero z24, rfl, rfl, fun k hk => ?_⟩
  have e : cl_s (fun _ _ => 0) k = false := by
    unfold cl_s
    rw [go_zero k]
    exact decide_eq_false (by show ¬ (0 : Int64) < 0; decide)
  rw [e]; rfl
