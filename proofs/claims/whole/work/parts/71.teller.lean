def ts_n (dr : Nat → Nat → Int32) : Nat := (dr 9 0).toNatClampNeg
def ts_r (dr : Nat → Nat → Int32) : Nat := (dr 9 2).toNatClampNeg
def ts_dok (dr : Nat → Nat → Int32) : Prop := dr 9 0 = nI (ts_n dr) ∧ ts_n dr ≤ 6 ∧ dr 9 2 = nI (ts_r dr) ∧ ts_r dr ≤ 12
theorem ts_dok_of {dr : Nat → Nat → Int32} {n r : Nat} (h1 : dr 9 0 = nI n) (h2 : n ≤ 6) (h3 : dr 9 2 = nI r) (h4 : r ≤ 12) : ts_dok dr := by
  have e1 : ts_n dr = n := by unfold ts_n; rw [h1, nI_clamp (by omega)]
  have e2 : ts_r dr = r := by unfold ts_r; rw [h3, nI_clamp (by omega)]
  exact ⟨by rw [e1]; exact h1, by omega, by rw [e2]; exact h3, by omega⟩
section TS
variable (b : Nat → Int32) (L : Nat)
def ts_one (t : tk_T) (fl ca cb : Nat) (dr : Nat → Nat → Int32) : ts_W :=
  if t.1 = 4 then ((ts_rows b L t fl dr).1, (ts_rows b L t fl dr).2.1, (ts_rows b L t fl dr).2.2.1, ca, cb, (ts_rows b L t fl dr).2.2.2)
  else if t.1 = 5 then ((ts_bnd b L t fl dr).1, (ts_bnd b L t fl dr).2.1, (ts_bnd b L t fl dr).2.2.1, ca, cb, (ts_bnd b L t fl dr).2.2.2)
  else if t.1 = 6 then ts_race b L (ts_n dr) t fl ca cb dr (ts_r dr)
  else (false, t, 1 + 8 * t.2.1, ca, cb, dr)
abbrev ts_A : Type := Bool × tk_T × Nat × Nat × Nat × Nat × (Nat → Nat → Int32)
def ts_all : Nat → Nat → tk_T → Nat → Nat → Nat → (Nat → Nat → Int32) → ts_A
  | 0, st, t, fl, ca, cb, dr => (true, t, st, fl, ca, cb, dr)
  | k + 1, st, t, fl, ca, cb, dr => if t.1 = 0 then (true, t, st, fl, ca, cb, dr) else
      (if (ts_one b L t fl ca cb dr).1 = true then
        (if (ts_one b L t fl ca cb dr).2.1.1 = 2 then ts_all k (st + 1) (ts_t1 b L (ts_one b L t fl ca cb dr).2.1) (ts_one b L t fl ca cb dr).2.2.1 (ts_one b L t fl ca cb dr).2.2.2.1 (ts_one b L t fl ca cb dr).2.2.2.2.1 (ts_one b L t fl ca cb dr).2.2.2.2.2
        else (false, (ts_one b L t fl ca cb dr).2.1, st, 1 + 8 * (ts_one b L t fl ca cb dr).2.1.2.1, (ts_one b L t fl ca cb dr).2.2.2.1, (ts_one b L t fl ca cb dr).2.2.2.2.1, (ts_one b L t fl ca cb dr).2.2.2.2.2))
      else (false, (ts_one b L t fl ca cb dr).2.1, st, (ts_one b L t fl ca cb dr).2.2.1, (ts_one b L t fl ca cb dr).2.2.2.1, (ts_one b L t fl ca cb dr).2.2.2.2.1, (ts_one b L t fl ca cb dr).2.2.2.2.2))
end TS
theorem ts_mar_ok {b : Nat → Int32} {L : Nat} {t : tk_T} {fl : Nat} {dr : Nat → Nat → Int32} {r ca cb : Nat} (h : tk_ok L t) (hd : ts_dok dr) (hr : r = ts_r dr) (h12 : r < 12) : tk_ok L (ts_mar b L t fl dr r ca cb).2.1 ∧ ts_dok (ts_mar b L t fl dr r ca cb).2.2.2 := by
  have h1 : tk_ok L (tkn b L t.2.2.1 t.2.2.2) := tkn_ok h.2.2
  unfold ts_mar
  split
  · refine ⟨?_, ts_dok_of (n := ts_n dr) (r := r + 1) hd.1 hd.2.1 rfl (by omega)⟩
    show tk_ok L (ts_mt b L t)
    unfold ts_mt
    split
    · exact tkn_ok h1.2.2
    · exact h1
  · exact ⟨h, hd⟩
theorem ts_one_ok {b : Nat → Int32} {L : Nat} {t : tk_T} {fl ca cb : Nat} {dr : Nat → Nat → Int32} (h : tk_ok L t) (hd : ts_dok dr) : tk_ok L (ts_one b L t fl ca cb dr).2.1 ∧ ts_dok (ts_one b L t fl ca cb dr).2.2.2.2.2 := by
  have h1 : tk_ok L (tkn b L t.2.2.1 t.2.2.2) := tkn_ok h.2.2
  unfold ts_one
  split
  · show tk_ok L (ts_rows b L t fl dr).2.1 ∧ ts_dok (ts_rows b L t fl dr).2.2.2
    unfold ts_rows
    split
    · split
      · next hi =>
        obtain ⟨x, hx, hxe⟩ := (sr_in_n (n := 7) (by decide)).mp hi
        refine ⟨tkn_ok h1.2.2, ts_dok_of (n := x) (r := 0) ?_ (by omega) rfl (by decide)⟩
        show (tkn b L t.2.2.1 t.2.2.2).2.2.1 = nI x
        exact hxe
      · exact ⟨h1, hd⟩
    · exact ⟨h1, hd⟩
  · split
    · show tk_ok L (ts_bnd b L t fl dr).2.1 ∧ ts_dok (ts_bnd b L t fl dr).2.2.2
      unfold ts_bnd
      split
      · split
        · exact ⟨tkn_ok h1.2.2, ts_dok_of (n := ts_n dr) (r := ts_r dr) hd.1 hd.2.1 hd.2.2.1 hd.2.2.2⟩
        · exact ⟨h1, hd⟩
      · exact ⟨h1, hd⟩
    · split
      · have k1 := ts_cr_ok (b := b) (isA := 1) (fl := fl) hd.2.1 h1 (show 0 < 64 by decide) (show 0 < 64 by decide)
        have k2 := ts_cr_ok (b := b) (isA := 0) (fl := (ts_c1 b L (ts_n dr) t fl).2.2.1) hd.2.1 (tkn_ok (b := b) (v := (ts_c1 b L (ts_n dr) t fl).2.1.2.2.1) k1.1.2.2) k1.2.1 k1.2.2
        unfold ts_race
        split
        · exact ⟨h, hd⟩
        · next h12 =>
          have k3 := ts_mar_ok (b := b) (fl := (ts_c2 b L (ts_n dr) t fl).2.2.1) (ca := (ts_c2 b L (ts_n dr) t fl).2.2.2.1) (cb := (ts_c2 b L (ts_n dr) t fl).2.2.2.2) (tkn_ok (b := b) (v := (ts_c2 b L (ts_n dr) t fl).2.1.2.2.1) k2.1.2.2) hd rfl (by have := hd.2.2.2; omega)
          split
          · split
            · split
              · split
                · split
                  · exact ⟨k2.1, hd⟩
                  · exact k3
                · exact ⟨k2.1, hd⟩
              · exact ⟨k2.1, hd⟩
            · exact ⟨k1.1, hd⟩
          · exact ⟨k1.1, hd⟩
      · exact ⟨h, hd⟩
