/-! ===== THE MODEL'S TEXTS: fault, place, beginning of the token (63: slots 5, 8, 9), and the races (64) ===== -/
def sr_T (D : sr_St) (f a r : Nat) (now : Nat → Int32) : sr_St := (fun o => if o = 63 then (fun k => if k = 5 then nI f else if k = 8 then nI a else if k = 9 then nI r else D.1 63 k) else if o = 64 then now else D.1 o, D.2)
section TT
variable {D : sr_St} {f a r x : Nat} {now : Nat → Int32}
theorem sr_T_5 : (sr_T D f a r now).1 63 5 = nI f := rfl
theorem sr_T_8 : (sr_T D f a r now).1 63 8 = nI a := rfl
theorem sr_T_9 : (sr_T D f a r now).1 63 9 = nI r := rfl
theorem sr_T_7 {L : Nat} (h : D.1 63 7 = nI L) : (sr_T D f a r now).1 63 7 = nI L := h
theorem sr_T_66 : (sr_T D f a r now).1 66 = D.1 66 := rfl
theorem sr_T_64 : (sr_T D f a r now).1 64 = now := rfl
theorem sr_T_n {n k : Nat} (h : now k = nI n) : (sr_T D f a r now).1 64 k = nI n := h
theorem sr_T_s5 : sr_sI (sr_T D f a r now) 63 5 (nI x) = sr_T D x a r now := by
  unfold sr_sI sr_T upd
  congr 1
  funext o
  by_cases h : o = 63
  · subst h; simp only [if_true]; funext k; by_cases e : k = 5 <;> simp [e]
  · simp [h]
theorem sr_T_s8 : sr_sI (sr_T D f a r now) 63 8 (nI x) = sr_T D f x r now := by
  unfold sr_sI sr_T upd
  congr 1
  funext o
  by_cases h : o = 63
  · subst h; simp only [if_true]; funext k; by_cases e : k = 8 <;> by_cases e2 : k = 5 <;> simp [e, e2]
  · simp [h]
theorem sr_T_s9 : sr_sI (sr_T D f a r now) 63 9 (nI x) = sr_T D f a x now := by
  unfold sr_sI sr_T upd
  congr 1
  funext o
  by_cases h : o = 63
  · subst h; simp only [if_true]; funext k; by_cases e : k = 9 <;> by_cases e2 : k = 5 <;> by_cases e3 : k = 8 <;> simp [e, e2, e3] <;> omega
  · simp [h]
theorem sr_T_s64 {k : Nat} {v : Int32} : sr_sI (sr_T D f a r now) 64 k v = sr_T D f a r (upd now k v) := by
  unfold sr_sI sr_T
  congr 1
  funext o
  by_cases h : o = 64
  · subst h; simp
  · by_cases h2 : o = 63 <;> simp [h, h2]
theorem sr_T_r64 {now' : Nat → Int32} : sr_rI (sr_T D f a r now) 64 now' = sr_T D f a r now' := by
  unfold sr_rI sr_T
  congr 1
  funext o
  by_cases h : o = 64
  · subst h; simp
  · by_cases h2 : o = 63 <;> simp [h, h2]
end TT
/-- the first place from a on that isn't of the kind, or the end -/
def sr_scanF (q : Int32 → Bool) (b : Nat → Int32) (L : Nat) : Nat → Nat → Nat
  | 0, a => a
  | f + 1, a => if a < L ∧ q (b a) = true then sr_scanF q b L f (a + 1) else a
def sr_scan (q : Int32 → Bool) (b : Nat → Int32) (L a : Nat) : Nat := sr_scanF q b L (L - a) a
theorem sr_scan_t {q : Int32 → Bool} {b : Nat → Int32} {L a : Nat} (h : a < L) (hq : q (b a) = true) : sr_scan q b L a = sr_scan q b L (a + 1) := by
  unfold sr_scan
  rw [show L - a = (L - (a + 1)) + 1 by omega]
  show (if a < L ∧ q (b a) = true then sr_scanF q b L (L - (a + 1)) (a + 1) else a) = _
  rw [if_pos ⟨h, hq⟩]
theorem sr_scan_f {q : Int32 → Bool} {b : Nat → Int32} {L a : Nat} (h : ¬ (a < L ∧ q (b a) = true)) : sr_scan q b L a = a := by
  unfold sr_scan
  cases hn : L - a with
  | zero => rfl
  | succ n =>
    show (if a < L ∧ q (b a) = true then sr_scanF q b L n (a + 1) else a) = _
    rw [if_neg h]
theorem sr_scanF_ge (q : Int32 → Bool) (b : Nat → Int32) (L : Nat) : ∀ f a, a ≤ sr_scanF q b L f a ∧ sr_scanF q b L f a ≤ a + f
  | 0, a => ⟨Nat.le_refl _, Nat.le_refl _⟩
  | f + 1, a => by
    show a ≤ (if _ then _ else _) ∧ (if _ then _ else _) ≤ _
    have := sr_scanF_ge q b L f (a + 1)
    by_cases h : a < L ∧ q (b a) = true
    · rw [if_pos h]; omega
    · rw [if_neg h]; omega
theorem sr_scan_ge (q : Int32 → Bool) (b : Nat → Int32) (L a : Nat) : a ≤ sr_scan q b L a := (sr_scanF_ge q b L (L - a) a).1
theorem sr_scan_le (q : Int32 → Bool) (b : Nat → Int32) {L a : Nat} (h : a ≤ L) : sr_scan q b L a ≤ L := by have := (sr_scanF_ge q b L (L - a) a).2; unfold sr_scan; omega
def sr_blank (v : Int32) : Bool := decide (v = nI 32) || decide (v = nI 10)
def sr_digit (v : Int32) : Bool := sr_isIn v (nI 48) (nI 57)
def sr_letter (v : Int32) : Bool := sr_isIn v (nI 97) (nI 122)
abbrev sr_skip (b : Nat → Int32) (L a : Nat) : Nat := sr_scan sr_blank b L a
/-- the byte at a, or -1 at the end -/
def sr_at1 (b : Nat → Int32) (L a : Nat) : Int32 := if a < L then b a &&& nI 255 else -1
def sr_dig (b : Nat → Int32) (L a : Nat) : Bool := decide (a < L) && sr_digit (b a)
set_option maxHeartbeats 4000000 in
set_option maxRecDepth 100000 in
theorem c_X7_fails (g : sr_G) (D : sr_St) (L f a r : Nat) (now : Nat → Int32) (k w : Nat) (hk : k ≤ 8) (hw : w ≤ 400) (hL : D.1 63 7 = nI L) (h300 : L ≤ 300) (ha : a ≤ L + 1) (hf : f ≤ 8000) (hr : r ≤ 400)  : Con g M_X7_fails [.ref 63, .int (nI k), .int (nI w)] (sr_T D f a r now) (sr_ret (none) (sr_T D (if f = 0 then k + 8 * w else f) a r now)) := by
  refine Con.of pn_X7_fails (Nat.le_of_ble_eq_true rfl) ?_
  show WP g M_X7_fails 0 [(0, .ref 63), (1, .int (nI k)), (2, .int (nI w))] [] (sr_T D f a r now) _
  refine wp_aload_n dX7_fails_0 rfl rfl ?_
  refine wp_getI_n (n := f) dX7_fails_1 fl_X7_89 (by decide) rfl rfl (sr_T_5) ?_
  refine wp_if_ne_n (tgt := 17) dX7_fails_4 (by decide) (by first | omega | (split <;> omega)) (fun c1 => ?_) (fun c1 => ?_)
  · refine wp_vret dX7_fails_17 rfl ⟨rfl, ?_⟩
    rw [if_neg c1]
  · refine wp_aload_n dX7_fails_7 rfl rfl ?_
    refine wp_iload_n dX7_fails_8 rfl rfl ?_
    refine wp_bipush (v := nI 8) dX7_fails_9 rfl ?_
    refine wp_iload_n dX7_fails_11 rfl rfl ?_
    refine wp_imul_n dX7_fails_12 ?_
    refine wp_iadd_n dX7_fails_13 ?_
    refine wp_putI dX7_fails_14 fl_X7_89 (by decide) rfl rfl ?_
    rw [sr_T_s5]
    refine wp_vret dX7_fails_17 rfl ⟨rfl, ?_⟩
    rw [if_pos c1]
set_option maxHeartbeats 4000000 in
set_option maxRecDepth 100000 in
theorem c_X7_isDigitAt (g : sr_G) (D : sr_St) (L f a r : Nat) (now : Nat → Int32) (k : Nat) (hk : k ≤ L + 2) (hL : D.1 63 7 = nI L) (h300 : L ≤ 300) (ha : a ≤ L + 1) (hf : f ≤ 8000) (hr : r ≤ 400)  : Con g M_X7_isDigitAt [.ref 63, .int (nI k)] (sr_T D f a r now) (sr_ret (some (.int (sr_b (sr_dig (D.1 66) L k)))) (sr_T D f a r now)) := by
  refine Con.of pn_X7_isDigitAt (Nat.le_of_ble_eq_true rfl) ?_
  show WP g M_X7_isDigitAt 0 [(0, .ref 63), (1, .int (nI k))] [] (sr_T D f a r now) _
  refine wp_iload_n dX7_isDigitAt_0 rfl rfl ?_
  refine wp_aload_n dX7_isDigitAt_1 rfl rfl ?_
  refine wp_getI_n (n := L) dX7_isDigitAt_2 fl_X7_86 (by decide) rfl rfl ((sr_T_7 hL)) ?_
  refine wp_icmp_ge_n (tgt := 28) dX7_isDigitAt_5 (by decide) (by first | omega | (split <;> omega)) (by first | omega | (split <;> omega)) (fun c2 => ?_) (fun c2 => ?_)
  · refine wp_iconst (v := nI 0) dX7_isDigitAt_28 rfl ?_
    exact wp_zret dX7_isDigitAt_29 rfl (Or.inl rfl) ⟨sr_bf (by simp only [sr_dig, sr_digit]; first | (rw [decide_eq_false (by omega)]; rfl) | simp_all), rfl⟩
  · refine wp_aload_n dX7_isDigitAt_8 rfl rfl ?_
    refine wp_getR (r := 66) dX7_isDigitAt_9 fl_X7_16 (by decide) rfl rfl rfl ?_
    refine wp_iload_n dX7_isDigitAt_12 rfl rfl ?_
    refine wp_bald dX7_isDigitAt_13 (by decide) rfl (show _ < 300 by omega) (by first | omega | (split <;> omega)) ?_
    rw [sr_T_66]
    refine wp_bipush (v := nI 48) dX7_isDigitAt_14 rfl ?_
    refine wp_bipush (v := nI 57) dX7_isDigitAt_16 rfl ?_
    refine wp_callS (M2 := M_X7_isIn) (n := 3) (As := [.int (D.1 66 k), .int (nI 48), .int (nI 57)]) (st := []) dX7_isDigitAt_18 (c_X7_isIn g (sr_T D f a r now) (D.1 66 k) (nI 48) (nI 57)) ca_X7_50 ⟨nm_X7_isIn, by decide, by decide⟩ rfl rfl (Nat.le_of_ble_eq_true rfl) (fun r3 E4 q5 => ?_)
    obtain ⟨rfl, rfl⟩ := q5
    show WP g _ _ _ (.int (sr_b (sr_isIn (D.1 66 k) (nI 48) (nI 57))) :: _) _ _
    refine wp_if_eq_b (tgt := 28) dX7_isDigitAt_21 (by decide) (fun c6 => ?_) (fun c6 => ?_)
    · refine wp_iconst (v := nI 0) dX7_isDigitAt_28 rfl ?_
      exact wp_zret dX7_isDigitAt_29 rfl (Or.inl rfl) ⟨sr_bf (by simp only [sr_dig, sr_digit]; first | (rw [decide_eq_false (by omega)]; rfl) | simp_all), rfl⟩
    · refine wp_iconst (v := nI 1) dX7_isDigitAt_24 rfl ?_
      refine wp_goto (tgt := 29) dX7_isDigitAt_25 (by decide) ?_
      exact wp_zret dX7_isDigitAt_29 rfl (Or.inr rfl) ⟨sr_bt (by simp_all [sr_dig, sr_digit]), rfl⟩
set_option maxHeartbeats 4000000 in
set_option maxRecDepth 100000 in
theorem c_X7_here (g : sr_G) (D : sr_St) (L f a r : Nat) (now : Nat → Int32)  (hL : D.1 63 7 = nI L) (h300 : L ≤ 300) (ha : a ≤ L + 1) (hf : f ≤ 8000) (hr : r ≤ 400)  : Con g M_X7_here [.ref 63] (sr_T D f a r now) (sr_ret (some (.int (sr_at1 (D.1 66) L (sr_skip (D.1 66) L a)))) (sr_T D f (sr_skip (D.1 66) L a) r now)) := by
  refine Con.of pn_X7_here (Nat.le_of_ble_eq_true rfl) ?_
  show WP g M_X7_here 0 [(0, .ref 63)] [] (sr_T D f a r now) _
  have hW : ∀ k i, i + k = L + 1 → sr_skip (D.1 66) L i = sr_skip (D.1 66) L a → WP g M_X7_here 0 [(0, .ref 63)] [] (sr_T D f i r now) (sr_ret (some (.int (sr_at1 (D.1 66) L (sr_skip (D.1 66) L a)))) (sr_T D f (sr_skip (D.1 66) L a) r now)) := by
    intro k
    induction k with
    | zero =>
      intro i hi he
      have hi1 : i = L + 1 := by omega
      have hs : sr_skip (D.1 66) L i = i := sr_scan_f (by omega)
      refine wp_aload_n dX7_here_0 rfl rfl ?_
      refine wp_getI_n (n := i) dX7_here_1 fl_X7_83 (by decide) rfl rfl (sr_T_8) ?_
      refine wp_aload_n dX7_here_4 rfl rfl ?_
      refine wp_getI_n (n := L) dX7_here_5 fl_X7_86 (by decide) rfl rfl ((sr_T_7 hL)) ?_
      refine wp_icmp_ge_n (tgt := 52) dX7_here_8 (by decide) (by first | omega | (split <;> omega)) (by first | omega | (split <;> omega)) (fun c7 => ?_) (fun c7 => ?_)
      · refine wp_aload_n dX7_here_52 rfl rfl ?_
        refine wp_getI_n (n := i) dX7_here_53 fl_X7_83 (by decide) rfl rfl (sr_T_8) ?_
        refine wp_aload_n dX7_here_56 rfl rfl ?_
        refine wp_getI_n (n := L) dX7_here_57 fl_X7_86 (by decide) rfl rfl ((sr_T_7 hL)) ?_
        refine wp_icmp_ge_n (tgt := 79) dX7_here_60 (by decide) (by first | omega | (split <;> omega)) (by first | omega | (split <;> omega)) (fun c8 => ?_) (fun c8 => ?_)
        · refine wp_iconst (v := -1) dX7_here_79 rfl ?_
          refine wp_iret dX7_here_80 rfl ?_
          rw [← he, hs]
          rw [sr_at1, if_neg (by omega)]; exact ⟨rfl, rfl⟩
        · exact absurd c8 (by omega)
      · exact absurd c7 (by omega)
    | succ k ih =>
      intro i hi he
      refine wp_aload_n dX7_here_0 rfl rfl ?_
      refine wp_getI_n (n := i) dX7_here_1 fl_X7_83 (by decide) rfl rfl (sr_T_8) ?_
      refine wp_aload_n dX7_here_4 rfl rfl ?_
      refine wp_getI_n (n := L) dX7_here_5 fl_X7_86 (by decide) rfl rfl ((sr_T_7 hL)) ?_
      refine wp_icmp_ge_n (tgt := 52) dX7_here_8 (by decide) (by first | omega | (split <;> omega)) (by first | omega | (split <;> omega)) (fun c9 => ?_) (fun c9 => ?_)
      · refine wp_aload_n dX7_here_52 rfl rfl ?_
        refine wp_getI_n (n := i) dX7_here_53 fl_X7_83 (by decide) rfl rfl (sr_T_8) ?_
        refine wp_aload_n dX7_here_56 rfl rfl ?_
        refine wp_getI_n (n := L) dX7_here_57 fl_X7_86 (by decide) rfl rfl ((sr_T_7 hL)) ?_
        refine wp_icmp_ge_n (tgt := 79) dX7_here_60 (by decide) (by first | omega | (split <;> omega)) (by first | omega | (split <;> omega)) (fun c10 => ?_) (fun c10 => ?_)
        · refine wp_iconst (v := -1) dX7_here_79 rfl ?_
          have hs : sr_skip (D.1 66) L i = i := sr_scan_f (by simp_all [sr_blank]; try omega)
          refine wp_iret dX7_here_80 rfl ?_
          rw [← he, hs]
          rw [sr_at1, if_neg (by omega)]; exact ⟨rfl, rfl⟩
        · refine wp_aload_n dX7_here_63 rfl rfl ?_
          refine wp_getR (r := 66) dX7_here_64 fl_X7_16 (by decide) rfl rfl rfl ?_
          refine wp_aload_n dX7_here_67 rfl rfl ?_
          refine wp_getI_n (n := i) dX7_here_68 fl_X7_83 (by decide) rfl rfl (sr_T_8) ?_
          refine wp_bald dX7_here_71 (by decide) rfl (show _ < 300 by omega) (by first | omega | (split <;> omega)) ?_
          rw [sr_T_66]
          refine wp_sipush (v := nI 255) dX7_here_72 rfl ?_
          refine wp_iand dX7_here_75 ?_
          refine wp_goto (tgt := 80) dX7_here_76 (by decide) ?_
          have hs : sr_skip (D.1 66) L i = i := sr_scan_f (by simp_all [sr_blank]; try omega)
          refine wp_iret dX7_here_80 rfl ?_
          rw [← he, hs]
          rw [sr_at1, if_pos (by omega)]; exact ⟨rfl, rfl⟩
      · refine wp_aload_n dX7_here_11 rfl rfl ?_
        refine wp_getR (r := 66) dX7_here_12 fl_X7_16 (by decide) rfl rfl rfl ?_
        refine wp_aload_n dX7_here_15 rfl rfl ?_
        refine wp_getI_n (n := i) dX7_here_16 fl_X7_83 (by decide) rfl rfl (sr_T_8) ?_
        refine wp_bald dX7_here_19 (by decide) rfl (show _ < 300 by omega) (by first | omega | (split <;> omega)) ?_
        rw [sr_T_66]
        refine wp_bipush (v := nI 32) dX7_here_20 rfl ?_
        refine wp_icmp_eq (tgt := 39) dX7_here_22 (by decide) (fun c11 => ?_) (fun c11 => ?_)
        · refine wp_aload_n dX7_here_39 rfl rfl ?_
          refine wp_dup dX7_here_40 rfl ?_
          refine wp_getI_n (n := i) dX7_here_41 fl_X7_83 (by decide) rfl rfl (sr_T_8) ?_
          refine wp_iconst (v := nI 1) dX7_here_44 rfl ?_
          refine wp_iadd_n dX7_here_45 ?_
          refine wp_putI dX7_here_46 fl_X7_83 (by decide) rfl rfl ?_
          rw [sr_T_s8]
          refine wp_goto (tgt := 0) dX7_here_49 (by decide) ?_
          exact ih (i + 1) (by omega) (by rw [← he]; exact (sr_scan_t (by omega) (by simp_all [sr_blank])).symm)
        · refine wp_aload_n dX7_here_25 rfl rfl ?_
          refine wp_getR (r := 66) dX7_here_26 fl_X7_16 (by decide) rfl rfl rfl ?_
          refine wp_aload_n dX7_here_29 rfl rfl ?_
          refine wp_getI_n (n := i) dX7_here_30 fl_X7_83 (by decide) rfl rfl (sr_T_8) ?_
          refine wp_bald dX7_here_33 (by decide) rfl (show _ < 300 by omega) (by first | omega | (split <;> omega)) ?_
          rw [sr_T_66]
          refine wp_bipush (v := nI 10) dX7_here_34 rfl ?_
          refine wp_icmp_ne (tgt := 52) dX7_here_36 (by decide) (fun c12 => ?_) (fun c12 => ?_)
          · refine wp_aload_n dX7_here_52 rfl rfl ?_
            refine wp_getI_n (n := i) dX7_here_53 fl_X7_83 (by decide) rfl rfl (sr_T_8) ?_
            refine wp_aload_n dX7_here_56 rfl rfl ?_
            refine wp_getI_n (n := L) dX7_here_57 fl_X7_86 (by decide) rfl rfl ((sr_T_7 hL)) ?_
            refine wp_icmp_ge_n (tgt := 79) dX7_here_60 (by decide) (by first | omega | (split <;> omega)) (by first | omega | (split <;> omega)) (fun c13 => ?_) (fun c13 => ?_)
            · refine wp_iconst (v := -1) dX7_here_79 rfl ?_
              have hs : sr_skip (D.1 66) L i = i := sr_scan_f (by simp_all [sr_blank]; try omega)
              refine wp_iret dX7_here_80 rfl ?_
              rw [← he, hs]
              rw [sr_at1, if_neg (by omega)]; exact ⟨rfl, rfl⟩
            · refine wp_aload_n dX7_here_63 rfl rfl ?_
              refine wp_getR (r := 66) dX7_here_64 fl_X7_16 (by decide) rfl rfl rfl ?_
              refine wp_aload_n dX7_here_67 rfl rfl ?_
              refine wp_getI_n (n := i) dX7_here_68 fl_X7_83 (by decide) rfl rfl (sr_T_8) ?_
              refine wp_bald dX7_here_71 (by decide) rfl (show _ < 300 by omega) (by first | omega | (split <;> omega)) ?_
              rw [sr_T_66]
              refine wp_sipush (v := nI 255) dX7_here_72 rfl ?_
              refine wp_iand dX7_here_75 ?_
              refine wp_goto (tgt := 80) dX7_here_76 (by decide) ?_
              have hs : sr_skip (D.1 66) L i = i := sr_scan_f (by simp_all [sr_blank]; try omega)
              refine wp_iret dX7_here_80 rfl ?_
              rw [← he, hs]
              rw [sr_at1, if_pos (by omega)]; exact ⟨rfl, rfl⟩
          · refine wp_aload_n dX7_here_39 rfl rfl ?_
            refine wp_dup dX7_here_40 rfl ?_
            refine wp_getI_n (n := i) dX7_here_41 fl_X7_83 (by decide) rfl rfl (sr_T_8) ?_
            refine wp_iconst (v := nI 1) dX7_here_44 rfl ?_
            refine wp_iadd_n dX7_here_45 ?_
            refine wp_putI dX7_here_46 fl_X7_83 (by decide) rfl rfl ?_
            rw [sr_T_s8]
            refine wp_goto (tgt := 0) dX7_here_49 (by decide) ?_
            exact ih (i + 1) (by omega) (by rw [← he]; exact (sr_scan_t (by omega) (by simp_all [sr_blank])).symm)
  exact hW (L + 1 - a) a (by omega) rfl
