theorem sr_T_self {D : sr_St} {r : Nat} (h5 : D.1 63 5 = nI 0) (h8 : D.1 63 8 = nI 0) (h9 : D.1 63 9 = nI r) : sr_T D 0 0 r (D.1 64) = D := by
  obtain ⟨x, y⟩ := D
  unfold sr_T
  congr 1
  funext o
  by_cases e : o = 63
  · subst e
    funext k
    by_cases e5 : k = 5
    · subst e5; simp; exact h5.symm
    · by_cases e8 : k = 8
      · subst e8; simp; exact h8.symm
      · by_cases e9 : k = 9
        · subst e9; simp; exact h9.symm
        · simp [e5, e8, e9]
  · by_cases e2 : o = 64 <;> simp [e, e2]
/-- rowers and races as they can be -/
def sr_nowOk (now : Nat → Int32) (n rc : Nat) : Prop := now 0 = nI n ∧ n ≤ 6 ∧ now 2 = nI rc ∧ rc ≤ 12
theorem sr_toldN_ok {b : Nat → Int32} {L a n rc : Nat} {now : Nat → Int32} (h : sr_nowOk now n rc) (hF : sr_toldF b L a n rc = 0) : ∃ n' rc', sr_nowOk (sr_toldN b L now a n rc) n' rc' := by
  obtain ⟨h1, h2, h3, h4⟩ := h
  unfold sr_toldF at hF
  unfold sr_toldN
  by_cases w1 : st_w b L a = nI 116919
  · rw [if_pos w1] at hF ⊢
    unfold sr_numInF at hF
    by_cases e : sr_numF b L (st_n b L a) = 0
    · rw [if_pos e] at hF
      by_cases e2 : sr_isIn (sr_numR b L (st_n b L a)) (nI 0) (nI 6) = true
      · obtain ⟨x, hx, ex⟩ := (sr_in_n (n := 7) (by decide)).mp e2
        exact ⟨x, 0, ex, by omega, rfl, by omega⟩
      · rw [if_neg e2] at hF; omega
    · rw [if_neg e] at hF; exact absurd hF e
  · rw [if_neg w1] at hF ⊢
    by_cases w2 : st_w b L a = nI 12891444
    · rw [if_pos w2] at hF ⊢
      exact ⟨n, rc, h1, h2, h3, h4⟩
    · rw [if_neg w2] at hF ⊢
      by_cases w3 : st_w b L a = nI 590949
      · rw [if_pos w3] at hF
        have : ¬ rc = 12 := by
          intro e
          unfold sr_raceF at hF
          rw [if_pos e] at hF; omega
        refine ⟨n, rc + 1, ?_, h2, ?_, by omega⟩
        · show sr_more _ _ _ _ _ _ 0 = _
          unfold sr_more
          rw [if_neg (by omega), if_neg (by omega), if_neg (by omega), if_neg (by omega), if_neg (by omega)]; exact h1
        · show sr_more _ _ _ _ _ _ 2 = _
          unfold sr_more
          rw [if_pos rfl]
      · rw [if_neg w3] at hF; omega
section TL
variable (b : Nat → Int32) (L : Nat)
/-- a statement and its ';' from s on: the fault; the place behind -/
def tl_e (now : Nat → Int32) (s : Nat) : Nat := sr_skip b L (sr_toldA b L s (now 0).toNatClampNeg)
def tl_F (now : Nat → Int32) (s : Nat) : Nat :=
  if ¬ sr_toldF b L s (now 0).toNatClampNeg (now 2).toNatClampNeg = 0 then sr_toldF b L s (now 0).toNatClampNeg (now 2).toNatClampNeg
  else if sr_at1 b L (tl_e b L now s) = nI 59 then 0 else 1 + 8 * tl_e b L now s
def tl_N (now : Nat → Int32) (s : Nat) : Nat → Int32 := sr_toldN b L now s (now 0).toNatClampNeg (now 2).toNatClampNeg
/-- statements from a on: how many, the fault, the races -/
def sr_tellL : Nat → Nat → Nat → (Nat → Int32) → Nat × Nat × (Nat → Int32)
  | 0, many, _, now => (many, 0, now)
  | k + 1, many, a, now =>
    if sr_skip b L a < L then (if tl_F b L now (sr_skip b L a) = 0 then sr_tellL k (many + 1) (tl_e b L now (sr_skip b L a) + 1) (tl_N b L now (sr_skip b L a)) else (many, tl_F b L now (sr_skip b L a), now)) else (many, 0, now)
end TL
theorem sr_at1_m1 {b : Nat → Int32} {L s : Nat} : sr_at1 b L s = -1 ↔ ¬ s < L := by
  unfold sr_at1
  by_cases h : s < L
  · rw [if_pos h]
    constructor
    · intro q
      exfalso
      obtain ⟨j, hj, e⟩ := pk_andE (b s) (m := nI 255) 8 (by decide)
      rw [e] at q
      have : ∀ j, j < 256 → ¬ nI j = -1 := by decide +kernel
      exact this j hj q
    · intro q; exact absurd h q
  · rw [if_neg h]; exact ⟨fun _ => h, fun _ => rfl⟩
/-- behind tell(): the answer and what the numbers are -/
def sr_tellP (D : sr_St) (L : Nat) : Option Value → sr_St → Prop := fun q D' =>
  D'.2 = D.2 ∧ (∀ o, ¬ o = 63 → ¬ o = 64 → ¬ o = 65 → D'.1 o = D.1 o) ∧ D'.1 63 4 = nI 0 ∧ (∃ r', r' ≤ 302 ∧ D'.1 63 9 = nI r') ∧ (∀ k, ¬ k = 0 → ¬ k = 4 → ¬ k = 5 → ¬ k = 6 → ¬ k = 7 → ¬ k = 8 → ¬ k = 9 → D'.1 63 k = D.1 63 k) ∧
  (let t := sr_tellL (D.1 66) L (L + 2) 0 0 (D.1 64)
   D'.1 63 5 = nI t.2.1 ∧ t.2.1 ≤ 2500 ∧ (t.2.1 = 0 → q = some (.int (nI t.1)) ∧ D'.1 63 6 = -1 ∧ D'.1 64 = t.2.2) ∧ (¬ t.2.1 = 0 → q = some (.int (-1)) ∧ D'.1 63 6 = nI t.1 ∧ ∀ k, k < 60 → D'.1 64 k = D.1 64 k))
theorem sr_told_gt {b : Nat → Int32} {L s n rc : Nat} (h300 : L ≤ 300) (hn : n ≤ 6) (hs : s ≤ L) (hF : sr_toldF b L s n rc = 0) : s ≤ sr_toldA b L s n := by
  have h1 : s ≤ st_s b L s := sr_skip_ge b L s
  have h1L : st_s b L s ≤ L := sr_skip_le b hs
  have h2 : st_s b L s ≤ st_a b L s := sr_wend_ge b L _
  have h2L : st_a b L s ≤ L := sr_wend_leL h1L
  have h3 : st_a b L s ≤ st_n b L s := sr_skip_ge b L _
  have h3L : st_n b L s ≤ L := sr_skip_le b h2L
  have h4 := sr_numA_leL (b := b) h3L
  unfold sr_toldF at hF
  unfold sr_toldA
  by_cases w1 : st_w b L s = nI 116919
  · rw [if_pos w1]; omega
  · rw [if_neg w1] at hF ⊢
    by_cases w2 : st_w b L s = nI 12891444
    · rw [if_pos w2]; omega
    · rw [if_neg w2] at hF ⊢
      by_cases w3 : st_w b L s = nI 590949
      · rw [if_pos w3] at hF
        have hc := rt_s1_ok (b := b) (n := n) h300 hn h2L
        have hco : sr_at1 b L (rt_s1 b L n (st_a b L s)) = nI 58 := by
          unfold sr_raceF at hF
          by_cases e1 : rc = 12
          · rw [if_pos e1] at hF; omega
          · rw [if_neg e1] at hF
            by_cases e2 : ¬ (rt_c1 b L n (st_a b L s)).2.1 = 0
            · rw [if_pos e2] at hF; exact absurd hF e2
            · rw [if_neg e2] at hF
              by_cases e3 : ¬ sr_at1 b L (rt_s1 b L n (st_a b L s)) = nI 58
              · rw [if_pos e3] at hF; omega
              · exact Decidable.not_not.mp e3
        have h5 := rt_s4_ok (b := b) (n := n) (a := st_a b L s) h300 hn (sr_at1_lt (by decide) hco)
        have h6 := sr_wend_ge b L (rt_s4 b L n (st_a b L s))
        unfold sr_raceA
        split <;> omega
      · rw [if_neg w3] at hF; omega
set_option maxHeartbeats 4000000 in
set_option maxRecDepth 100000 in
theorem c_X7_tell (g : sr_G) (D : sr_St) (L r n rc : Nat) (hT : D.1 63 4 = nI L) (h300 : L ≤ 300) (hfr : D.1 63 9 = nI r) (hr : r ≤ 302) (hnow : sr_nowOk (D.1 64) n rc) (hb : sr_bytes (D.1 66)) : Con g M_X7_tell [.ref 63] D (sr_tellP D L) := by
  refine Con.of pn_X7_tell (Nat.le_of_ble_eq_true rfl) ?_
  show WP g M_X7_tell 0 [(0, .ref 63)] [] D _
  have hMain : ∀ E : sr_St, (E.2 = D.2 ∧ (∀ o, ¬ o = 63 → E.1 o = D.1 o) ∧ E.1 63 4 = nI 0 ∧ E.1 63 5 = nI 0 ∧ E.1 63 6 = -1 ∧ E.1 63 7 = nI L ∧ E.1 63 8 = nI 0 ∧ E.1 63 9 = nI r ∧ (∀ k, ¬ k = 0 → ¬ k = 4 → ¬ k = 5 → ¬ k = 6 → ¬ k = 7 → ¬ k = 8 → E.1 63 k = D.1 63 k)) → WP g M_X7_tell 35 [(0, .ref 63), (1, .int (nI 0))] [] E (sr_tellP D L) := by
    intro E hE
    obtain ⟨e2, eo, e4, e5, e6, e7, e8, e9, ek⟩ := hE
    have hb2 : E.1 66 = D.1 66 := eo 66 (by decide)
    have hn2 : E.1 64 = D.1 64 := eo 64 (by decide)
    have hC : ∀ i, i ≤ 60 → WP g M_X7_tell 35 [(0, .ref 63), (1, .int (nI i))] [] (sr_rI E 65 (sr_fill i (E.1 64) (E.1 65))) (sr_tellP D L) := by
      refine sr_up (fun i hi ih => ?_)
      have h59 : WP g M_X7_tell 59 [(0, .ref 63)] [] (sr_rI E 65 (sr_fill 60 (E.1 64) (E.1 65))) (sr_tellP D L) := by
        refine wp_D (fun E2 eE2 => ?_)
        have f2 : E2.2 = D.2 := by rw [eE2]; exact e2
        have fo : ∀ o, ¬ o = 63 → ¬ o = 65 → E2.1 o = D.1 o := fun o h1 h2 => by rw [eE2, sr_rI_1, if_neg h2]; exact eo o h1
        have f63 : E2.1 63 = E.1 63 := by rw [eE2, sr_rI_1, if_neg (by decide)]
        have f65 : ∀ k, k < 60 → E2.1 65 k = D.1 64 k := fun k hk => by rw [eE2, sr_rI_1, if_pos rfl, sr_fill, if_pos hk, hn2]
        have f7 : E2.1 63 7 = nI L := by rw [f63]; exact e7
        have f66 : E2.1 66 = D.1 66 := fo 66 (by decide) (by decide)
        have f64 : E2.1 64 = D.1 64 := fo 64 (by decide) (by decide)
        have hb3 : sr_bytes (E2.1 66) := by rw [f66]; exact hb
        clear eE2
        generalize ht0 : sr_tellL (D.1 66) L (L + 2) 0 0 (D.1 64) = t0
        have hA : ∀ (f a r : Nat) (now : Nat → Int32), ¬ f = 0 → f ≤ 2500 → f = t0.2.1 → r ≤ 302 → WP g M_X7_tell 61 [(0, .ref 63), (1, .int (nI t0.1))] [] (sr_T E2 f a r now) (sr_tellP D L) := by
          intro f a r now h0 hf hft hr
          refine wp_aload_n dX7_tell_61 rfl rfl ?_
          refine wp_getI_n (n := f) dX7_tell_62 fl_X7_89 (by decide) rfl rfl (sr_T_5) ?_
          refine wp_if_ne_n (tgt := 128) dX7_tell_65 (by decide) (by first | omega | (split <;> omega)) (fun c253 => ?_) (fun c253 => ?_)
          · refine wp_aload_n dX7_tell_128 rfl rfl ?_
            refine wp_getI_n (n := f) dX7_tell_129 fl_X7_89 (by decide) rfl rfl (sr_T_5) ?_
            refine wp_if_ne_n (tgt := 137) dX7_tell_132 (by decide) (by first | omega | (split <;> omega)) (fun c254 => ?_) (fun c254 => ?_)
            · refine wp_aload_n dX7_tell_137 rfl rfl ?_
              refine wp_iload_n dX7_tell_138 rfl rfl ?_
              refine wp_putI dX7_tell_139 fl_X7_20 (by decide) rfl rfl ?_
              refine wp_D (fun D255 eD255 => ?_)
              refine wp_iconst (v := nI 0) dX7_tell_142 rfl ?_
              refine wp_istore_n (lv' := [(0, .ref 63), (1, .int (nI (t0.1))), (2, .int (nI 0))]) dX7_tell_143 rfl (by decide) rfl ?_
              have x2 : D255.2 = D.2 := by subst eD255; exact f2
              have xo : ∀ o, ¬ o = 63 → ¬ o = 64 → ¬ o = 65 → D255.1 o = D.1 o := by intro o h1 h2 h3; subst eD255; simp only [sr_sI, if_neg h1, sr_T, if_neg h2]; exact fo o h1 h3
              have x65 : ∀ k, k < 60 → D255.1 65 k = D.1 64 k := by intro k hk; subst eD255; exact f65 k hk
              have x4 : D255.1 63 4 = nI 0 := by subst eD255; show E2.1 63 4 = _; rw [f63]; exact e4
              have x5 : D255.1 63 5 = nI f := by subst eD255; rfl
              have x6 : D255.1 63 6 = nI t0.1 := by subst eD255; rw [sr_sI_1, if_pos ⟨rfl, rfl⟩]
              have x9 : D255.1 63 9 = nI r := by subst eD255; rfl
              have xk : ∀ k, ¬ k = 0 → ¬ k = 4 → ¬ k = 5 → ¬ k = 6 → ¬ k = 7 → ¬ k = 8 → ¬ k = 9 → D255.1 63 k = D.1 63 k := by intro k h0 h4 h5 h6 h7 h8 h9; subst eD255; rw [sr_sI_1, if_neg (by omega)]; simp only [sr_T, if_true, if_neg h5, if_neg h8, if_neg h9]; rw [f63]; exact ek k h0 h4 h5 h6 h7 h8
              clear eD255
              have hR : ∀ i, i ≤ 60 → WP g M_X7_tell 144 [(0, .ref 63), (1, .int (nI t0.1)), (2, .int (nI i))] [] (sr_rI D255 64 (sr_fill i (D255.1 65) (D255.1 64))) (sr_tellP D L) := by
                refine sr_up (fun i hi ih => ?_)
                refine wp_iload_n dX7_tell_144 rfl rfl ?_
                refine wp_bipush (v := nI 60) dX7_tell_145 rfl ?_
                refine wp_icmp_ge_n (tgt := 168) dX7_tell_147 (by decide) (by first | omega | (split <;> omega)) (by first | omega | (split <;> omega)) (fun c256 => ?_) (fun c256 => ?_)
                · refine wp_iconst (v := -1) dX7_tell_168 rfl ?_
                  refine wp_iret dX7_tell_169 rfl ?_
                  have hi60 : i = 60 := by omega
                  subst hi60
                  unfold sr_tellP
                  rw [ht0]
                  refine ⟨x2, fun o h1 h2 h3 => ?_, x4, ⟨r, hr, x9⟩, xk, ?_, ?_, ?_, ?_⟩
                  · rw [sr_rI_1, if_neg h2]; exact xo o h1 h2 h3
                  · rw [← hft]; exact x5
                  · rw [← hft]; exact hf
                  · intro h; rw [← hft] at h; exact absurd h h0
                  · intro _; exact ⟨rfl, x6, fun k hk => by rw [sr_rI_1, if_pos rfl, sr_fill, if_pos hk]; exact x65 k hk⟩
                · refine wp_aload_n dX7_tell_150 rfl rfl ?_
                  refine wp_getR (r := 64) dX7_tell_151 fl_X7_7 (by decide) rfl rfl rfl ?_
                  refine wp_iload_n dX7_tell_154 rfl rfl ?_
                  refine wp_aload_n dX7_tell_155 rfl rfl ?_
                  refine wp_getR (r := 65) dX7_tell_156 fl_X7_13 (by decide) rfl rfl rfl ?_
                  refine wp_iload_n dX7_tell_159 rfl rfl ?_
                  refine wp_iald dX7_tell_160 (by decide) rfl (show _ < 60 by omega) (by first | omega | (split <;> omega)) ?_
                  refine wp_iast dX7_tell_161 (by decide) rfl (show _ < 60 by omega) (by first | omega | (split <;> omega)) ?_
                  refine wp_D (fun D257 eD257 => ?_)
                  refine wp_iinc_n (b := 1) (lv' := [(0, .ref 63), (1, .int (nI (t0.1))), (2, .int (nI (i + 1)))]) dX7_tell_162 rfl rfl (by decide) rfl ?_
                  refine wp_goto (tgt := 144) dX7_tell_165 (by decide) ?_
                  have h := ih (by omega)
                  rw [← sr_fillI] at h
                  subst eD257
                  exact h
              have h := hR 0 (by decide)
              rw [sr_fill_0, sr_rI_self] at h
              exact h
            · exact absurd c254 h0
          · exact absurd c253 h0
        have hB : ∀ (k many a r n rc : Nat) (now : Nat → Int32), L + 1 - a < k → a ≤ L + 1 → r ≤ 302 → sr_nowOk now n rc → sr_tellL (D.1 66) L k many a now = t0 → WP g M_X7_tell 61 [(0, .ref 63), (1, .int (nI many))] [] (sr_T E2 0 a r now) (sr_tellP D L) := by
          intro k
          induction k with
          | zero => intro many a r n rc now hk; omega
          | succ k ih =>
            intro many a r n rc now hk ha hr hnw ht
            have hs1 := sr_skip_ge (D.1 66) L a
            have hs2 := sr_skip_le1 (D.1 66) ha
            unfold sr_tellL at ht
            have hcn : (now 0).toNatClampNeg = n := by rw [hnw.1, nI_clamp (by have := hnw.2.1; omega)]
            have hcr : (now 2).toNatClampNeg = rc := by rw [hnw.2.2.1, nI_clamp (by have := hnw.2.2.2; omega)]
            refine wp_aload_n dX7_tell_61 rfl rfl ?_
            refine wp_getI_n (n := 0) dX7_tell_62 fl_X7_89 (by decide) rfl rfl (sr_T_5) ?_
            refine wp_if_ne (tgt := 128) dX7_tell_65 (by decide) (fun c258 => absurd c258 (by decide)) (fun _ => ?_)
            refine wp_aload_n dX7_tell_68 rfl rfl ?_
            refine wp_callV (M2 := M_X7_here) (n := 0) (As := []) (st := []) dX7_tell_69 (c_X7_here g E2 L 0 a r now f7 h300 (by omega) (by omega) (by omega)) ca_X7_92 ⟨nm_X7_here, by decide, by decide⟩ rfl (by decide) rfl rfl rfl (Nat.le_of_ble_eq_true rfl) (fun r259 E260 q261 => ?_)
            rw [f66] at q261
            obtain ⟨rfl, rfl⟩ := q261
            show WP g _ _ _ (.int (sr_at1 (D.1 66) L (sr_skip (D.1 66) L a)) :: _) (sr_T E2 0 (sr_skip (D.1 66) L a) r now) _
            refine wp_iconst (v := -1) dX7_tell_72 rfl ?_
            refine wp_icmp_eq (tgt := 128) dX7_tell_73 (by decide) (fun c262 => ?_) (fun c262 => ?_)
            · have hlt := sr_at1_m1.mp c262
              refine wp_aload_n dX7_tell_128 rfl rfl ?_
              refine wp_getI_n (n := 0) dX7_tell_129 fl_X7_89 (by decide) rfl rfl (sr_T_5) ?_
              refine wp_if_ne (tgt := 137) dX7_tell_132 (by decide) (fun c263 => absurd c263 (by decide)) (fun _ => ?_)
              refine wp_iload_n dX7_tell_135 rfl rfl ?_
              refine wp_iret dX7_tell_136 rfl ?_
              rw [if_neg hlt] at ht
              unfold sr_tellP
              rw [ht0, ← ht]
              refine ⟨f2, fun o h1 h2 h3 => ?_, ?_, ⟨r, hr, rfl⟩, fun k h0 h4 h5 h6 h7 h8 h9 => ?_, rfl, Nat.zero_le _, fun _ => ⟨rfl, ?_, rfl⟩, fun h => absurd rfl h⟩
              · simp only [sr_T, if_neg h1, if_neg h2]; exact fo o h1 h3
              · show E2.1 63 4 = _; rw [f63]; exact e4
              · simp only [sr_T, if_true, if_neg h5, if_neg h8, if_neg h9]; rw [f63]; exact ek k h0 h4 h5 h6 h7 h8
              · show E2.1 63 6 = _; rw [f63]; exact e6
            · have hlt : sr_skip (D.1 66) L a < L := Decidable.not_not.mp (fun h => c262 (sr_at1_m1.mpr h))
              refine wp_aload_n dX7_tell_76 rfl rfl ?_
              refine wp_callV (M2 := M_X7_told) (n := 0) (As := []) (st := []) dX7_tell_77 (c_X7_told g E2 L (sr_skip (D.1 66) L a) r now n rc hnw.1 hnw.2.1 hnw.2.2.1 hnw.2.2.2 hb3 f7 h300 (by omega) (by omega)) ca_X7_140 ⟨nm_X7_told, by decide, by decide⟩ rfl (by decide) rfl rfl rfl (Nat.le_of_ble_eq_true rfl) (fun r264 E265 q266 => ?_)
              obtain ⟨rfl, F, a1, r1, now1, rfl, hF, hF2, ha1, hr1, hF0, hF1⟩ := q266
              rw [f66] at hF hF0
              show WP g _ _ _ _ (sr_T E2 F a1 r1 now1) _
              refine wp_aload_n dX7_tell_80 rfl rfl ?_
              refine wp_getI_n (n := F) dX7_tell_81 fl_X7_89 (by decide) rfl rfl (sr_T_5) ?_
              refine wp_if_ne_n (tgt := 105) dX7_tell_84 (by decide) (by first | omega | (split <;> omega)) (fun c267 => ?_) (fun c267 => ?_)
              · have hFz := c267
                refine wp_aload_n dX7_tell_105 rfl rfl ?_
                refine wp_dup dX7_tell_106 rfl ?_
                refine wp_getI_n (n := a1) dX7_tell_107 fl_X7_83 (by decide) rfl rfl (sr_T_8) ?_
                refine wp_iconst (v := nI 1) dX7_tell_110 rfl ?_
                refine wp_iadd_n dX7_tell_111 ?_
                refine wp_putI dX7_tell_112 fl_X7_83 (by decide) rfl rfl ?_
                rw [sr_T_s8]
                refine wp_aload_n dX7_tell_115 rfl rfl ?_
                refine wp_getI_n (n := F) dX7_tell_116 fl_X7_89 (by decide) rfl rfl (sr_T_5) ?_
                refine wp_if_ne_n (tgt := 61) dX7_tell_119 (by decide) (by first | omega | (split <;> omega)) (fun c268 => ?_) (fun c268 => ?_)
                · have hTF : tl_F (D.1 66) L now (sr_skip (D.1 66) L a) = F := by unfold tl_F; rw [hcn, hcr, ← hF, if_pos hFz]
                  rw [if_pos hlt, hTF, if_neg hFz] at ht
                  have hm : many = t0.1 := by rw [← ht]
                  rw [hm]
                  exact hA F _ _ _ hFz hF2 (by rw [← ht]) (by omega)
                · exact absurd c268 hFz
              · have hFz := c267
                obtain ⟨ha1e, ha1L, hnow1⟩ := hF0 hFz
                rw [hFz]
                show WP g _ _ _ _ (sr_T E2 0 a1 r1 now1) _
                have hq1 := sr_skip_ge (D.1 66) L a1
                have hq2 := sr_skip_le (D.1 66) ha1L
                have hte : tl_e (D.1 66) L now (sr_skip (D.1 66) L a) = sr_skip (D.1 66) L a1 := by unfold tl_e; rw [hcn, ha1e]
                refine wp_aload_n dX7_tell_87 rfl rfl ?_
                refine wp_callV (M2 := M_X7_here) (n := 0) (As := []) (st := []) dX7_tell_88 (c_X7_here g E2 L 0 a1 r1 now1 f7 h300 (by omega) (by omega) (by omega)) ca_X7_92 ⟨nm_X7_here, by decide, by decide⟩ rfl (by decide) rfl rfl rfl (Nat.le_of_ble_eq_true rfl) (fun r269 E270 q271 => ?_)
                rw [f66] at q271
                obtain ⟨rfl, rfl⟩ := q271
                show WP g _ _ _ (.int (sr_at1 (D.1 66) L (sr_skip (D.1 66) L a1)) :: _) (sr_T E2 0 (sr_skip (D.1 66) L a1) r1 now1) _
                refine wp_bipush (v := nI 59) dX7_tell_91 rfl ?_
                refine wp_icmp_eq (tgt := 105) dX7_tell_93 (by decide) (fun c272 => ?_) (fun c272 => ?_)
                · have hse := c272
                  refine wp_aload_n dX7_tell_105 rfl rfl ?_
                  refine wp_dup dX7_tell_106 rfl ?_
                  refine wp_getI_n (n := sr_skip (D.1 66) L a1) dX7_tell_107 fl_X7_83 (by decide) rfl rfl (sr_T_8) ?_
                  refine wp_iconst (v := nI 1) dX7_tell_110 rfl ?_
                  refine wp_iadd_n dX7_tell_111 ?_
                  refine wp_putI dX7_tell_112 fl_X7_83 (by decide) rfl rfl ?_
                  rw [sr_T_s8]
                  refine wp_aload_n dX7_tell_115 rfl rfl ?_
                  refine wp_getI_n (n := 0) dX7_tell_116 fl_X7_89 (by decide) rfl rfl (sr_T_5) ?_
                  refine wp_if_ne (tgt := 61) dX7_tell_119 (by decide) (fun c273 => absurd c273 (by decide)) (fun _ => ?_)
                  refine wp_iinc_n (b := 1) (lv' := [(0, .ref 63), (1, .int (nI (many + 1)))]) dX7_tell_122 rfl rfl (by decide) rfl ?_
                  refine wp_goto (tgt := 61) dX7_tell_125 (by decide) ?_
                  have hTF : tl_F (D.1 66) L now (sr_skip (D.1 66) L a) = 0 := by unfold tl_F; rw [hcn, hcr, ← hF, if_neg (by rw [hFz]; decide), hte, if_pos hse]
                  rw [if_pos hlt, hTF, if_pos rfl, hte] at ht
                  have hN : tl_N (D.1 66) L now (sr_skip (D.1 66) L a) = now1 := by unfold tl_N; rw [hcn, hcr, hnow1]
                  rw [hN] at ht
                  obtain ⟨n2, rc2, hnw2⟩ := sr_toldN_ok (b := D.1 66) (L := L) (a := sr_skip (D.1 66) L a) hnw (by rw [← hF]; exact hFz)
                  rw [← hnow1] at hnw2
                  have hgt := sr_told_gt (b := D.1 66) (L := L) (s := sr_skip (D.1 66) L a) (n := n) (rc := rc) h300 hnw.2.1 (by omega) (by rw [← hF]; exact hFz)
                  rw [← ha1e] at hgt
                  exact ih (many + 1) (sr_skip (D.1 66) L a1 + 1) r1 n2 rc2 now1 (by omega) (by omega) (by omega) hnw2 ht
                · have hse := c272
                  refine wp_aload_n dX7_tell_96 rfl rfl ?_
                  refine wp_iconst (v := nI 1) dX7_tell_97 rfl ?_
                  refine wp_aload_n dX7_tell_98 rfl rfl ?_
                  refine wp_getI_n (n := sr_skip (D.1 66) L a1) dX7_tell_99 fl_X7_83 (by decide) rfl rfl (sr_T_8) ?_
                  refine wp_callV (M2 := M_X7_fails) (n := 2) (As := [.int (nI 1), .int (nI (sr_skip (D.1 66) L a1))]) (st := []) dX7_tell_102 (c_X7_fails g E2 L 0 (sr_skip (D.1 66) L a1) r1 now1 1 (sr_skip (D.1 66) L a1) (by omega) (by omega) f7 h300 (by omega) (by omega) (by omega)) ca_X7_106 ⟨nm_X7_fails, by decide, by decide⟩ rfl (by decide) rfl rfl rfl (Nat.le_of_ble_eq_true rfl) (fun r274 E275 q276 => ?_)
                  rw [if_pos rfl] at q276
                  obtain ⟨rfl, rfl⟩ := q276
                  show WP g _ _ _ _ (sr_T E2 (1 + 8 * (sr_skip (D.1 66) L a1)) (sr_skip (D.1 66) L a1) r1 now1) _
                  refine wp_aload_n dX7_tell_105 rfl rfl ?_
                  refine wp_dup dX7_tell_106 rfl ?_
                  refine wp_getI_n (n := sr_skip (D.1 66) L a1) dX7_tell_107 fl_X7_83 (by decide) rfl rfl (sr_T_8) ?_
                  refine wp_iconst (v := nI 1) dX7_tell_110 rfl ?_
                  refine wp_iadd_n dX7_tell_111 ?_
                  refine wp_putI dX7_tell_112 fl_X7_83 (by decide) rfl rfl ?_
                  rw [sr_T_s8]
                  refine wp_aload_n dX7_tell_115 rfl rfl ?_
                  refine wp_getI_n (n := 1 + 8 * (sr_skip (D.1 66) L a1)) dX7_tell_116 fl_X7_89 (by decide) rfl rfl (sr_T_5) ?_
                  refine wp_if_ne_n (tgt := 61) dX7_tell_119 (by decide) (by first | omega | (split <;> omega)) (fun c277 => ?_) (fun c277 => ?_)
                  · have hTF : tl_F (D.1 66) L now (sr_skip (D.1 66) L a) = 1 + 8 * sr_skip (D.1 66) L a1 := by unfold tl_F; rw [hcn, hcr, ← hF, if_neg (by rw [hFz]; decide), hte, if_neg hse]
                    rw [if_pos hlt, hTF, if_neg (by omega)] at ht
                    have hm : many = t0.1 := by rw [← ht]
                    rw [hm]
                    exact hA (1 + 8 * sr_skip (D.1 66) L a1) _ _ _ (by omega) (by omega) (by rw [← ht]) (by omega)
                  · exact absurd c277 (by omega)
        refine wp_iconst (v := nI 0) dX7_tell_59 rfl ?_
        refine wp_istore_n (lv' := [(0, .ref 63), (1, .int (nI 0))]) dX7_tell_60 rfl (by decide) rfl ?_
        have h := hB (L + 2) 0 0 r n rc (D.1 64) (by omega) (by omega) hr hnow ht0
        rw [← f64, sr_T_self (by rw [f63]; exact e5) (by rw [f63]; exact e8) (by rw [f63]; exact e9)] at h
        exact h
      refine wp_iload_n dX7_tell_35 rfl rfl ?_
      refine wp_bipush (v := nI 60) dX7_tell_36 rfl ?_
      refine wp_icmp_ge_n (tgt := 59) dX7_tell_38 (by decide) (by first | omega | (split <;> omega)) (by first | omega | (split <;> omega)) (fun c251 => ?_) (fun c251 => ?_)
      · have hi60 : i = 60 := by omega
        subst hi60
        exact wp_pick [0] rfl h59
      · refine wp_aload_n dX7_tell_41 rfl rfl ?_
        refine wp_getR (r := 65) dX7_tell_42 fl_X7_13 (by decide) rfl rfl rfl ?_
        refine wp_iload_n dX7_tell_45 rfl rfl ?_
        refine wp_aload_n dX7_tell_46 rfl rfl ?_
        refine wp_getR (r := 64) dX7_tell_47 fl_X7_7 (by decide) rfl rfl rfl ?_
        refine wp_iload_n dX7_tell_50 rfl rfl ?_
        refine wp_iald dX7_tell_51 (by decide) rfl (show _ < 60 by omega) (by first | omega | (split <;> omega)) ?_
        refine wp_iast dX7_tell_52 (by decide) rfl (show _ < 60 by omega) (by first | omega | (split <;> omega)) ?_
        refine wp_D (fun D252 eD252 => ?_)
        refine wp_iinc_n (b := 1) (lv' := [(0, .ref 63), (1, .int (nI (i + 1)))]) dX7_tell_53 rfl rfl (by decide) rfl ?_
        refine wp_goto (tgt := 35) dX7_tell_56 (by decide) ?_
        have h := ih (by omega)
        rw [← sr_fillI] at h
        subst eD252
        exact h
    have h := hC 0 (by decide)
    rw [sr_fill_0, sr_rI_self] at h
    exact h
  refine wp_aload_n dX7_tell_0 rfl rfl ?_
  refine wp_iconst (v := nI 0) dX7_tell_1 rfl ?_
  refine wp_putI dX7_tell_2 fl_X7_43 (by decide) rfl rfl ?_
  refine wp_D (fun D278 eD278 => ?_)
  have k279 : D278.1 63 4 = nI L := by rw [eD278, sr_sI_1, if_neg (by omega)]; exact hT
  refine wp_aload_n dX7_tell_5 rfl rfl ?_
  refine wp_aload_n dX7_tell_6 rfl rfl ?_
  refine wp_getI_n (n := L) dX7_tell_7 fl_X7_77 (by decide) rfl rfl (k279) ?_
  refine wp_putI dX7_tell_10 fl_X7_86 (by decide) rfl rfl ?_
  refine wp_D (fun D280 eD280 => ?_)
  have k281 : D280.1 63 4 = nI L := by rw [eD280, sr_sI_1, if_neg (by omega)]; exact k279
  refine wp_aload_n dX7_tell_13 rfl rfl ?_
  refine wp_iconst (v := nI 0) dX7_tell_14 rfl ?_
  refine wp_putI dX7_tell_15 fl_X7_77 (by decide) rfl rfl ?_
  refine wp_D (fun D282 eD282 => ?_)
  have k284 : D282.1 63 4 = nI 0 := by rw [eD282, sr_sI_1, if_pos ⟨rfl, rfl⟩]
  refine wp_aload_n dX7_tell_18 rfl rfl ?_
  refine wp_iconst (v := nI 0) dX7_tell_19 rfl ?_
  refine wp_putI dX7_tell_20 fl_X7_89 (by decide) rfl rfl ?_
  refine wp_D (fun D285 eD285 => ?_)
  have k286 : D285.1 63 4 = nI 0 := by rw [eD285, sr_sI_1, if_neg (by omega)]; exact k284
  refine wp_aload_n dX7_tell_23 rfl rfl ?_
  refine wp_iconst (v := -1) dX7_tell_24 rfl ?_
  refine wp_putI dX7_tell_25 fl_X7_20 (by decide) rfl rfl ?_
  refine wp_D (fun D287 eD287 => ?_)
  have k288 : D287.1 63 4 = nI 0 := by rw [eD287, sr_sI_1, if_neg (by omega)]; exact k286
  refine wp_aload_n dX7_tell_28 rfl rfl ?_
  refine wp_iconst (v := nI 0) dX7_tell_29 rfl ?_
  refine wp_putI dX7_tell_30 fl_X7_83 (by decide) rfl rfl ?_
  refine wp_D (fun D289 eD289 => ?_)
  have k290 : D289.1 63 4 = nI 0 := by rw [eD289, sr_sI_1, if_neg (by omega)]; exact k288
  refine wp_iconst (v := nI 0) dX7_tell_33 rfl ?_
  refine wp_istore_n (lv' := [(0, .ref 63), (1, .int (nI 0))]) dX7_tell_34 rfl (by decide) rfl ?_
  have hE : (D289).2 = D.2 ∧ (∀ o, ¬ o = 63 → (D289).1 o = D.1 o) ∧ (D289).1 63 4 = nI 0 ∧ (D289).1 63 5 = nI 0 ∧ (D289).1 63 6 = -1 ∧ (D289).1 63 7 = nI L ∧ (D289).1 63 8 = nI 0 ∧ (D289).1 63 9 = nI r ∧ (∀ k, ¬ k = 0 → ¬ k = 4 → ¬ k = 5 → ¬ k = 6 → ¬ k = 7 → ¬ k = 8 → (D289).1 63 k = D.1 63 k) := by
    subst eD278 eD280 eD282 eD285 eD287 eD289
    refine ⟨rfl, fun o ho => by simp [sr_sI, ho], ?_, ?_, ?_, ?_, ?_, ?_, ?_⟩
    · simp [sr_sI_1]
    · simp [sr_sI_1]
    · simp [sr_sI_1]
    · simp [sr_sI_1]
    · simp [sr_sI_1]
    · simp [sr_sI_1, hfr]
    · intro k h0 h4 h5 h6 h7 h8; simp [sr_sI_1, h0, h4, h5, h6, h7, h8]
  exact hMain D289 hE
