/-! ===== even ===== -/
section FI
variable {σ : Type} {F : Nat → Nat → σ → σ} {Pr : σ → Prop}
theorem sr_fb_inv {N a : Nat} (h : ∀ a b s, 0 < a → a < N → 0 < b → b < N → Pr s → Pr (F a b s)) (h0 : 0 < a) (ha : a < N) {s : σ} (hs : Pr s) : ∀ j, j ≤ N - 1 → Pr (sr_fb F a j s) := by
  intro j
  induction j with
  | zero => intro _; exact hs
  | succ j ih => intro hj; exact h a (1 + j) _ h0 ha (by omega) (by omega) (ih (by omega))
theorem sr_fa_inv {N : Nat} (h : ∀ a b s, 0 < a → a < N → 0 < b → b < N → Pr s → Pr (F a b s)) {s : σ} (hs : Pr s) : ∀ i, i ≤ N - 1 → Pr (sr_fa F N i s) := by
  intro i
  induction i with
  | zero => intro _; exact hs
  | succ i ih => intro hi; exact sr_fb_inv h (by omega) (by omega) (ih (by omega)) _ (Nat.le_refl _)
end FI
abbrev md_V : Type := Nat × Nat × Int64
def md_vsz (now : Nat → Int32) (n r a b : Nat) : Int64 := sr_size (md_val (n + 1) (md_P now n r) (md_S1 now n r) (sr_l (sr_form n a b (nI 0))))
def md_vF (now : Nat → Int32) (n r k : Nat) : Nat → Nat → md_V → md_V := fun a b s =>
  if sr_mt k a b = true then (if md_kn (n + 1) (md_P now n r) (sr_l (sr_form n a b (nI 0))) = true ∧ (s.1 = 0 ∨ md_vsz now n r a b < s.2.2) then (a, b, md_vsz now n r a b) else s) else s
def md_ev (now : Nat → Int32) (n r k : Nat) : md_V := sr_fa (md_vF now n r k) (2 ^ n) (2 ^ n - 1) (0, 0, 0)
theorem md_vF_lt {now : Nat → Int32} {n r k N a b : Nat} {s : md_V} (ha : a < N) (hb : b < N) (hs : s.1 < N ∧ s.2.1 < N) : (md_vF now n r k a b s).1 < N ∧ (md_vF now n r k a b s).2.1 < N := by
  unfold md_vF
  split
  · split
    · exact ⟨ha, hb⟩
    · exact hs
  · exact hs
theorem md_vfa {now : Nat → Int32} {n r k : Nat} (hn : n ≤ 6) (i : Nat) (hi : i ≤ 2 ^ n - 1) : (sr_fa (md_vF now n r k) (2 ^ n) i (0, 0, 0)).1 < 64 ∧ (sr_fa (md_vF now n r k) (2 ^ n) i (0, 0, 0)).2.1 < 64 := by
  have hp := Nat.two_pow_pos n
  have hw := sr_pw hn
  have h := sr_fa_inv (N := 2 ^ n) (F := md_vF now n r k) (Pr := fun s => s.1 < 2 ^ n ∧ s.2.1 < 2 ^ n) (fun a b s _ ha _ hb hs => md_vF_lt ha hb hs) (s := (0, 0, 0)) ⟨hp, hp⟩ i hi
  exact ⟨by omega, by omega⟩
theorem md_vfb {now : Nat → Int32} {n r k : Nat} (hn : n ≤ 6) (i j : Nat) (hi : i < 2 ^ n - 1) (hj : j ≤ 2 ^ n - 1) : (sr_fb (md_vF now n r k) (1 + i) j (sr_fa (md_vF now n r k) (2 ^ n) i (0, 0, 0))).1 < 64 ∧ (sr_fb (md_vF now n r k) (1 + i) j (sr_fa (md_vF now n r k) (2 ^ n) i (0, 0, 0))).2.1 < 64 := by
  have hp := Nat.two_pow_pos n
  have hw := sr_pw hn
  have h0 := sr_fa_inv (N := 2 ^ n) (F := md_vF now n r k) (Pr := fun s => s.1 < 2 ^ n ∧ s.2.1 < 2 ^ n) (fun a b s _ ha _ hb hs => md_vF_lt ha hb hs) (s := (0, 0, 0)) ⟨hp, hp⟩ i (by omega)
  have h := sr_fb_inv (N := 2 ^ n) (F := md_vF now n r k) (Pr := fun s => s.1 < 2 ^ n ∧ s.2.1 < 2 ^ n) (fun a b s _ ha _ hb hs => md_vF_lt ha hb hs) (a := 1 + i) (by omega) (by omega) h0 j hj
  exact ⟨by omega, by omega⟩
def md_eva (now : Nat → Int32) (n r k w : Nat) : Int32 := if (md_ev now n r k).1 = 0 then -1 else if w = 0 then nI (md_ev now n r k).1 else nI (md_ev now n r k).2.1
set_option maxHeartbeats 4000000 in
set_option maxRecDepth 100000 in
theorem c_X7_even (g : sr_G) (D : sr_St) (n r : Nat) (hlo : sr_logOk (D.1 64) n r) (hgood : md_good (n + 1) (md_P (D.1 64) n r)) (v w : Int32) : Con g M_X7_even [.ref 63, .int v, .int w] D (fun qa D' => qa = some (.int (if (sr_isIn v (nI 1) (nI 3) && sr_isIn w (nI 0) (nI 1)) = true then md_eva (D.1 64) n r v.toNatClampNeg w.toNatClampNeg else -1)) ∧ sr_per D D') := by
  refine Con.of pn_X7_even (Nat.le_of_ble_eq_true rfl) ?_
  have hn := hlo.1.1
  have hn6 := hlo.1.2.1
  have hr := hlo.1.2.2.1
  have hr12 := hlo.1.2.2.2
  by_cases hok : (sr_isIn v (nI 1) (nI 3) && sr_isIn w (nI 0) (nI 1)) = true
  · obtain ⟨h1, h2⟩ := Bool.and_eq_true_iff.mp hok
    obtain ⟨x, hx1, hx3, rfl⟩ := sr_in13.mp h1
    obtain ⟨z, hz, rfl⟩ := (sr_in_n (n := 2) (by decide)).mp h2
    have hpw := sr_pw hn6
    have hpp := Nat.two_pow_pos n
    have h144 : ∀ E : sr_St, sr_per D E → WP g M_X7_even 144 [(0, .ref 63), (1, .int (nI x)), (2, .int (nI z)), (3, .int (nI (md_ev (D.1 64) n r x).1)), (4, .int (nI (md_ev (D.1 64) n r x).2.1)), (5, .long (md_ev (D.1 64) n r x).2.2)] [] E (fun qa D' => qa = some (.int (if (sr_isIn (nI x) (nI 1) (nI 3) && sr_isIn (nI z) (nI 0) (nI 1)) = true then md_eva (D.1 64) n r (nI x).toNatClampNeg (nI z).toNatClampNeg else -1)) ∧ sr_per D D') := by
      intro E hper
      have hb := md_vfa (now := D.1 64) (r := r) (k := x) hn6 (2 ^ n - 1) (Nat.le_refl _)
      have hb1 : (md_ev (D.1 64) n r x).1 < 64 := hb.1
      refine wp_iload_n dX7_even_144 rfl rfl ?_
      refine wp_if_ne_n (tgt := 152) dX7_even_145 (by decide) (by first | omega | (split <;> omega)) (fun c966 => ?_) (fun c966 => ?_)
      · have h0 := c966
        refine wp_iload_n dX7_even_152 rfl rfl ?_
        refine wp_if_ne_n (tgt := 160) dX7_even_153 (by decide) (by first | omega | (split <;> omega)) (fun c967 => ?_) (fun c967 => ?_)
        · have hz0 := c967
          refine wp_iload dX7_even_160 rfl ?_
          refine wp_iret dX7_even_162 rfl ⟨?_, hper⟩
          rw [if_pos hok, nI_clamp (by omega), nI_clamp (by omega)]
          unfold md_eva
          rw [if_neg h0, if_neg hz0]
        · have hz0 := c967
          refine wp_iload_n dX7_even_156 rfl rfl ?_
          refine wp_goto (tgt := 162) dX7_even_157 (by decide) ?_
          refine wp_iret dX7_even_162 rfl ⟨?_, hper⟩
          rw [if_pos hok, nI_clamp (by omega), nI_clamp (by omega)]
          unfold md_eva
          rw [if_neg h0, if_pos hz0]
      · have h0 := c966
        refine wp_iconst (v := -1) dX7_even_148 rfl ?_
        refine wp_goto (tgt := 162) dX7_even_149 (by decide) ?_
        refine wp_iret dX7_even_162 rfl ⟨?_, hper⟩
        rw [if_pos hok, nI_clamp (by omega), nI_clamp (by omega)]
        unfold md_eva
        rw [if_pos h0]
    have hL : ∀ i, i ≤ 2 ^ n - 1 → ∀ E : sr_St, sr_per D E → md_laid (n + 1) (md_P (D.1 64) n r) (md_S1 (D.1 64) n r) E → WP g M_X7_even 40 [(0, .ref 63), (1, .int (nI x)), (2, .int (nI z)), (3, .int (nI (sr_fa (md_vF (D.1 64) n r x) (2 ^ n) i (0, 0, 0)).1)), (4, .int (nI (sr_fa (md_vF (D.1 64) n r x) (2 ^ n) i (0, 0, 0)).2.1)), (5, .long (sr_fa (md_vF (D.1 64) n r x) (2 ^ n) i (0, 0, 0)).2.2), (7, .int (nI (1 + i)))] [] E (fun qa D' => qa = some (.int (if (sr_isIn (nI x) (nI 1) (nI 3) && sr_isIn (nI z) (nI 0) (nI 1)) = true then md_eva (D.1 64) n r (nI x).toNatClampNeg (nI z).toNatClampNeg else -1)) ∧ sr_per D D') := by
      refine sr_up (fun i hi ih E hper hla => ?_)
      have h138 : i < 2 ^ n - 1 → ∀ E : sr_St, sr_per D E → md_laid (n + 1) (md_P (D.1 64) n r) (md_S1 (D.1 64) n r) E → WP g M_X7_even 138 [(0, .ref 63), (1, .int (nI x)), (2, .int (nI z)), (3, .int (nI (sr_fa (md_vF (D.1 64) n r x) (2 ^ n) (i + 1) (0, 0, 0)).1)), (4, .int (nI (sr_fa (md_vF (D.1 64) n r x) (2 ^ n) (i + 1) (0, 0, 0)).2.1)), (5, .long (sr_fa (md_vF (D.1 64) n r x) (2 ^ n) (i + 1) (0, 0, 0)).2.2), (7, .int (nI (1 + i)))] [] E (fun qa D' => qa = some (.int (if (sr_isIn (nI x) (nI 1) (nI 3) && sr_isIn (nI z) (nI 0) (nI 1)) = true then md_eva (D.1 64) n r (nI x).toNatClampNeg (nI z).toNatClampNeg else -1)) ∧ sr_per D D') := by
        intro hin E hper hla
        refine wp_iinc_n (b := 1) (lv' := [(0, .ref 63), (1, .int (nI x)), (2, .int (nI z)), (3, .int (nI ((sr_fa (md_vF (D.1 64) n r x) (2 ^ n) (i + 1) (0, 0, 0)).1))), (4, .int (nI ((sr_fa (md_vF (D.1 64) n r x) (2 ^ n) (i + 1) (0, 0, 0)).2.1))), (5, .long ((sr_fa (md_vF (D.1 64) n r x) (2 ^ n) (i + 1) (0, 0, 0)).2.2)), (7, .int (nI (1 + (i + 1))))]) dX7_even_138 rfl rfl (by decide) rfl ?_
        refine wp_goto (tgt := 40) dX7_even_141 (by decide) ?_
        exact ih (by omega) E hper hla
      have hI : i < 2 ^ n - 1 → ∀ j, j ≤ 2 ^ n - 1 → ∀ E : sr_St, sr_per D E → md_laid (n + 1) (md_P (D.1 64) n r) (md_S1 (D.1 64) n r) E → WP g M_X7_even 54 [(0, .ref 63), (1, .int (nI x)), (2, .int (nI z)), (3, .int (nI (sr_fb (md_vF (D.1 64) n r x) (1 + i) j (sr_fa (md_vF (D.1 64) n r x) (2 ^ n) i (0, 0, 0))).1)), (4, .int (nI (sr_fb (md_vF (D.1 64) n r x) (1 + i) j (sr_fa (md_vF (D.1 64) n r x) (2 ^ n) i (0, 0, 0))).2.1)), (5, .long (sr_fb (md_vF (D.1 64) n r x) (1 + i) j (sr_fa (md_vF (D.1 64) n r x) (2 ^ n) i (0, 0, 0))).2.2), (7, .int (nI (1 + i))), (8, .int (nI (1 + j)))] [] E (fun qa D' => qa = some (.int (if (sr_isIn (nI x) (nI 1) (nI 3) && sr_isIn (nI z) (nI 0) (nI 1)) = true then md_eva (D.1 64) n r (nI x).toNatClampNeg (nI z).toNatClampNeg else -1)) ∧ sr_per D D') := by
        intro hin
        refine sr_up (fun j hj ihj E hper hla => ?_)
        have hb := md_vfb (now := D.1 64) (r := r) (k := x) hn6 i j hin hj
        have hb1 := hb.1
        generalize hS : sr_fb (md_vF (D.1 64) n r x) (1 + i) j (sr_fa (md_vF (D.1 64) n r x) (2 ^ n) i (0, 0, 0)) = S at *
        have ihq : ∀ S1, S1 = md_vF (D.1 64) n r x (1 + i) (1 + j) S → j + 1 ≤ 2 ^ n - 1 → ∀ E : sr_St, sr_per D E → md_laid (n + 1) (md_P (D.1 64) n r) (md_S1 (D.1 64) n r) E → WP g M_X7_even 54 [(0, .ref 63), (1, .int (nI x)), (2, .int (nI z)), (3, .int (nI (S1).1)), (4, .int (nI (S1).2.1)), (5, .long (S1).2.2), (7, .int (nI (1 + i))), (8, .int (nI (1 + j + 1)))] [] E (fun qa D' => qa = some (.int (if (sr_isIn (nI x) (nI 1) (nI 3) && sr_isIn (nI z) (nI 0) (nI 1)) = true then md_eva (D.1 64) n r (nI x).toNatClampNeg (nI z).toNatClampNeg else -1)) ∧ sr_per D D') := by
          intro S1 hS1 hj1 E hper hla
          have h := ihj hj1 E hper hla
          rw [show sr_fb (md_vF (D.1 64) n r x) (1 + i) (j + 1) (sr_fa (md_vF (D.1 64) n r x) (2 ^ n) i (0, 0, 0)) = md_vF (D.1 64) n r x (1 + i) (1 + j) (sr_fb (md_vF (D.1 64) n r x) (1 + i) j (sr_fa (md_vF (D.1 64) n r x) (2 ^ n) i (0, 0, 0))) from rfl, hS, ← hS1] at h
          exact h
        refine wp_iload dX7_even_54 rfl ?_
        refine wp_iconst (v := nI 1) dX7_even_56 rfl ?_
        refine wp_aload_n dX7_even_57 rfl rfl ?_
        refine wp_callV (M2 := M_X7_n) (n := 0) (As := []) (st := [.int (nI 1), .int (nI (1 + j))]) dX7_even_58 (c_X7_n_n g E n (by rw [(hper).n64]; exact hn)) ca_X7_46 ⟨nm_X7_n, by decide, by decide⟩ rfl (by decide) rfl rfl rfl (Nat.le_of_ble_eq_true rfl) (fun r968 E969 q970 => ?_)
        obtain ⟨rfl, rfl⟩ := q970
        show WP g _ _ _ (.int (nI n) :: _) _ _
        refine wp_ishl_n dX7_even_61 (by omega) (by omega) ?_
        refine wp_icmp_ge_n (tgt := 138) dX7_even_62 (by decide) (by first | omega | (split <;> omega)) (by first | omega | (split <;> omega)) (fun c971 => ?_) (fun c971 => ?_)
        · have hje : j = 2 ^ n - 1 := by omega
          subst hje
          have hq := h138 hin E hper hla
          rw [show sr_fa (md_vF (D.1 64) n r x) (2 ^ n) (i + 1) (0, 0, 0) = S from hS] at hq
          exact wp_pick [0, 1, 2, 3, 4, 5, 6] rfl hq
        · refine wp_aload_n dX7_even_65 rfl rfl ?_
          refine wp_iload dX7_even_66 rfl ?_
          refine wp_iload dX7_even_68 rfl ?_
          refine wp_iload_n dX7_even_70 rfl rfl ?_
          refine wp_callV (M2 := M_X7_isMatch) (n := 3) (As := [.int (nI (1 + i)), .int (nI (1 + j)), .int (nI x)]) (st := []) dX7_even_71 (c_X7_isMatch g E (1 + i) (1 + j) x (by omega) (by omega) (by omega)) ca_X7_257 ⟨nm_X7_isMatch, by decide, by decide⟩ rfl (by decide) rfl rfl rfl (Nat.le_of_ble_eq_true rfl) (fun r972 E973 q974 => ?_)
          obtain ⟨rfl, rfl⟩ := q974
          show WP g _ _ _ (.int (sr_b (sr_mt x (1 + i) (1 + j))) :: _) _ _
          refine wp_if_ne_b (tgt := 80) dX7_even_74 (by decide) (fun c975 => ?_) (fun c975 => ?_)
          · have hmt := c975
            refine wp_aload_n dX7_even_80 rfl rfl ?_
            refine wp_iload dX7_even_81 rfl ?_
            refine wp_iload dX7_even_83 rfl ?_
            refine wp_iconst (v := nI 0) dX7_even_85 rfl ?_
            refine wp_callV (M2 := M_X7_formOf) (n := 3) (As := [.int (nI (1 + i)), .int (nI (1 + j)), .int (nI 0)]) (st := []) dX7_even_86 (c_form g E n (by rw [(hper).n64]; exact hn) (by omega) (1 + i) (1 + j) (by omega) (by omega) (nI 0)) ca_X7_149 ⟨nm_X7_formOf, by decide, by decide⟩ rfl (by decide) rfl rfl rfl (Nat.le_of_ble_eq_true rfl) (fun r976 E977 q978 => ?_)
            obtain ⟨rfl, p979, l980, f981, g982, o983⟩ := q978
            show WP g _ _ _ _ _ _
            have la984 := l980 _ _ _ hla
            refine wp_aload_n dX7_even_89 rfl rfl ?_
            refine wp_callV (M2 := M_X7_isKnown) (n := 0) (As := []) (st := []) dX7_even_90 (c_kn g E977 (n + 1) (md_P (D.1 64) n r) (md_S1 (D.1 64) n r) (sr_form n (1 + i) (1 + j) (nI 0)) (by omega) la984 f981 hgood) ca_X7_189 ⟨nm_X7_isKnown, by decide, by decide⟩ rfl (by decide) rfl rfl rfl (Nat.le_of_ble_eq_true rfl) (fun r985 E986 q987 => ?_)
            obtain ⟨rfl, aft997⟩ := q987
            obtain ⟨p988, la989, f990, x991, y992, z993, rk994, by995, sv996⟩ := id aft997
            have hf998 : ∀ z9, z9 < 7 → E986.1 67 z9 = (sr_form n (1 + i) (1 + j) (nI 0)) z9 := fun z9 hz9 => by rw [f990]; exact f981 z9 hz9
            show WP g _ _ _ (.int (sr_b (md_kn (n + 1) (md_P (D.1 64) n r) (sr_l (sr_form n (1 + i) (1 + j) (nI 0))))) :: _) _ _
            refine wp_if_eq_b (tgt := 132) dX7_even_93 (by decide) (fun c999 => ?_) (fun c999 => ?_)
            · have hkn := c999
              refine wp_iinc_n (b := 1) (lv' := [(0, .ref 63), (1, .int (nI x)), (2, .int (nI z)), (3, .int (nI ((S).1))), (4, .int (nI ((S).2.1))), (5, .long ((S).2.2)), (7, .int (nI (1 + i))), (8, .int (nI (1 + j + 1)))]) dX7_even_132 rfl rfl (by decide) rfl ?_
              refine wp_goto (tgt := 54) dX7_even_135 (by decide) ?_
              refine ihq S ?_ (by omega) E986 (((hper).tr p979).tr p988) la989
              unfold md_vF
              rw [if_pos hmt, if_neg (fun z => by rw [hkn] at z; exact absurd z.1 (by decide))]
            · have hkn := c999
              refine wp_iload_n dX7_even_96 rfl rfl ?_
              refine wp_if_le_n (tgt := 116) dX7_even_97 (by decide) (by first | omega | (split <;> omega)) (fun c1000 => ?_) (fun c1000 => ?_)
              · have h0 := c1000
                refine wp_iload dX7_even_116 rfl ?_
                refine wp_istore_n (lv' := [(0, .ref 63), (1, .int (nI x)), (2, .int (nI z)), (3, .int (nI (1 + i))), (4, .int (nI ((S).2.1))), (5, .long ((S).2.2)), (7, .int (nI (1 + i))), (8, .int (nI (1 + j)))]) dX7_even_118 rfl (by decide) rfl ?_
                refine wp_iload dX7_even_119 rfl ?_
                refine wp_istore (lv' := [(0, .ref 63), (1, .int (nI x)), (2, .int (nI z)), (3, .int (nI (1 + i))), (4, .int (nI (1 + j))), (5, .long ((S).2.2)), (7, .int (nI (1 + i))), (8, .int (nI (1 + j)))]) dX7_even_121 (by decide) rfl ?_
                refine wp_aload_n dX7_even_123 rfl rfl ?_
                refine wp_callV (M2 := M_X7_value) (n := 0) (As := []) (st := []) dX7_even_124 (c_val g E986 (n + 1) (md_P (D.1 64) n r) (md_S1 (D.1 64) n r) (sr_l (sr_form n (1 + i) (1 + j) (nI 0))) (by omega) la989 sv996) ca_X7_192 ⟨nm_X7_value, by decide, by decide⟩ rfl (by decide) rfl rfl rfl (Nat.le_of_ble_eq_true rfl) (fun r1001 E1002 q1003 => ?_)
                obtain ⟨rfl, rfl⟩ := q1003
                show WP g _ _ _ (.long (md_val (n + 1) (md_P (D.1 64) n r) (md_S1 (D.1 64) n r) (sr_l (sr_form n (1 + i) (1 + j) (nI 0)))) :: _) _ _
                refine wp_callS (M2 := M_X7_size) (n := 1) (As := [.long (md_val (n + 1) (md_P (D.1 64) n r) (md_S1 (D.1 64) n r) (sr_l (sr_form n (1 + i) (1 + j) (nI 0))))]) (st := []) dX7_even_127 (c_X7_size g E986 (md_val (n + 1) (md_P (D.1 64) n r) (md_S1 (D.1 64) n r) (sr_l (sr_form n (1 + i) (1 + j) (nI 0))))) ca_X7_173 ⟨nm_X7_size, by decide, by decide⟩ rfl rfl (Nat.le_of_ble_eq_true rfl) (fun r1004 E1005 q1006 => ?_)
                obtain ⟨rfl, rfl⟩ := q1006
                show WP g _ _ _ (.long (sr_size (md_val (n + 1) (md_P (D.1 64) n r) (md_S1 (D.1 64) n r) (sr_l (sr_form n (1 + i) (1 + j) (nI 0))))) :: _) _ _
                refine wp_topl (fun x1007 ex1007 => ?_)
                refine wp_lstore (lv' := [(0, .ref 63), (1, .int (nI x)), (2, .int (nI z)), (3, .int (nI (1 + i))), (4, .int (nI (1 + j))), (5, .long x1007), (7, .int (nI (1 + i))), (8, .int (nI (1 + j)))]) dX7_even_130 (by decide) rfl ?_
                refine wp_iinc_n (b := 1) (lv' := [(0, .ref 63), (1, .int (nI x)), (2, .int (nI z)), (3, .int (nI (1 + i))), (4, .int (nI (1 + j))), (5, .long x1007), (7, .int (nI (1 + i))), (8, .int (nI (1 + j + 1)))]) dX7_even_132 rfl rfl (by decide) rfl ?_
                refine wp_goto (tgt := 54) dX7_even_135 (by decide) ?_
                subst ex1007
                refine ihq (1 + i, 1 + j, md_vsz (D.1 64) n r (1 + i) (1 + j)) ?_ (by omega) E986 (((hper).tr p979).tr p988) la989
                unfold md_vF
                rw [if_pos hmt, if_pos ⟨hkn, Or.inl (by omega)⟩]
              · have h0 := c1000
                refine wp_aload_n dX7_even_100 rfl rfl ?_
                refine wp_callV (M2 := M_X7_value) (n := 0) (As := []) (st := []) dX7_even_101 (c_val g E986 (n + 1) (md_P (D.1 64) n r) (md_S1 (D.1 64) n r) (sr_l (sr_form n (1 + i) (1 + j) (nI 0))) (by omega) la989 sv996) ca_X7_192 ⟨nm_X7_value, by decide, by decide⟩ rfl (by decide) rfl rfl rfl (Nat.le_of_ble_eq_true rfl) (fun r1008 E1009 q1010 => ?_)
                obtain ⟨rfl, rfl⟩ := q1010
                show WP g _ _ _ (.long (md_val (n + 1) (md_P (D.1 64) n r) (md_S1 (D.1 64) n r) (sr_l (sr_form n (1 + i) (1 + j) (nI 0)))) :: _) _ _
                refine wp_callS (M2 := M_X7_size) (n := 1) (As := [.long (md_val (n + 1) (md_P (D.1 64) n r) (md_S1 (D.1 64) n r) (sr_l (sr_form n (1 + i) (1 + j) (nI 0))))]) (st := []) dX7_even_104 (c_X7_size g E986 (md_val (n + 1) (md_P (D.1 64) n r) (md_S1 (D.1 64) n r) (sr_l (sr_form n (1 + i) (1 + j) (nI 0))))) ca_X7_173 ⟨nm_X7_size, by decide, by decide⟩ rfl rfl (Nat.le_of_ble_eq_true rfl) (fun r1011 E1012 q1013 => ?_)
                obtain ⟨rfl, rfl⟩ := q1013
                show WP g _ _ _ (.long (sr_size (md_val (n + 1) (md_P (D.1 64) n r) (md_S1 (D.1 64) n r) (sr_l (sr_form n (1 + i) (1 + j) (nI 0))))) :: _) _ _
                refine wp_lload dX7_even_107 rfl ?_
                refine wp_lcmp_lt (tgt := 116) dX7_even_109 dX7_even_110 (by decide) (fun c1014 => ?_) (fun c1014 => ?_)
                · have hlt := c1014
                  refine wp_iload dX7_even_116 rfl ?_
                  refine wp_istore_n (lv' := [(0, .ref 63), (1, .int (nI x)), (2, .int (nI z)), (3, .int (nI (1 + i))), (4, .int (nI ((S).2.1))), (5, .long ((S).2.2)), (7, .int (nI (1 + i))), (8, .int (nI (1 + j)))]) dX7_even_118 rfl (by decide) rfl ?_
                  refine wp_iload dX7_even_119 rfl ?_
                  refine wp_istore (lv' := [(0, .ref 63), (1, .int (nI x)), (2, .int (nI z)), (3, .int (nI (1 + i))), (4, .int (nI (1 + j))), (5, .long ((S).2.2)), (7, .int (nI (1 + i))), (8, .int (nI (1 + j)))]) dX7_even_121 (by decide) rfl ?_
                  refine wp_aload_n dX7_even_123 rfl rfl ?_
                  refine wp_callV (M2 := M_X7_value) (n := 0) (As := []) (st := []) dX7_even_124 (c_val g E986 (n + 1) (md_P (D.1 64) n r) (md_S1 (D.1 64) n r) (sr_l (sr_form n (1 + i) (1 + j) (nI 0))) (by omega) la989 sv996) ca_X7_192 ⟨nm_X7_value, by decide, by decide⟩ rfl (by decide) rfl rfl rfl (Nat.le_of_ble_eq_true rfl) (fun r1015 E1016 q1017 => ?_)
                  obtain ⟨rfl, rfl⟩ := q1017
                  show WP g _ _ _ (.long (md_val (n + 1) (md_P (D.1 64) n r) (md_S1 (D.1 64) n r) (sr_l (sr_form n (1 + i) (1 + j) (nI 0)))) :: _) _ _
                  refine wp_callS (M2 := M_X7_size) (n := 1) (As := [.long (md_val (n + 1) (md_P (D.1 64) n r) (md_S1 (D.1 64) n r) (sr_l (sr_form n (1 + i) (1 + j) (nI 0))))]) (st := []) dX7_even_127 (c_X7_size g E986 (md_val (n + 1) (md_P (D.1 64) n r) (md_S1 (D.1 64) n r) (sr_l (sr_form n (1 + i) (1 + j) (nI 0))))) ca_X7_173 ⟨nm_X7_size, by decide, by decide⟩ rfl rfl (Nat.le_of_ble_eq_true rfl) (fun r1018 E1019 q1020 => ?_)
                  obtain ⟨rfl, rfl⟩ := q1020
                  show WP g _ _ _ (.long (sr_size (md_val (n + 1) (md_P (D.1 64) n r) (md_S1 (D.1 64) n r) (sr_l (sr_form n (1 + i) (1 + j) (nI 0))))) :: _) _ _
                  refine wp_topl (fun x1021 ex1021 => ?_)
                  refine wp_lstore (lv' := [(0, .ref 63), (1, .int (nI x)), (2, .int (nI z)), (3, .int (nI (1 + i))), (4, .int (nI (1 + j))), (5, .long x1021), (7, .int (nI (1 + i))), (8, .int (nI (1 + j)))]) dX7_even_130 (by decide) rfl ?_
                  refine wp_iinc_n (b := 1) (lv' := [(0, .ref 63), (1, .int (nI x)), (2, .int (nI z)), (3, .int (nI (1 + i))), (4, .int (nI (1 + j))), (5, .long x1021), (7, .int (nI (1 + i))), (8, .int (nI (1 + j + 1)))]) dX7_even_132 rfl rfl (by decide) rfl ?_
                  refine wp_goto (tgt := 54) dX7_even_135 (by decide) ?_
                  subst ex1021
                  refine ihq (1 + i, 1 + j, md_vsz (D.1 64) n r (1 + i) (1 + j)) ?_ (by omega) E986 (((hper).tr p979).tr p988) la989
                  unfold md_vF
                  rw [if_pos hmt, if_pos ⟨hkn, Or.inr hlt⟩]
                · have hlt := c1014
                  refine wp_goto (tgt := 132) dX7_even_113 (by decide) ?_
                  refine wp_iinc_n (b := 1) (lv' := [(0, .ref 63), (1, .int (nI x)), (2, .int (nI z)), (3, .int (nI ((S).1))), (4, .int (nI ((S).2.1))), (5, .long ((S).2.2)), (7, .int (nI (1 + i))), (8, .int (nI (1 + j + 1)))]) dX7_even_132 rfl rfl (by decide) rfl ?_
                  refine wp_goto (tgt := 54) dX7_even_135 (by decide) ?_
                  refine ihq S ?_ (by omega) E986 (((hper).tr p979).tr p988) la989
                  unfold md_vF
                  rw [if_pos hmt, if_neg (fun z => z.2.elim (fun e => by omega) hlt)]
          · have hmt := c975
            refine wp_goto (tgt := 132) dX7_even_77 (by decide) ?_
            refine wp_iinc_n (b := 1) (lv' := [(0, .ref 63), (1, .int (nI x)), (2, .int (nI z)), (3, .int (nI ((S).1))), (4, .int (nI ((S).2.1))), (5, .long ((S).2.2)), (7, .int (nI (1 + i))), (8, .int (nI (1 + j + 1)))]) dX7_even_132 rfl rfl (by decide) rfl ?_
            refine wp_goto (tgt := 54) dX7_even_135 (by decide) ?_
            refine ihq S ?_ (by omega) E (hper) hla
            unfold md_vF
            rw [if_neg (by rw [hmt]; decide)]
      refine wp_iload dX7_even_40 rfl ?_
      refine wp_iconst (v := nI 1) dX7_even_42 rfl ?_
      refine wp_aload_n dX7_even_43 rfl rfl ?_
      refine wp_callV (M2 := M_X7_n) (n := 0) (As := []) (st := [.int (nI 1), .int (nI (1 + i))]) dX7_even_44 (c_X7_n_n g E n (by rw [(hper).n64]; exact hn)) ca_X7_46 ⟨nm_X7_n, by decide, by decide⟩ rfl (by decide) rfl rfl rfl (Nat.le_of_ble_eq_true rfl) (fun r1022 E1023 q1024 => ?_)
      obtain ⟨rfl, rfl⟩ := q1024
      show WP g _ _ _ (.int (nI n) :: _) _ _
      refine wp_ishl_n dX7_even_47 (by omega) (by omega) ?_
      refine wp_icmp_ge_n (tgt := 144) dX7_even_48 (by decide) (by first | omega | (split <;> omega)) (by first | omega | (split <;> omega)) (fun c1025 => ?_) (fun c1025 => ?_)
      · have hie : i = 2 ^ n - 1 := by omega
        subst hie
        exact wp_pick [0, 1, 2, 3, 4, 5] rfl (h144 E hper)
      · refine wp_iconst (v := nI 1) dX7_even_51 rfl ?_
        refine wp_istore (lv' := [(0, .ref 63), (1, .int (nI x)), (2, .int (nI z)), (3, .int (nI ((sr_fa (md_vF (D.1 64) n r x) (2 ^ n) i (0, 0, 0)).1))), (4, .int (nI ((sr_fa (md_vF (D.1 64) n r x) (2 ^ n) i (0, 0, 0)).2.1))), (5, .long ((sr_fa (md_vF (D.1 64) n r x) (2 ^ n) i (0, 0, 0)).2.2)), (7, .int (nI (1 + i))), (8, .int (nI 1))]) dX7_even_52 (by decide) rfl ?_
        exact hI (by omega) 0 (by omega) E hper hla
    refine wp_aload_n dX7_even_0 rfl rfl ?_
    refine wp_iconst (v := nI 0) dX7_even_1 rfl ?_
    refine wp_putI dX7_even_2 fl_X7_43 (by decide) rfl rfl ?_
    refine wp_D (fun D1026 eD1026 => ?_)
    have p1027 : sr_per D D1026 := by rw [eD1026]; exact sr_per_th
    refine wp_iload_n dX7_even_5 rfl rfl ?_
    refine wp_iconst (v := nI 1) dX7_even_6 rfl ?_
    refine wp_iconst (v := nI 3) dX7_even_7 rfl ?_
    refine wp_callS (M2 := M_X7_isIn) (n := 3) (As := [.int (nI x), .int (nI 1), .int (nI 3)]) (st := []) dX7_even_8 (c_X7_isIn g D1026 (nI x) (nI 1) (nI 3)) ca_X7_50 ⟨nm_X7_isIn, by decide, by decide⟩ rfl rfl (Nat.le_of_ble_eq_true rfl) (fun r1028 E1029 q1030 => ?_)
    obtain ⟨rfl, rfl⟩ := q1030
    show WP g _ _ _ (.int (sr_b (sr_isIn (nI x) (nI 1) (nI 3))) :: _) _ _
    refine wp_if_eq_b (tgt := 23) dX7_even_11 (by decide) (fun c1031 => ?_) (fun c1031 => ?_)
    · exact absurd h1 (by rw [c1031]; decide)
    · refine wp_iload_n dX7_even_14 rfl rfl ?_
      refine wp_iconst (v := nI 0) dX7_even_15 rfl ?_
      refine wp_iconst (v := nI 1) dX7_even_16 rfl ?_
      refine wp_callS (M2 := M_X7_isIn) (n := 3) (As := [.int (nI z), .int (nI 0), .int (nI 1)]) (st := []) dX7_even_17 (c_X7_isIn g D1026 (nI z) (nI 0) (nI 1)) ca_X7_50 ⟨nm_X7_isIn, by decide, by decide⟩ rfl rfl (Nat.le_of_ble_eq_true rfl) (fun r1032 E1033 q1034 => ?_)
      obtain ⟨rfl, rfl⟩ := q1034
      show WP g _ _ _ (.int (sr_b (sr_isIn (nI z) (nI 0) (nI 1))) :: _) _ _
      refine wp_if_ne_b (tgt := 25) dX7_even_20 (by decide) (fun c1035 => ?_) (fun c1035 => ?_)
      · refine wp_aload_n dX7_even_25 rfl rfl ?_
        refine wp_callV (M2 := M_X7_lays) (n := 0) (As := []) (st := []) dX7_even_26 (c_X7_lays g D1026 n r (by rw [((sr_per.rf).tr p1027).n64]; exact hlo)) ca_X7_183 ⟨nm_X7_lays, by decide, by decide⟩ rfl (by decide) rfl rfl rfl (Nat.le_of_ble_eq_true rfl) (fun r1036 E1037 q1038 => ?_)
        rw [((sr_per.rf).tr p1027).n64] at q1038
        obtain ⟨rfl, p1039, la1040, h651041, h631042, g631043⟩ := q1038
        show WP g _ _ _ _ _ _
        refine wp_iconst (v := nI 0) dX7_even_29 rfl ?_
        refine wp_istore_n (lv' := [(0, .ref 63), (1, .int (nI x)), (2, .int (nI z)), (3, .int (nI 0))]) dX7_even_30 rfl (by decide) rfl ?_
        refine wp_iconst (v := nI 0) dX7_even_31 rfl ?_
        refine wp_istore (lv' := [(0, .ref 63), (1, .int (nI x)), (2, .int (nI z)), (3, .int (nI 0)), (4, .int (nI 0))]) dX7_even_32 (by decide) rfl ?_
        refine wp_lconst (v := 0) dX7_even_34 rfl ?_
        refine wp_lstore (lv' := [(0, .ref 63), (1, .int (nI x)), (2, .int (nI z)), (3, .int (nI 0)), (4, .int (nI 0)), (5, .long 0)]) dX7_even_35 (by decide) rfl ?_
        refine wp_iconst (v := nI 1) dX7_even_37 rfl ?_
        refine wp_istore (lv' := [(0, .ref 63), (1, .int (nI x)), (2, .int (nI z)), (3, .int (nI 0)), (4, .int (nI 0)), (5, .long 0), (7, .int (nI 1))]) dX7_even_38 (by decide) rfl ?_
        exact hL 0 (by omega) E1037 (((sr_per.rf).tr p1027).tr p1039) la1040
      · exact absurd h2 (by rw [c1035]; decide)
  · refine wp_aload_n dX7_even_0 rfl rfl ?_
    refine wp_iconst (v := nI 0) dX7_even_1 rfl ?_
    refine wp_putI dX7_even_2 fl_X7_43 (by decide) rfl rfl ?_
    refine wp_D (fun D1044 eD1044 => ?_)
    have p1045 : sr_per D D1044 := by rw [eD1044]; exact sr_per_th
    refine wp_iload_n dX7_even_5 rfl rfl ?_
    refine wp_iconst (v := nI 1) dX7_even_6 rfl ?_
    refine wp_iconst (v := nI 3) dX7_even_7 rfl ?_
    refine wp_callS (M2 := M_X7_isIn) (n := 3) (As := [.int v, .int (nI 1), .int (nI 3)]) (st := []) dX7_even_8 (c_X7_isIn g D1044 v (nI 1) (nI 3)) ca_X7_50 ⟨nm_X7_isIn, by decide, by decide⟩ rfl rfl (Nat.le_of_ble_eq_true rfl) (fun r1046 E1047 q1048 => ?_)
    obtain ⟨rfl, rfl⟩ := q1048
    show WP g _ _ _ (.int (sr_b (sr_isIn v (nI 1) (nI 3))) :: _) _ _
    refine wp_if_eq_b (tgt := 23) dX7_even_11 (by decide) (fun c1049 => ?_) (fun c1049 => ?_)
    · refine wp_iconst (v := -1) dX7_even_23 rfl ?_
      refine wp_iret dX7_even_24 rfl ⟨?_, (sr_per.rf).tr p1045⟩
      rw [if_neg hok]
    · have h1 := c1049
      refine wp_iload_n dX7_even_14 rfl rfl ?_
      refine wp_iconst (v := nI 0) dX7_even_15 rfl ?_
      refine wp_iconst (v := nI 1) dX7_even_16 rfl ?_
      refine wp_callS (M2 := M_X7_isIn) (n := 3) (As := [.int w, .int (nI 0), .int (nI 1)]) (st := []) dX7_even_17 (c_X7_isIn g D1044 w (nI 0) (nI 1)) ca_X7_50 ⟨nm_X7_isIn, by decide, by decide⟩ rfl rfl (Nat.le_of_ble_eq_true rfl) (fun r1050 E1051 q1052 => ?_)
      obtain ⟨rfl, rfl⟩ := q1052
      show WP g _ _ _ (.int (sr_b (sr_isIn w (nI 0) (nI 1))) :: _) _ _
      refine wp_if_ne_b (tgt := 25) dX7_even_20 (by decide) (fun c1053 => ?_) (fun c1053 => ?_)
      · exact absurd (by rw [h1, c1053]; rfl) hok
      · refine wp_iconst (v := -1) dX7_even_23 rfl ?_
        refine wp_iret dX7_even_24 rfl ⟨?_, (sr_per.rf).tr p1045⟩
        rw [if_neg hok]
