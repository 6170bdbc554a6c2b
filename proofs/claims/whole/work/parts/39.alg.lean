/-- behind solves, for what stands behind the table as longs -/
def md_afterL (w : Nat) (p s f : Nat → Int64) (E E' : sr_St) : Prop := sr_per E E' ∧ md_laid w p s E' ∧ E'.1 65 = E.1 65 ∧ (∀ k, ¬ k = 16 → E'.1 63 k = E.1 63 k) ∧ (∀ k, ¬ k = 17 → E'.2 63 k = E.2 63 k) ∧ E'.2 63 17 = md_by w p f ∧ ∀ k, k < 7 → E'.2 71 k = md_sv w p f k
theorem md_post_afterL {w : Nat} {p s p' f f' : Nat → Int64} {E E' : sr_St} (hw : w ≤ 7) (hl : md_laid w p s E) (hp : ∀ k, k < 49 → p' k = p k) (hf : ∀ k, k < 7 → f' k = f k) (h : md_post E w p' f' E') : md_afterL w p s f E E' := by
  obtain ⟨r, le, so, rfl, hso⟩ := h
  obtain ⟨e1, e2, e3, e4⟩ := md_E_congr hw hp hf
  obtain ⟨l1, l2, l3⟩ := hl
  refine ⟨⟨fun o a b c d => ?_, fun k a b c d e f => ?_, fun o a b c d e => ?_⟩, ⟨?_, fun k hk => ?_, fun k hk => ?_⟩, rfl, fun k hk => ?_, fun k hk => ?_, ?_, fun k hk => ?_⟩
  · simp [md_D, a, d]
  · simp [md_D, upd, b]
  · simp [md_D, a, d, e]
  · exact l1
  · exact l2 k hk
  · exact l3 k hk
  · simp [md_D, upd, hk]
  · simp [md_D, vp_updL, hk]
  · rw [← e2]; rfl
  · rw [← e4]; exact hso k hk
/-- the sum of squares, times the number below -/
def md_sq (now : Nat → Int32) (r : Nat) : Int64 := sr_sumL (fun q => (now (3 + 4 * q + 2)).toInt64 * (now (3 + 4 * q + 2)).toInt64) r
def md_su (n r : Nat) (now : Nat → Int32) : Int64 := (if md_kn (n + 1) (md_P now n r) (md_S1 now n r) = true then md_sq now r else 0) * md_b (n + 1) (md_P now n r) - md_val (n + 1) (md_P now n r) (md_S1 now n r) (md_S1 now n r)
set_option maxHeartbeats 4000000 in
set_option maxRecDepth 100000 in
theorem c_X7_sumsUp (g : sr_G) (D : sr_St) (n r : Nat) (hlo : sr_logOk (D.1 64) n r) (hgood : md_good (n + 1) (md_P (D.1 64) n r)) : Con g M_X7_sumsUp [.ref 63] D (fun qa D' => qa = none ∧ sr_per D D' ∧ D'.1 65 = D.1 65 ∧ (∀ k, ¬ k = 16 → ¬ k = 18 → D'.1 63 k = D.1 63 k) ∧ D'.2 63 17 = md_b (n + 1) (md_P (D.1 64) n r) ∧ D'.2 63 19 = md_su n r (D.1 64)) := by
  refine Con.of pn_X7_sumsUp (Nat.le_of_ble_eq_true rfl) ?_
  have hn := hlo.1.1
  have hn6 := hlo.1.2.1
  have hr := hlo.1.2.2.1
  have hr12 := hlo.1.2.2.2
  show WP g M_X7_sumsUp 0 [(0, .ref 63)] [] D _
  generalize hPe : md_P (D.1 64) n r = p at *
  generalize hSe : md_S1 (D.1 64) n r = s at *
  have hM : ∀ E : sr_St, sr_per D E → md_laid (n + 1) p s E → E.1 65 = D.1 65 → (∀ k, ¬ k = 18 → E.1 63 k = D.1 63 k) → WP g M_X7_sumsUp 4 [(0, .ref 63)] [] E (fun qa D' => qa = none ∧ sr_per D D' ∧ D'.1 65 = D.1 65 ∧ (∀ k, ¬ k = 16 → ¬ k = 18 → D'.1 63 k = D.1 63 k) ∧ D'.2 63 17 = md_b (n + 1) p ∧ D'.2 63 19 = md_su n r (D.1 64)) := by
    intro E hper hl h65 h63
    have hw := hl.1
    have e64 := hper.n64
    generalize hwn : n + 1 = w at *
    have hw7 : w ≤ 7 := by omega
    have h127 : ∀ F : sr_St, md_afterL w p s s E F → WP g M_X7_sumsUp 127 [(0, .ref 63), (2, .long (if md_kn w p s = true then md_sq (D.1 64) r else 0))] [] F (fun qa D' => qa = none ∧ sr_per D D' ∧ D'.1 65 = D.1 65 ∧ (∀ k, ¬ k = 16 → ¬ k = 18 → D'.1 63 k = D.1 63 k) ∧ D'.2 63 17 = md_b w p ∧ D'.2 63 19 = md_su n r (D.1 64)) := by
      intro F ha
      obtain ⟨a1, a2, a3, a4, a5, a6, a7⟩ := id ha
      have hbb := (md_by_b (w := w) (p := p) (f := s) hw7).1
      refine wp_aload_n dX7_sumsUp_127 rfl rfl ?_
      refine wp_lload_n dX7_sumsUp_128 rfl rfl ?_
      refine wp_aload_n dX7_sumsUp_129 rfl rfl ?_
      refine wp_getJ dX7_sumsUp_130 fl_X7_159 (by decide) rfl rfl ?_
      rw [a6, hbb]
      refine wp_lmul dX7_sumsUp_133 ?_
      refine wp_aload_n dX7_sumsUp_134 rfl rfl ?_
      refine wp_callV (M2 := M_X7_value) (n := 0) (As := []) (st := [.long ((if md_kn w p s = true then md_sq (D.1 64) r else 0) * (md_b w p)), .ref 63]) dX7_sumsUp_135 (c_val g F w p s s hw7 a2 a7) ca_X7_192 ⟨nm_X7_value, by decide, by decide⟩ rfl (by decide) rfl rfl rfl (Nat.le_of_ble_eq_true rfl) (fun r197 E198 q199 => ?_)
      obtain ⟨rfl, rfl⟩ := q199
      show WP g _ _ _ (.long (md_val w p s s) :: _) _ _
      refine wp_lsub dX7_sumsUp_138 ?_
      refine wp_putJ dX7_sumsUp_139 fl_X7_206 (by decide) rfl rfl ?_
      refine wp_D (fun D200 eD200 => ?_)
      refine wp_vret dX7_sumsUp_142 rfl ⟨rfl, ?_, ?_, ?_, ?_, ?_⟩
      · rw [eD200]; exact (hper.tr a1).tr ⟨fun o a b c d => rfl, fun k a b c d e f => rfl, fun o a b c d e => by simp [sr_sJ, a]⟩
      · rw [eD200]; exact a3.trans h65
      · intro k k1 k2; rw [eD200, sr_sJ_1, a4 k k1]; exact h63 k k2
      · rw [eD200, sr_sJ_2, if_neg (by decide), a6, hbb]
      · rw [eD200, sr_sJ_2, if_pos ⟨rfl, rfl⟩]; unfold md_su; rw [hwn, hPe, hSe]
    have h88 : ∀ i, i ≤ r → ∀ F : sr_St, md_afterL w p s s E F → md_kn w p s = true → WP g M_X7_sumsUp 88 [(0, .ref 63), (1, .int (sr_b (md_kn w p s))), (2, .long (md_sq (D.1 64) i)), (4, .int (nI i))] [] F (fun qa D' => qa = none ∧ sr_per D D' ∧ D'.1 65 = D.1 65 ∧ (∀ k, ¬ k = 16 → ¬ k = 18 → D'.1 63 k = D.1 63 k) ∧ D'.2 63 17 = md_b w p ∧ D'.2 63 19 = md_su n r (D.1 64)) := by
      refine sr_up (fun i hi ih F ha hkn => ?_)
      have f64 : F.1 64 = D.1 64 := by rw [ha.1.n64]; exact e64
      refine wp_iload dX7_sumsUp_88 rfl ?_
      refine wp_aload_n dX7_sumsUp_90 rfl rfl ?_
      refine wp_callV (M2 := M_X7_races) (n := 0) (As := []) (st := [.int (nI i)]) dX7_sumsUp_91 (c_X7_races_n g F r (by rw [f64]; exact hr)) ca_X7_58 ⟨nm_X7_races, by decide, by decide⟩ rfl (by decide) rfl rfl rfl (Nat.le_of_ble_eq_true rfl) (fun r185 E186 q187 => ?_)
      obtain ⟨rfl, rfl⟩ := q187
      show WP g _ _ _ (.int (nI r) :: _) _ _
      refine wp_icmp_ge_n (tgt := 127) dX7_sumsUp_94 (by decide) (by first | omega | (split <;> omega)) (by first | omega | (split <;> omega)) (fun c188 => ?_) (fun c188 => ?_)
      · have hir : i = r := by omega
        subst hir
        have hq : (if md_kn w p s = true then md_sq (D.1 64) i else 0) = md_sq (D.1 64) i := if_pos hkn
        rw [← hq]
        exact wp_pick [0, 2] rfl (h127 F ha)
      · refine wp_iload_n dX7_sumsUp_97 rfl rfl ?_
        refine wp_if_eq_b (tgt := 127) dX7_sumsUp_98 (by decide) (fun c189 => ?_) (fun c189 => ?_)
        · exact absurd hkn (by rw [c189]; decide)
        · refine wp_lload_n dX7_sumsUp_101 rfl rfl ?_
          refine wp_aload_n dX7_sumsUp_102 rfl rfl ?_
          refine wp_iload dX7_sumsUp_103 rfl ?_
          refine wp_iconst (v := nI 2) dX7_sumsUp_105 rfl ?_
          refine wp_callV (M2 := M_X7_of) (n := 2) (As := [.int (nI i), .int (nI 2)]) (st := [.long (md_sq (D.1 64) i)]) dX7_sumsUp_106 (c_X7_of g F i 2 (by omega) (by omega) (by omega)) ca_X7_73 ⟨nm_X7_of, by decide, by decide⟩ rfl (by decide) rfl rfl rfl (Nat.le_of_ble_eq_true rfl) (fun r190 E191 q192 => ?_)
          rw [f64] at q192
          obtain ⟨rfl, rfl⟩ := q192
          show WP g _ _ _ (.int (D.1 64 (3 + 4 * i + 2)) :: _) _ _
          refine wp_i2l dX7_sumsUp_109 ?_
          refine wp_aload_n dX7_sumsUp_110 rfl rfl ?_
          refine wp_iload dX7_sumsUp_111 rfl ?_
          refine wp_iconst (v := nI 2) dX7_sumsUp_113 rfl ?_
          refine wp_callV (M2 := M_X7_of) (n := 2) (As := [.int (nI i), .int (nI 2)]) (st := [.long ((D.1 64 (3 + 4 * i + 2)).toInt64), .long (md_sq (D.1 64) i)]) dX7_sumsUp_114 (c_X7_of g F i 2 (by omega) (by omega) (by omega)) ca_X7_73 ⟨nm_X7_of, by decide, by decide⟩ rfl (by decide) rfl rfl rfl (Nat.le_of_ble_eq_true rfl) (fun r193 E194 q195 => ?_)
          rw [f64] at q195
          obtain ⟨rfl, rfl⟩ := q195
          show WP g _ _ _ (.int (D.1 64 (3 + 4 * i + 2)) :: _) _ _
          refine wp_i2l dX7_sumsUp_117 ?_
          refine wp_lmul dX7_sumsUp_118 ?_
          refine wp_ladd dX7_sumsUp_119 ?_
          refine wp_topl (fun x196 ex196 => ?_)
          refine wp_lstore_n (lv' := [(0, .ref 63), (1, .int (sr_b (md_kn w p s))), (2, .long x196), (4, .int (nI i))]) dX7_sumsUp_120 rfl (by decide) rfl ?_
          refine wp_iinc_n (b := 1) (lv' := [(0, .ref 63), (1, .int (sr_b (md_kn w p s))), (2, .long x196), (4, .int (nI (i + 1)))]) dX7_sumsUp_121 rfl rfl (by decide) rfl ?_
          refine wp_goto (tgt := 88) dX7_sumsUp_124 (by decide) ?_
          subst ex196
          exact ih (by omega) F ha hkn
    have h78 : WP g M_X7_sumsUp 78 [(0, .ref 63)] [] (sr_rJ E 70 (md_tabT w w 0 (E.2 68) (E.2 69) (E.2 70))) (fun qa D' => qa = none ∧ sr_per D D' ∧ D'.1 65 = D.1 65 ∧ (∀ k, ¬ k = 16 → ¬ k = 18 → D'.1 63 k = D.1 63 k) ∧ D'.2 63 17 = md_b w p ∧ D'.2 63 19 = md_su n r (D.1 64)) := by
      obtain ⟨e1, e2, e3, e4⟩ := md_E_congr (p := E.2 68) (p' := p) (f := E.2 69) (f' := s) hw7 hl.2.1 hl.2.2
      refine wp_aload_n dX7_sumsUp_78 rfl rfl ?_
      refine wp_callV (M2 := M_X7_solves) (n := 0) (As := []) (st := []) dX7_sumsUp_79 (c_solves g (sr_rJ E 70 (md_tabT w w 0 (E.2 68) (E.2 69) (E.2 70))) w hw hw7 (E.2 68) (E.2 69) (E.2 70) (by rw [sr_rJ_2, if_pos rfl, md_tabT_w]) (by rw [e2]; exact sr_l0 (hgood _))) ca_X7_170 ⟨nm_X7_solves, by decide, by decide⟩ rfl (by decide) rfl rfl rfl (Nat.le_of_ble_eq_true rfl) (fun r201 E202 q203 => ?_)
      obtain ⟨rfl, h2⟩ := q203
      have ha := md_post_afterL hw7 hl hl.2.1 hl.2.2 (md_post_70 h2)
      rw [e1]
      show WP g _ _ _ (.int (sr_b (md_kn w p s)) :: _) _ _
      refine wp_istore_n (lv' := [(0, .ref 63), (1, .int (sr_b (md_kn w p s)))]) dX7_sumsUp_82 rfl (by decide) rfl ?_
      refine wp_lconst (v := 0) dX7_sumsUp_83 rfl ?_
      refine wp_lstore_n (lv' := [(0, .ref 63), (1, .int (sr_b (md_kn w p s))), (2, .long 0)]) dX7_sumsUp_84 rfl (by decide) rfl ?_
      refine wp_iconst (v := nI 0) dX7_sumsUp_85 rfl ?_
      refine wp_istore (lv' := [(0, .ref 63), (1, .int (sr_b (md_kn w p s))), (2, .long 0), (4, .int (nI 0))]) dX7_sumsUp_86 (by decide) rfl ?_
      by_cases hkn : md_kn w p s = true
      · exact h88 0 (by omega) E202 ha hkn
      · refine wp_iload dX7_sumsUp_88 rfl ?_
        refine wp_aload_n dX7_sumsUp_90 rfl rfl ?_
        refine wp_callV (M2 := M_X7_races) (n := 0) (As := []) (st := [.int (nI 0)]) dX7_sumsUp_91 (c_X7_races_n g E202 r (by rw [ha.1.n64, e64]; exact hr)) ca_X7_58 ⟨nm_X7_races, by decide, by decide⟩ rfl (by decide) rfl rfl rfl (Nat.le_of_ble_eq_true rfl) (fun r204 E205 q206 => ?_)
        obtain ⟨rfl, rfl⟩ := q206
        show WP g _ _ _ (.int (nI r) :: _) _ _
        refine wp_icmp_ge_n (tgt := 127) dX7_sumsUp_94 (by decide) (by first | omega | (split <;> omega)) (by first | omega | (split <;> omega)) (fun c207 => ?_) (fun c207 => ?_)
        · have hq : (if md_kn w p s = true then md_sq (D.1 64) r else 0) = 0 := if_neg hkn
          have h := h127 E202 ha
          rw [hq] at h
          exact wp_pick [0, 2] rfl h
        · refine wp_iload_n dX7_sumsUp_97 rfl rfl ?_
          refine wp_if_eq_b (tgt := 127) dX7_sumsUp_98 (by decide) (fun c208 => ?_) (fun c208 => ?_)
          · have hq : (if md_kn w p s = true then md_sq (D.1 64) r else 0) = 0 := if_neg hkn
            have h := h127 E202 ha
            rw [hq] at h
            exact wp_pick [0, 2] rfl h
          · exact absurd c208 hkn
    have hL : ∀ i, i ≤ w → WP g M_X7_sumsUp 6 [(0, .ref 63), (1, .int (nI i))] [] (sr_rJ E 70 (md_tabT w i 0 (E.2 68) (E.2 69) (E.2 70))) (fun qa D' => qa = none ∧ sr_per D D' ∧ D'.1 65 = D.1 65 ∧ (∀ k, ¬ k = 16 → ¬ k = 18 → D'.1 63 k = D.1 63 k) ∧ D'.2 63 17 = md_b w p ∧ D'.2 63 19 = md_su n r (D.1 64)) := by
      refine sr_up (fun i hi ih => ?_)
      have h52 : i < w → WP g M_X7_sumsUp 52 [(0, .ref 63), (1, .int (nI i))] [] (sr_rJ E 70 (md_tabT w i w (E.2 68) (E.2 69) (E.2 70))) (fun qa D' => qa = none ∧ sr_per D D' ∧ D'.1 65 = D.1 65 ∧ (∀ k, ¬ k = 16 → ¬ k = 18 → D'.1 63 k = D.1 63 k) ∧ D'.2 63 17 = md_b w p ∧ D'.2 63 19 = md_su n r (D.1 64)) := by
        intro hiw
        refine wp_aload_n dX7_sumsUp_52 rfl rfl ?_
        refine wp_getR (r := 70) dX7_sumsUp_53 fl_X7_34 (by decide) rfl rfl rfl ?_
        refine wp_bipush (v := nI 8) dX7_sumsUp_56 rfl ?_
        refine wp_iload_n dX7_sumsUp_58 rfl rfl ?_
        refine wp_imul_n dX7_sumsUp_59 ?_
        refine wp_aload_n dX7_sumsUp_60 rfl rfl ?_
        refine wp_getI_n (n := w) dX7_sumsUp_61 fl_X7_146 (by decide) rfl rfl (hw) ?_
        refine wp_iadd_n dX7_sumsUp_64 ?_
        refine wp_aload_n dX7_sumsUp_65 rfl rfl ?_
        refine wp_getR (r := 69) dX7_sumsUp_66 fl_X7_31 (by decide) rfl rfl rfl ?_
        refine wp_iload_n dX7_sumsUp_69 rfl rfl ?_
        refine wp_lald dX7_sumsUp_70 (by decide) rfl (show _ < 7 by omega) (by first | omega | (split <;> omega)) ?_
        refine wp_last dX7_sumsUp_71 (by decide) rfl (show _ < 56 by omega) (by first | omega | (split <;> omega)) ?_
        refine wp_D (fun D209 eD209 => ?_)
        have k210 : D209.1 63 18 = nI w := by rw [eD209, sr_sJ_1]; exact hw
        refine wp_iinc_n (b := 1) (lv' := [(0, .ref 63), (1, .int (nI (i + 1)))]) dX7_sumsUp_72 rfl rfl (by decide) rfl ?_
        refine wp_goto (tgt := 6) dX7_sumsUp_75 (by decide) ?_
        have h := ih (by omega)
        rw [← md_tabT_i hw7] at h
        subst eD209
        rw [sr_sJ_r, sr_rJ_rJ, sr_rJ_2, if_pos rfl]
        exact h
      have hI : i < w → ∀ j, j ≤ w → WP g M_X7_sumsUp 16 [(0, .ref 63), (1, .int (nI i)), (2, .int (nI j))] [] (sr_rJ E 70 (md_tabT w i j (E.2 68) (E.2 69) (E.2 70))) (fun qa D' => qa = none ∧ sr_per D D' ∧ D'.1 65 = D.1 65 ∧ (∀ k, ¬ k = 16 → ¬ k = 18 → D'.1 63 k = D.1 63 k) ∧ D'.2 63 17 = md_b w p ∧ D'.2 63 19 = md_su n r (D.1 64)) := by
        intro hiw
        refine sr_up (fun j hj ihj => ?_)
        refine wp_iload_n dX7_sumsUp_16 rfl rfl ?_
        refine wp_aload_n dX7_sumsUp_17 rfl rfl ?_
        refine wp_getI_n (n := w) dX7_sumsUp_18 fl_X7_146 (by decide) rfl rfl (hw) ?_
        refine wp_icmp_ge_n (tgt := 52) dX7_sumsUp_21 (by decide) (by first | omega | (split <;> omega)) (by first | omega | (split <;> omega)) (fun c211 => ?_) (fun c211 => ?_)
        · have hjw : j = w := by omega
          subst hjw
          exact wp_pick [0, 1] rfl (h52 hiw)
        · refine wp_aload_n dX7_sumsUp_24 rfl rfl ?_
          refine wp_getR (r := 70) dX7_sumsUp_25 fl_X7_34 (by decide) rfl rfl rfl ?_
          refine wp_bipush (v := nI 8) dX7_sumsUp_28 rfl ?_
          refine wp_iload_n dX7_sumsUp_30 rfl rfl ?_
          refine wp_imul_n dX7_sumsUp_31 ?_
          refine wp_iload_n dX7_sumsUp_32 rfl rfl ?_
          refine wp_iadd_n dX7_sumsUp_33 ?_
          refine wp_aload_n dX7_sumsUp_34 rfl rfl ?_
          refine wp_getR (r := 68) dX7_sumsUp_35 fl_X7_27 (by decide) rfl rfl rfl ?_
          refine wp_bipush (v := nI 7) dX7_sumsUp_38 rfl ?_
          refine wp_iload_n dX7_sumsUp_40 rfl rfl ?_
          refine wp_imul_n dX7_sumsUp_41 ?_
          refine wp_iload_n dX7_sumsUp_42 rfl rfl ?_
          refine wp_iadd_n dX7_sumsUp_43 ?_
          refine wp_lald dX7_sumsUp_44 (by decide) rfl (show _ < 49 by omega) (by first | omega | (split <;> omega)) ?_
          refine wp_last dX7_sumsUp_45 (by decide) rfl (show _ < 56 by omega) (by first | omega | (split <;> omega)) ?_
          refine wp_D (fun D212 eD212 => ?_)
          have k213 : D212.1 63 18 = nI w := by rw [eD212, sr_sJ_1]; exact hw
          refine wp_iinc_n (b := 1) (lv' := [(0, .ref 63), (1, .int (nI i)), (2, .int (nI (j + 1)))]) dX7_sumsUp_46 rfl rfl (by decide) rfl ?_
          refine wp_goto (tgt := 16) dX7_sumsUp_49 (by decide) ?_
          have h := ihj (by omega)
          rw [← md_tabT_j hw7 (by omega)] at h
          subst eD212
          rw [sr_sJ_r, sr_rJ_rJ, sr_rJ_2, if_pos rfl]
          exact h
      refine wp_iload_n dX7_sumsUp_6 rfl rfl ?_
      refine wp_aload_n dX7_sumsUp_7 rfl rfl ?_
      refine wp_getI_n (n := w) dX7_sumsUp_8 fl_X7_146 (by decide) rfl rfl (hw) ?_
      refine wp_icmp_ge_n (tgt := 78) dX7_sumsUp_11 (by decide) (by first | omega | (split <;> omega)) (by first | omega | (split <;> omega)) (fun c214 => ?_) (fun c214 => ?_)
      · have hiw : i = w := by omega
        subst hiw
        exact wp_pick [0] rfl h78
      · refine wp_iconst (v := nI 0) dX7_sumsUp_14 rfl ?_
        refine wp_istore_n (lv' := [(0, .ref 63), (1, .int (nI i)), (2, .int (nI 0))]) dX7_sumsUp_15 rfl (by decide) rfl ?_
        exact hI (by omega) 0 (by omega)
    refine wp_iconst (v := nI 0) dX7_sumsUp_4 rfl ?_
    refine wp_istore_n (lv' := [(0, .ref 63), (1, .int (nI 0))]) dX7_sumsUp_5 rfl (by decide) rfl ?_
    have h := hL 0 (by omega)
    rw [md_tabT_0, sr_rJ_self] at h
    exact h
  refine wp_aload_n dX7_sumsUp_0 rfl rfl ?_
  refine wp_callV (M2 := M_X7_lays) (n := 0) (As := []) (st := []) dX7_sumsUp_1 (c_X7_lays g D n r hlo) ca_X7_183 ⟨nm_X7_lays, by decide, by decide⟩ rfl (by decide) rfl rfl rfl (Nat.le_of_ble_eq_true rfl) (fun r215 E216 q217 => ?_)
  rw [hPe, hSe] at q217
  obtain ⟨rfl, p1, l1, x1, y1, z1⟩ := q217
  show WP g _ _ _ _ _ _
  exact hM E216 p1 l1 x1 y1
set_option maxHeartbeats 4000000 in
set_option maxRecDepth 100000 in
theorem c_X7_sum (g : sr_G) (D : sr_St) (n r : Nat) (hlo : sr_logOk (D.1 64) n r) (hgood : md_good (n + 1) (md_P (D.1 64) n r)) (u : Int32) (hbnd : -(2 ^ 63 : Int) < (md_su n r (D.1 64)).toInt) : Con g M_X7_sum [.ref 63, .int u] D (fun qa D' => qa = some (.long (sr_told (md_su n r (D.1 64)) (md_b (n + 1) (md_P (D.1 64) n r)) u)) ∧ sr_per D D') := by
  refine Con.of pn_X7_sum (Nat.le_of_ble_eq_true rfl) ?_
  have hn := hlo.1.1
  have hn6 := hlo.1.2.1
  have hr := hlo.1.2.2.1
  have hr12 := hlo.1.2.2.2
  refine wp_aload_n dX7_sum_0 rfl rfl ?_
  refine wp_iconst (v := nI 0) dX7_sum_1 rfl ?_
  refine wp_putI dX7_sum_2 fl_X7_43 (by decide) rfl rfl ?_
  refine wp_D (fun D218 eD218 => ?_)
  have p219 : sr_per D D218 := by rw [eD218]; exact sr_per_th
  refine wp_aload_n dX7_sum_5 rfl rfl ?_
  refine wp_callV (M2 := M_X7_sumsUp) (n := 0) (As := []) (st := []) dX7_sum_6 (c_X7_sumsUp g D218 n r (by rw [((sr_per.rf).tr p219).n64]; exact hlo) (by rw [((sr_per.rf).tr p219).n64]; exact hgood)) ca_X7_209 ⟨nm_X7_sumsUp, by decide, by decide⟩ rfl (by decide) rfl rfl rfl (Nat.le_of_ble_eq_true rfl) (fun r220 E221 q222 => ?_)
  rw [((sr_per.rf).tr p219).n64] at q222
  obtain ⟨rfl, p223, x1, y1, by224, j225⟩ := q222
  show WP g _ _ _ _ _ _
  refine wp_aload_n dX7_sum_9 rfl rfl ?_
  refine wp_getJ dX7_sum_10 fl_X7_206 (by decide) rfl rfl ?_
  rw [j225]
  refine wp_aload_n dX7_sum_13 rfl rfl ?_
  refine wp_getJ dX7_sum_14 fl_X7_159 (by decide) rfl rfl ?_
  rw [by224]
  refine wp_iload_n dX7_sum_17 rfl rfl ?_
  refine wp_callS (M2 := M_X7_told_) (n := 3) (As := [.long (md_su n r (D.1 64)), .long (md_b (n + 1) (md_P (D.1 64) n r)), .int u]) (st := []) dX7_sum_18 (c_X7_told_ g E221 (md_su n r (D.1 64)) (md_b (n + 1) (md_P (D.1 64) n r)) u (hbnd) (sr_gpos (hgood _)) (sr_gne (hgood _))) ca_X7_196 ⟨nm_X7_told_, by decide, by decide⟩ rfl rfl (Nat.le_of_ble_eq_true rfl) (fun r226 E227 q228 => ?_)
  obtain ⟨rfl, rfl⟩ := q228
  show WP g _ _ _ (.long (sr_told (md_su n r (D.1 64)) (md_b (n + 1) (md_P (D.1 64) n r)) u) :: _) _ _
  exact wp_lret dX7_sum_21 rfl ⟨rfl, ((sr_per.rf).tr p219).tr p223⟩
