/-! ===== Strings: constants of the machine ===== -/
section WS
variable {g : sr_G} {M : sr_Md} {pc : Nat} {lv lv' : List (Nat × Value)} {st : List Value} {D : sr_St} {Q : Option Value → sr_St → Prop}
theorem wp_ldcS {i idx : Nat} (hd : decode M.2.1 pc = .ok (.ldc idx, 2)) (hi : i < 8) (ho : M.1.cls = st_O.getD i "") (hx : st_I.getD i 0 = idx) (k : WP g M (pc + 2) lv (.ref (74 + i) :: st) D Q) : WP g M pc lv st D Q := by
  intro p e s m args below meth c H locs ls C hP hS hl
  subst hx
  have hz := C.2.2.2.2.2.2.2.2.2.2.1 i hi
  rw [← ho] at hz
  exact va_ldcS C.1 C.2.1 (own := M.1.cls) C.2.2.2.2.1 hz hd (k p e s m args below meth c H locs ls C hP hS hl)
theorem wp_sval {i : Nat} (hd : decode M.2.1 pc = .ok (.getfield 9, 3)) (hc : M.1.cls = RJ0) (hi : i < 8) (k : WP g M (pc + 3) lv (.ref (82 + i) :: st) D Q) : WP g M pc lv (.ref (74 + i) :: st) D Q := by
  intro p e s m args below meth c H locs ls C hP hS hl
  have hw : Cond.fieldLink M.1.cls 9 RJ0 "value" "[B" ∈ sr_ws := by rw [hc]; exact (sr_mt5 (List.mem_of_getElem? (i := 123) rfl) rfl)
  exact vk_getf C.1 C.2.1 (C.2.2.2.2.2.2.2.2.2.1.1 i hi).2.2.1 hS C.2.2.2.2.1 (C.2.2.2.2.2.2.1 _ hw) (fun x h => h) hd (k p e s m args below meth c H locs ls C hP hS hl)
theorem wp_scod {i : Nat} (hd : decode M.2.1 pc = .ok (.getfield 15, 3)) (hc : M.1.cls = RJ0) (hi : i < 8) (k : WP g M (pc + 3) lv (.int 0 :: st) D Q) : WP g M pc lv (.ref (74 + i) :: st) D Q := by
  intro p e s m args below meth c H locs ls C hP hS hl
  have hw : Cond.fieldLink M.1.cls 15 RJ0 "coder" "B" ∈ sr_ws := by rw [hc]; exact (sr_mt5 (List.mem_of_getElem? (i := 124) rfl) rfl)
  exact vk_getf C.1 C.2.1 (C.2.2.2.2.2.2.2.2.2.1.1 i hi).2.1 hS C.2.2.2.2.1 (C.2.2.2.2.2.2.1 _ hw) (fun x h => h) hd (k p e s m args below meth c H locs ls C hP hS hl)
theorem wp_sarl {i : Nat} (hd : decode M.2.1 pc = .ok (.arraylength, 1)) (hi : i < 8) (k : WP g M (pc + 1) lv (.int (nI (st_L.getD i 0)) :: st) D Q) : WP g M pc lv (.ref (82 + i) :: st) D Q := by
  intro p e s m args below meth c H locs ls C hP hS hl
  exact va_tlen C.1 C.2.1 (C.2.2.2.2.2.2.2.2.2.1.1 i hi).2.2.2 hS rfl hd (k p e s m args below meth c H locs ls C hP hS hl)
theorem wp_sbal {i n : Nat} (hd : decode M.2.1 pc = .ok (.baload, 1)) (hi : i < 8) (hn : n < st_L.getD i 0) (hb : n < 2 ^ 31) (k : WP g M (pc + 1) lv (.int ((st_B.getD i []).getD n 0) :: st) D Q) : WP g M pc lv (.int (nI n) :: .ref (82 + i) :: st) D Q := by
  intro p e s m args below meth c H locs ls C hP hS hl
  refine va_tb C.1 C.2.1 (C.2.2.2.2.2.2.2.2.2.1.1 i hi).2.2.2 hS (i := nI n) ?_ (v := .int ((st_B.getD i []).getD n 0)) ?_ hd (k p e s m args below meth c H locs ls C hP hS hl)
  · unfold vp_in
    rw [nI_clamp hb]
    exact fun q => q.elim (nI_pos hb) (fun q => absurd hn (Nat.not_lt.mpr q))
  · show Value.int _ = _
    rw [nI_clamp hb]
theorem wp_comp (hd : decode M.2.1 pc = .ok (.getstatic 38, 3)) (hc : M.1.cls = RJ0) (k : WP g M (pc + 3) lv (.int 1 :: st) D Q) : WP g M pc lv st D Q := by
  intro p e s m args below meth c H locs ls C hP hS hl
  have hw : Cond.fieldLink M.1.cls 38 RJ0 "COMPACT_STRINGS" "Z" ∈ sr_ws := by rw [hc]; exact (sr_mt2 (List.mem_of_getElem? (i := 45) rfl) rfl)
  exact va_gets C.1 C.2.1 C.2.2.2.2.2.2.2.2.2.2.2.1 hS C.2.2.2.2.1 (C.2.2.2.2.2.2.1 _ hw) (fun x h => h) hd (k p e s m args below meth c H locs ls C hP hS hl)
theorem wp_siob (hd : decode M.2.1 pc = .ok (.getstatic 1053, 3)) (hc : M.1.cls = RJ0) (k : ∀ v : Value, v.category = 1 → WP g M (pc + 3) lv (v :: st) D Q) : WP g M pc lv st D Q := by
  intro p e s m args below meth c H locs ls C hP hS hl
  have hw : Cond.fieldLink M.1.cls 1053 RJ3 "SIOOBE_FORMATTER" sr_SF ∈ sr_ws := by rw [hc]; exact (sr_mt2 (List.mem_of_getElem? (i := 61) rfl) rfl)
  rcases C.2.2.2.2.2.2.2.2.2.2.2.2 with z | z
  · exact va_gets C.1 C.2.1 z hS C.2.2.2.2.1 (C.2.2.2.2.2.2.1 _ hw) (fun x h => h) hd (k .null rfl p e s m args below meth c H locs ls C hP hS hl)
  · exact va_gets C.1 C.2.1 z hS C.2.2.2.2.1 (C.2.2.2.2.2.2.1 _ hw) (fun x h => h) hd (k (.ref 90) rfl p e s m args below meth c H locs ls C hP hS hl)
theorem wp_i2c {x v : Int32} (hd : decode M.2.1 pc = .ok (.i2c, 1)) (hv : (x.toUInt32 % 65536).toInt32 = v) (k : WP g M (pc + 1) lv (.int v :: st) D Q) : WP g M pc lv (.int x :: st) D Q := by
  intro p e s m args below meth c H locs ls C hP hS hl
  exact lv_i2c C.1 C.2.1 hd hv (k p e s m args below meth c H locs ls C hP hS hl)
theorem wp_nret {v : Int32} {ty : FieldType} (hd : decode M.2.1 pc = .ok (.ireturn, 1)) (hr : M.2.2.2.1 = some ty) (ht : ty = .byte ∨ ty = .char) (hv : narrow ty (.int v) = .int v) (hq : Q (some (.int v)) D) : WP g M pc lv [.int v] D Q := by
  intro p e s m args below meth c H locs ls C hP hS hl
  have hlocks := C.2.2.2.2.2.1
  rcases ht with rfl | rfl
  · exact W.zret (v := v) (ty := .byte) C.1 C.2.1 (C.2.2.1.trans hr) hv (fun t ht hW => ⟨⟨some (.int v), D, rfl, hq, by rw [ht]; exact hP, va_K.moved hW.alike C.2.2.2.2.2.2.2.1⟩, hS.F ht⟩) hS.2.2 hd
  · exact W.zret (v := v) (ty := .char) C.1 C.2.1 (C.2.2.1.trans hr) hv (fun t ht hW => ⟨⟨some (.int v), D, rfl, hq, by rw [ht]; exact hP, va_K.moved hW.alike C.2.2.2.2.2.2.2.1⟩, hS.F ht⟩) hS.2.2 hd
/-- a String's own method -/
theorem wp_callT {M2 : sr_Md} {idx n i : Nat} {As st0 : List Value} {Q' : Option Value → sr_St → Prop} (hd : decode M.2.1 pc = .ok (.invokevirtual idx, 3)) (hM : Con g M2 (.ref (74 + i) :: As) D Q') (hw : sr_CV M.1.cls idx M2) (hf : sr_fit M M2 n) (hn : As.length = n) (hi : i < 8) (hc : M2.1.cls = RJ0) (h0 : st0 = As.reverse ++ .ref (74 + i) :: st) (hW : (st.map fun v => v.category).sum ≤ 8)
    (kk : ∀ (r : Option Value) (D' : sr_St), Q' r D' → WP g M (pc + 3) lv (r.toList ++ st) D' Q) : WP g M pc lv st0 D Q := by
  intro p e s m args below meth c H locs ls C hP hS hl
  subst h0
  have hrec := vk_recv C.2.2.2.2.2.2.2.2.2.1 hi hS
  have hc' : ("java/lang/String" : String) = M2.1.cls := hc.symm
  rw [hc'] at hrec
  have hts := C.2.2.2.2.2.2.1
  refine sr_call (va_runV (As := As.map (sr_cv g.2.2.2.1)) (rest := st.map (sr_cv g.2.2.2.1)) (n := n) ⟨C.1, C.2.1, C.2.2.2.1, C.2.2.2.2.1, hts⟩ hM ⟨sr_callB hts hw.1 hf.1 hf.2, hts _ hw.2.1, hts _ hw.2.2⟩ ⟨sr_blind, hrec, fun U hU hW => ⟨rfl, by rw [hU]; exact hP, va_K.moved hW.alike C.2.2.2.2.2.2.2.1, sr_J.to hS hU hW C.2.2.2.2.2.2.2.2⟩⟩ rfl (by rw [List.length_map]; exact hn) hl.1 ?_ ?_ hd ⟨Nat.zero_le _, Nat.zero_le _⟩) hS (fun r D' H1 locs1 hQ hP1 hS1 => ?_)
  · exact (sr_mapapp (st := .ref (74 + i) :: st)).trans rfl
  · rw [sr_catsum]; simpa [JFrame.monitorRoom] using hW
  · have h := kk r D' hQ p e s m args below meth c H1 locs1 ls C hP1 hS1 hl
    rw [List.map_append] at h
    cases r <;> exact h
end WS
set_option maxHeartbeats 400000 in
set_option maxRecDepth 100000 in
theorem c_J0_coder (g : sr_G) (D : sr_St) {i : Nat} (hi : i < 8) : Con g M_J0_coder_7d493 [.ref (74 + i)] D (sr_ret (some (.int 0)) D) := by
  refine Con.of pn_J0_coder_7d493 (Nat.le_of_ble_eq_true rfl) ?_
  show WP g M_J0_coder_7d493 0 [(0, .ref (74 + i))] [] D _
  refine wp_comp dJ0_coder_7d493_0 rfl ?_
  refine wp_if_eq (tgt := 13) dJ0_coder_7d493_3 (by decide) (fun z => absurd z (by decide)) (fun _ => ?_)
  refine wp_aload_n dJ0_coder_7d493_6 rfl rfl ?_
  refine wp_scod dJ0_coder_7d493_7 rfl hi ?_
  refine wp_goto (tgt := 14) dJ0_coder_7d493_10 (by decide) ?_
  exact wp_nret dJ0_coder_7d493_14 rfl (Or.inl rfl) rfl ⟨rfl, rfl⟩
set_option maxHeartbeats 400000 in
set_option maxRecDepth 100000 in
theorem c_J0_isLatin1 (g : sr_G) (D : sr_St) {i : Nat} (hi : i < 8) : Con g M_J0_isLatin1_aae02 [.ref (74 + i)] D (sr_ret (some (.int 1)) D) := by
  refine Con.of pn_J0_isLatin1_aae02 (Nat.le_of_ble_eq_true rfl) ?_
  show WP g M_J0_isLatin1_aae02 0 [(0, .ref (74 + i))] [] D _
  refine wp_comp dJ0_isLatin1_aae02_0 rfl ?_
  refine wp_if_eq (tgt := 17) dJ0_isLatin1_aae02_3 (by decide) (fun z => absurd z (by decide)) (fun _ => ?_)
  refine wp_aload_n dJ0_isLatin1_aae02_6 rfl rfl ?_
  refine wp_scod dJ0_isLatin1_aae02_7 rfl hi ?_
  refine wp_if_ne (tgt := 17) dJ0_isLatin1_aae02_10 (by decide) (fun z => absurd rfl z) (fun _ => ?_)
  refine wp_iconst (v := 1) dJ0_isLatin1_aae02_13 rfl ?_
  refine wp_goto (tgt := 18) dJ0_isLatin1_aae02_14 (by decide) ?_
  exact wp_zret dJ0_isLatin1_aae02_18 rfl (Or.inr rfl) ⟨rfl, rfl⟩
set_option maxHeartbeats 400000 in
set_option maxRecDepth 100000 in
theorem c_J0_length (g : sr_G) (D : sr_St) {i : Nat} (hi : i < 8) : Con g M_J0_length_8abf5 [.ref (74 + i)] D (sr_ret (some (.int (nI (st_L.getD i 0)))) D) := by
  refine Con.of pn_J0_length_8abf5 (Nat.le_of_ble_eq_true rfl) ?_
  show WP g M_J0_length_8abf5 0 [(0, .ref (74 + i))] [] D _
  refine wp_aload_n dJ0_length_8abf5_0 rfl rfl ?_
  refine wp_sval dJ0_length_8abf5_1 rfl hi ?_
  refine wp_sarl dJ0_length_8abf5_4 hi ?_
  refine wp_aload_n dJ0_length_8abf5_5 rfl rfl ?_
  refine wp_callT (M2 := M_J0_coder_7d493) (n := 0) (As := []) (st := [.int (nI (st_L.getD i 0))]) dJ0_length_8abf5_6 (c_J0_coder g D hi) ca_J0_335 ⟨nm_J0_coder_7d493, by decide, by decide⟩ rfl hi rfl rfl (Nat.le_of_ble_eq_true rfl) (fun r E q => ?_)
  obtain ⟨rfl, rfl⟩ := q
  show WP g _ _ _ (.int 0 :: _) _ _
  refine wp_ishr dJ0_length_8abf5_9 ?_
  have e : nI (st_L.getD i 0) >>> ((0 : Int32) &&& 31) = nI (st_L.getD i 0) := by
    have : ∀ i, i < 8 → nI (st_L.getD i 0) >>> ((0 : Int32) &&& 31) = nI (st_L.getD i 0) := by decide +kernel
    exact this i hi
  rw [e]
  exact wp_iret dJ0_length_8abf5_10 rfl ⟨rfl, rfl⟩
set_option maxHeartbeats 400000 in
set_option maxRecDepth 100000 in
theorem c_J3_checkIndex (g : sr_G) (D : sr_St) {k n : Nat} {v : Value} (hv : v.category = 1) (hk : k < n) (hn : n < 2 ^ 31) : Con g M_J3_checkIndex_8e157 [.int (nI k), .int (nI n), v] D (sr_ret (some (.int (nI k))) D) := by
  have hc : ∀ av : Value, av.category = 1 → (lg_sl ([Value.int (nI k), .int (nI n), av].map (sr_cv g.2.2.2.1))).length ≤ 3 := by
    intro av h
    cases av <;> first | exact Nat.le_of_ble_eq_true rfl | (exact absurd h (show ¬ (2 : Nat) = 1 by decide))
  refine Con.of pn_J3_checkIndex_8e157 (hc v hv) ?_
  have e : lv_args 0 [Value.int (nI k), .int (nI n), v] = [(0, .int (nI k)), (1, .int (nI n)), (2, v)] := rfl
  rw [e]
  refine wp_iload_n dJ3_checkIndex_8e157_0 rfl rfl ?_
  refine wp_if_lt (tgt := 9) dJ3_checkIndex_8e157_1 (by decide) (fun z => absurd z (nI_pos (by omega))) (fun _ => ?_)
  refine wp_iload_n dJ3_checkIndex_8e157_4 rfl rfl ?_
  refine wp_iload_n dJ3_checkIndex_8e157_5 rfl rfl ?_
  refine wp_icmp_lt_n (tgt := 16) dJ3_checkIndex_8e157_6 (by decide) (by omega) hn (fun _ => ?_) (fun z => absurd hk (by omega))
  refine wp_iload_n dJ3_checkIndex_8e157_16 rfl rfl ?_
  exact wp_iret dJ3_checkIndex_8e157_17 rfl ⟨rfl, rfl⟩
set_option maxHeartbeats 400000 in
set_option maxRecDepth 100000 in
theorem c_J0_checkIndex (g : sr_G) (D : sr_St) {k n : Nat} (hk : k < n) (hn : n < 2 ^ 31) : Con g M_J0_checkIndex_df160 [.int (nI k), .int (nI n)] D (sr_ret none D) := by
  refine Con.of pn_J0_checkIndex_df160 (Nat.le_of_ble_eq_true rfl) ?_
  show WP g M_J0_checkIndex_df160 0 [(0, .int (nI k)), (1, .int (nI n))] [] D _
  refine wp_iload_n dJ0_checkIndex_df160_0 rfl rfl ?_
  refine wp_iload_n dJ0_checkIndex_df160_1 rfl rfl ?_
  refine wp_siob dJ0_checkIndex_df160_2 rfl (fun v hv => ?_)
  refine wp_callS (M2 := M_J3_checkIndex_8e157) (n := 3) (As := [.int (nI k), .int (nI n), v]) (st := []) dJ0_checkIndex_df160_5 (c_J3_checkIndex g D hv hk hn) ca_J0_1059 ⟨nm_J3_checkIndex_8e157, by decide, by decide⟩ rfl rfl (Nat.le_of_ble_eq_true rfl) (fun r E q => ?_)
  obtain ⟨rfl, rfl⟩ := q
  show WP g _ _ _ (.int (nI k) :: _) _ _
  refine wp_pop dJ0_checkIndex_df160_8 rfl ?_
  exact wp_vret dJ0_checkIndex_df160_9 rfl ⟨rfl, rfl⟩
/-- a char of a constant -/
def st_c (i k : Nat) : Int32 := (st_B.getD i []).getD k 0
theorem st_c_ok : ∀ i, i < 8 → ∀ k, k < st_L.getD i 0 → ((st_c i k &&& 255).toUInt32 % 65536).toInt32 = st_c i k ∧ narrow .char (.int (st_c i k)) = .int (st_c i k) := by decide +kernel
theorem st_L_lt : ∀ i, i < 8 → st_L.getD i 0 < 100 := by decide +kernel
set_option maxHeartbeats 400000 in
set_option maxRecDepth 100000 in
theorem c_J1_charAt (g : sr_G) (D : sr_St) {i k : Nat} (hi : i < 8) (hk : k < st_L.getD i 0) : Con g M_J1_charAt_3b067 [.ref (82 + i), .int (nI k)] D (sr_ret (some (.int (st_c i k))) D) := by
  have hl := st_L_lt i hi
  refine Con.of pn_J1_charAt_3b067 (Nat.le_of_ble_eq_true rfl) ?_
  show WP g M_J1_charAt_3b067 0 [(0, .ref (82 + i)), (1, .int (nI k))] [] D _
  refine wp_iload_n dJ1_charAt_3b067_0 rfl rfl ?_
  refine wp_aload_n dJ1_charAt_3b067_1 rfl rfl ?_
  refine wp_sarl dJ1_charAt_3b067_2 hi ?_
  refine wp_callS (M2 := M_J0_checkIndex_df160) (n := 2) (As := [.int (nI k), .int (nI (st_L.getD i 0))]) (st := []) dJ1_charAt_3b067_3 (c_J0_checkIndex g D hk (by omega)) ca_J1_9 ⟨nm_J0_checkIndex_df160, by decide, by decide⟩ rfl rfl (Nat.le_of_ble_eq_true rfl) (fun r E q => ?_)
  obtain ⟨rfl, rfl⟩ := q
  show WP g _ _ _ [] _ _
  refine wp_aload_n dJ1_charAt_3b067_6 rfl rfl ?_
  refine wp_iload_n dJ1_charAt_3b067_7 rfl rfl ?_
  refine wp_sbal dJ1_charAt_3b067_8 hi hk (by omega) ?_
  refine wp_sipush (v := 255) dJ1_charAt_3b067_9 (by decide) ?_
  refine wp_iand dJ1_charAt_3b067_12 ?_
  refine wp_i2c (v := st_c i k) dJ1_charAt_3b067_13 (st_c_ok i hi k hk).1 ?_
  exact wp_nret dJ1_charAt_3b067_14 rfl (Or.inr rfl) (st_c_ok i hi k hk).2 ⟨rfl, rfl⟩
set_option maxHeartbeats 400000 in
set_option maxRecDepth 100000 in
theorem c_J0_charAt (g : sr_G) (D : sr_St) {i k : Nat} (hi : i < 8) (hk : k < st_L.getD i 0) : Con g M_J0_charAt_5068e [.ref (74 + i), .int (nI k)] D (sr_ret (some (.int (st_c i k))) D) := by
  refine Con.of pn_J0_charAt_5068e (Nat.le_of_ble_eq_true rfl) ?_
  show WP g M_J0_charAt_5068e 0 [(0, .ref (74 + i)), (1, .int (nI k))] [] D _
  refine wp_aload_n dJ0_charAt_5068e_0 rfl rfl ?_
  refine wp_callT (M2 := M_J0_isLatin1_aae02) (n := 0) (As := []) (st := []) dJ0_charAt_5068e_1 (c_J0_isLatin1 g D hi) ca_J0_492 ⟨nm_J0_isLatin1_aae02, by decide, by decide⟩ rfl hi rfl rfl (Nat.le_of_ble_eq_true rfl) (fun r E q => ?_)
  obtain ⟨rfl, rfl⟩ := q
  show WP g _ _ _ (.int 1 :: _) _ _
  refine wp_if_eq (tgt := 16) dJ0_charAt_5068e_4 (by decide) (fun z => absurd z (by decide)) (fun _ => ?_)
  refine wp_aload_n dJ0_charAt_5068e_7 rfl rfl ?_
  refine wp_sval dJ0_charAt_5068e_8 rfl hi ?_
  refine wp_iload_n dJ0_charAt_5068e_11 rfl rfl ?_
  refine wp_callS (M2 := M_J1_charAt_3b067) (n := 2) (As := [.ref (82 + i), .int (nI k)]) (st := []) dJ0_charAt_5068e_12 (c_J1_charAt g D hi hk) ca_J0_495 ⟨nm_J1_charAt_3b067, by decide, by decide⟩ rfl rfl (Nat.le_of_ble_eq_true rfl) (fun r E q => ?_)
  obtain ⟨rfl, rfl⟩ := q
  show WP g _ _ _ (.int (st_c i k) :: _) _ _
  exact wp_nret dJ0_charAt_5068e_15 rfl (Or.inr rfl) (st_c_ok i hi k hk).2 ⟨rfl, rfl⟩
/-- is it the word? -/
def st_is (b : Nat → Int32) (p e i : Nat) : Bool := decide (e - p = st_L.getD i 0) && (List.range (st_L.getD i 0)).all (fun k => decide (b (p + k) = st_c i k))
set_option maxHeartbeats 400000 in
set_option maxRecDepth 100000 in
theorem c_X4_isWord (g : sr_G) (D : sr_St) (L k p : Nat) (v : Int32) (e : Nat) (hL : D.1 7 0 = nI L) (h300 : L ≤ 300) (hpe : p ≤ e) (heL : e ≤ L) {i : Nat} (hi : i < 8) : Con g M_X4_isWord [.ref 7, .ref (74 + i)] (sr_R D k p v e) (sr_ret (some (.int (sr_b (st_is (D.1 8) p e i)))) (sr_R D k p v e)) := by
  have hll := st_L_lt i hi
  refine Con.of pn_X4_isWord (Nat.le_of_ble_eq_true rfl) ?_
  show WP g M_X4_isWord 0 [(0, .ref 7), (1, .ref (74 + i))] [] (sr_R D k p v e) _
  refine wp_aload_n dX4_isWord_0 rfl rfl ?_
  refine wp_getI_n (n := e) dX4_isWord_1 fl_X4_24 (by decide) rfl rfl (sr_R_4) ?_
  refine wp_aload_n dX4_isWord_4 rfl rfl ?_
  refine wp_getI_n (n := p) dX4_isWord_5 fl_X4_18 (by decide) rfl rfl (sr_R_2) ?_
  refine wp_isub_n dX4_isWord_8 hpe ?_
  refine wp_aload_n dX4_isWord_9 rfl rfl ?_
  refine wp_callT (M2 := M_J0_length_8abf5) (n := 0) (As := []) (st := [.int (nI (e - p))]) dX4_isWord_10 (c_J0_length g _ hi) ca_X4_60 ⟨nm_J0_length_8abf5, by decide, by decide⟩ rfl hi rfl rfl (Nat.le_of_ble_eq_true rfl) (fun r E q => ?_)
  obtain ⟨rfl, rfl⟩ := q
  show WP g _ _ _ (.int (nI (st_L.getD i 0)) :: _) _ _
  refine wp_icmp_eq_n (tgt := 18) dX4_isWord_13 (by decide) (by omega) (by omega) (fun heq => ?_) (fun hne => ?_)
  · have hall : ∀ d j, j + d = st_L.getD i 0 → ((List.range j).all (fun k => decide (D.1 8 (p + k) = st_c i k)) = true) → WP g M_X4_isWord 20 [(0, .ref 7), (1, .ref (74 + i)), (2, .int (nI j))] [] (sr_R D k p v e) (sr_ret (some (.int (sr_b (st_is (D.1 8) p e i)))) (sr_R D k p v e)) := by
      intro d
      induction d with
      | zero =>
        intro j hj ha
        refine wp_iload_n dX4_isWord_20 rfl rfl ?_
        refine wp_aload_n dX4_isWord_21 rfl rfl ?_
        refine wp_callT (M2 := M_J0_length_8abf5) (n := 0) (As := []) (st := [.int (nI j)]) dX4_isWord_22 (c_J0_length g _ hi) ca_X4_60 ⟨nm_J0_length_8abf5, by decide, by decide⟩ rfl hi rfl rfl (Nat.le_of_ble_eq_true rfl) (fun r E q => ?_)
        obtain ⟨rfl, rfl⟩ := q
        show WP g _ _ _ (.int (nI (st_L.getD i 0)) :: _) _ _
        refine wp_icmp_ge_n (tgt := 55) dX4_isWord_25 (by decide) (by omega) (by omega) (fun _ => ?_) (fun z => absurd z (by omega))
        refine wp_iconst (v := nI 1) dX4_isWord_55 rfl ?_
        refine wp_zret dX4_isWord_56 rfl (Or.inr rfl) ⟨sr_bt ?_, rfl⟩
        have ej : j = st_L.getD i 0 := by omega
        rw [ej] at ha
        unfold st_is
        rw [decide_eq_true heq, ha]; rfl
      | succ d ih =>
        intro j hj ha
        refine wp_iload_n dX4_isWord_20 rfl rfl ?_
        refine wp_aload_n dX4_isWord_21 rfl rfl ?_
        refine wp_callT (M2 := M_J0_length_8abf5) (n := 0) (As := []) (st := [.int (nI j)]) dX4_isWord_22 (c_J0_length g _ hi) ca_X4_60 ⟨nm_J0_length_8abf5, by decide, by decide⟩ rfl hi rfl rfl (Nat.le_of_ble_eq_true rfl) (fun r E q => ?_)
        obtain ⟨rfl, rfl⟩ := q
        show WP g _ _ _ (.int (nI (st_L.getD i 0)) :: _) _ _
        refine wp_icmp_ge_n (tgt := 55) dX4_isWord_25 (by decide) (by omega) (by omega) (fun z => absurd z (by omega)) (fun _ => ?_)
        refine wp_aload_n dX4_isWord_28 rfl rfl ?_
        refine wp_getR (r := 8) dX4_isWord_29 fl_X4_27 (by decide) rfl rfl rfl ?_
        refine wp_aload_n dX4_isWord_32 rfl rfl ?_
        refine wp_getI_n (n := p) dX4_isWord_33 fl_X4_18 (by decide) rfl rfl (sr_R_2) ?_
        refine wp_iload_n dX4_isWord_36 rfl rfl ?_
        refine wp_iadd_n dX4_isWord_37 ?_
        refine wp_bald dX4_isWord_38 (by decide) rfl (show _ < 300 by omega) (by omega) ?_
        rw [sr_R_8]
        refine wp_aload_n dX4_isWord_39 rfl rfl ?_
        refine wp_iload_n dX4_isWord_40 rfl rfl ?_
        refine wp_callT (M2 := M_J0_charAt_5068e) (n := 1) (As := [.int (nI j)]) (st := [.int (D.1 8 (p + j))]) dX4_isWord_41 (c_J0_charAt g _ hi (show j < st_L.getD i 0 by omega)) ca_X4_65 ⟨nm_J0_charAt_5068e, by decide, by decide⟩ rfl hi rfl rfl (Nat.le_of_ble_eq_true rfl) (fun r E q => ?_)
        obtain ⟨rfl, rfl⟩ := q
        show WP g _ _ _ (.int (st_c i j) :: _) _ _
        refine wp_icmp_eq (tgt := 49) dX4_isWord_44 (by decide) (fun hc => ?_) (fun hc => ?_)
        · refine wp_iinc_n (lv' := [(0, .ref 7), (1, .ref (74 + i)), (2, .int (nI (j + 1)))]) dX4_isWord_49 rfl rfl (by decide) rfl ?_
          refine wp_goto (tgt := 20) dX4_isWord_52 (by decide) ?_
          refine ih (j + 1) (by omega) ?_
          rw [List.range_succ, List.all_append, ha]
          simp [hc]
        · refine wp_iconst (v := nI 0) dX4_isWord_47 rfl ?_
          refine wp_zret dX4_isWord_48 rfl (Or.inl rfl) ⟨sr_bf ?_, rfl⟩
          unfold st_is
          have hf : (List.range (st_L.getD i 0)).all (fun k => decide (D.1 8 (p + k) = st_c i k)) = false := by
            cases z : (List.range (st_L.getD i 0)).all (fun k => decide (D.1 8 (p + k) = st_c i k)) with
            | false => rfl
            | true =>
              rw [List.all_eq_true] at z
              exact absurd (of_decide_eq_true (z j (List.mem_range.mpr (by omega)))) hc
          rw [hf, Bool.and_false]
    refine wp_iconst (v := nI 0) dX4_isWord_18 rfl ?_
    refine wp_istore_n (lv' := [(0, .ref 7), (1, .ref (74 + i)), (2, .int (nI 0))]) dX4_isWord_19 rfl (by decide) rfl ?_
    exact hall (st_L.getD i 0) 0 (by omega) rfl
  · refine wp_iconst (v := nI 0) dX4_isWord_16 rfl ?_
    refine wp_zret dX4_isWord_17 rfl (Or.inl rfl) ⟨sr_bf ?_, rfl⟩
    unfold st_is
    rw [decide_eq_false hne]; rfl
theorem st_is_tk : ∀ b : Nat → Int32, ∀ p e, st_is b p e 0 = tk_is b p e [99, 114, 101, 119] ∧ st_is b p e 1 = tk_is b p e [108, 105, 109, 105, 116] ∧ st_is b p e 2 = tk_is b p e [114, 97, 99, 101] ∧ st_is b p e 3 = tk_is b p e [98, 121] ∧ st_is b p e 4 = tk_is b p e [117, 112] ∧ st_is b p e 5 = tk_is b p e [100, 111, 119, 110] := by
  intro b p e
  exact ⟨rfl, rfl, rfl, rfl, rfl, rfl⟩
set_option maxHeartbeats 400000 in
set_option maxRecDepth 100000 in
theorem cl_RW_ok (g : sr_G) : cl_RW g := by
  intro D L k p v hL h300 hp hk
  refine Con.of pn_X4_readWord (Nat.le_of_ble_eq_true rfl) ?_
  show WP g M_X4_readWord 0 [(0, .ref 7)] [] (sr_R D k p v p) _
  have hwl : sr_wend (D.1 8) L p ≤ L := sr_scan_le _ _ (by omega)
  have hwg : p ≤ sr_wend (D.1 8) L p := sr_scan_ge _ _ _ _
  have tk := st_is_tk (D.1 8) p (sr_wend (D.1 8) L p)
  have h39 : WP g M_X4_readWord 39 [(0, .ref 7)] [] (sr_R D k p v (sr_wend (D.1 8) L p)) (sr_ret none (sr_R D (tk_wk (D.1 8) p (sr_wend (D.1 8) L p)) p v (sr_wend (D.1 8) L p))) := by
    refine wp_aload_n dX4_readWord_39 rfl rfl ?_
    refine wp_ldcS (i := 0) dX4_readWord_40 (by decide) rfl rfl ?_
    refine wp_callV (M2 := M_X4_isWord) (n := 1) (As := [.ref (74 + 0)]) (st := []) dX4_readWord_42 (c_X4_isWord g D L k p v (sr_wend (D.1 8) L p) hL h300 hwg hwl (i := 0) (by decide)) ca_X4_46 ⟨nm_X4_isWord, by decide, by decide⟩ rfl (by decide) rfl rfl rfl (Nat.le_of_ble_eq_true rfl) (fun r E q => ?_)
    obtain ⟨rfl, rfl⟩ := q
    show WP g _ _ _ (.int (sr_b (st_is (D.1 8) p (sr_wend (D.1 8) L p) 0)) :: _) _ _
    refine wp_if_eq_b (tgt := 56) dX4_readWord_45 (by decide) (fun c0 => ?_) (fun c0 => ?_)
    rotate_left
    · refine wp_aload_n dX4_readWord_48 rfl rfl ?_
      refine wp_iconst (v := nI 4) dX4_readWord_49 rfl ?_
      refine wp_putI dX4_readWord_50 fl_X4_15 (by decide) rfl rfl ?_
      rw [sr_R_s1]
      refine wp_goto (tgt := 151) dX4_readWord_53 (by decide) ?_
      refine wp_vret dX4_readWord_151 rfl ⟨rfl, ?_⟩
      rw [show tk_wk (D.1 8) p (sr_wend (D.1 8) L p) = _ from (if_pos (by rw [← tk.1, c0]))]
    refine wp_aload_n dX4_readWord_56 rfl rfl ?_
    refine wp_ldcS (i := 1) dX4_readWord_57 (by decide) rfl rfl ?_
    refine wp_callV (M2 := M_X4_isWord) (n := 1) (As := [.ref (74 + 1)]) (st := []) dX4_readWord_59 (c_X4_isWord g D L k p v (sr_wend (D.1 8) L p) hL h300 hwg hwl (i := 1) (by decide)) ca_X4_46 ⟨nm_X4_isWord, by decide, by decide⟩ rfl (by decide) rfl rfl rfl (Nat.le_of_ble_eq_true rfl) (fun r E q => ?_)
    obtain ⟨rfl, rfl⟩ := q
    show WP g _ _ _ (.int (sr_b (st_is (D.1 8) p (sr_wend (D.1 8) L p) 1)) :: _) _ _
    refine wp_if_eq_b (tgt := 73) dX4_readWord_62 (by decide) (fun c1 => ?_) (fun c1 => ?_)
    rotate_left
    · refine wp_aload_n dX4_readWord_65 rfl rfl ?_
      refine wp_iconst (v := nI 5) dX4_readWord_66 rfl ?_
      refine wp_putI dX4_readWord_67 fl_X4_15 (by decide) rfl rfl ?_
      rw [sr_R_s1]
      refine wp_goto (tgt := 151) dX4_readWord_70 (by decide) ?_
      refine wp_vret dX4_readWord_151 rfl ⟨rfl, ?_⟩
      rw [show tk_wk (D.1 8) p (sr_wend (D.1 8) L p) = _ from (if_neg (by rw [← tk.1, c0]; decide)).trans ((if_pos (by rw [← tk.2.1, c1])))]
    refine wp_aload_n dX4_readWord_73 rfl rfl ?_
    refine wp_ldcS (i := 2) dX4_readWord_74 (by decide) rfl rfl ?_
    refine wp_callV (M2 := M_X4_isWord) (n := 1) (As := [.ref (74 + 2)]) (st := []) dX4_readWord_76 (c_X4_isWord g D L k p v (sr_wend (D.1 8) L p) hL h300 hwg hwl (i := 2) (by decide)) ca_X4_46 ⟨nm_X4_isWord, by decide, by decide⟩ rfl (by decide) rfl rfl rfl (Nat.le_of_ble_eq_true rfl) (fun r E q => ?_)
    obtain ⟨rfl, rfl⟩ := q
    show WP g _ _ _ (.int (sr_b (st_is (D.1 8) p (sr_wend (D.1 8) L p) 2)) :: _) _ _
    refine wp_if_eq_b (tgt := 91) dX4_readWord_79 (by decide) (fun c2 => ?_) (fun c2 => ?_)
    rotate_left
    · refine wp_aload_n dX4_readWord_82 rfl rfl ?_
      refine wp_bipush (v := nI 6) dX4_readWord_83 rfl ?_
      refine wp_putI dX4_readWord_85 fl_X4_15 (by decide) rfl rfl ?_
      rw [sr_R_s1]
      refine wp_goto (tgt := 151) dX4_readWord_88 (by decide) ?_
      refine wp_vret dX4_readWord_151 rfl ⟨rfl, ?_⟩
      rw [show tk_wk (D.1 8) p (sr_wend (D.1 8) L p) = _ from (if_neg (by rw [← tk.1, c0]; decide)).trans ((if_neg (by rw [← tk.2.1, c1]; decide)).trans ((if_pos (by rw [← tk.2.2.1, c2]))))]
    refine wp_aload_n dX4_readWord_91 rfl rfl ?_
    refine wp_ldcS (i := 3) dX4_readWord_92 (by decide) rfl rfl ?_
    refine wp_callV (M2 := M_X4_isWord) (n := 1) (As := [.ref (74 + 3)]) (st := []) dX4_readWord_94 (c_X4_isWord g D L k p v (sr_wend (D.1 8) L p) hL h300 hwg hwl (i := 3) (by decide)) ca_X4_46 ⟨nm_X4_isWord, by decide, by decide⟩ rfl (by decide) rfl rfl rfl (Nat.le_of_ble_eq_true rfl) (fun r E q => ?_)
    obtain ⟨rfl, rfl⟩ := q
    show WP g _ _ _ (.int (sr_b (st_is (D.1 8) p (sr_wend (D.1 8) L p) 3)) :: _) _ _
    refine wp_if_eq_b (tgt := 109) dX4_readWord_97 (by decide) (fun c3 => ?_) (fun c3 => ?_)
    rotate_left
    · refine wp_aload_n dX4_readWord_100 rfl rfl ?_
      refine wp_bipush (v := nI 7) dX4_readWord_101 rfl ?_
      refine wp_putI dX4_readWord_103 fl_X4_15 (by decide) rfl rfl ?_
      rw [sr_R_s1]
      refine wp_goto (tgt := 151) dX4_readWord_106 (by decide) ?_
      refine wp_vret dX4_readWord_151 rfl ⟨rfl, ?_⟩
      rw [show tk_wk (D.1 8) p (sr_wend (D.1 8) L p) = _ from (if_neg (by rw [← tk.1, c0]; decide)).trans ((if_neg (by rw [← tk.2.1, c1]; decide)).trans ((if_neg (by rw [← tk.2.2.1, c2]; decide)).trans ((if_pos (by rw [← tk.2.2.2.1, c3])))))]
    refine wp_aload_n dX4_readWord_109 rfl rfl ?_
    refine wp_ldcS (i := 4) dX4_readWord_110 (by decide) rfl rfl ?_
    refine wp_callV (M2 := M_X4_isWord) (n := 1) (As := [.ref (74 + 4)]) (st := []) dX4_readWord_112 (c_X4_isWord g D L k p v (sr_wend (D.1 8) L p) hL h300 hwg hwl (i := 4) (by decide)) ca_X4_46 ⟨nm_X4_isWord, by decide, by decide⟩ rfl (by decide) rfl rfl rfl (Nat.le_of_ble_eq_true rfl) (fun r E q => ?_)
    obtain ⟨rfl, rfl⟩ := q
    show WP g _ _ _ (.int (sr_b (st_is (D.1 8) p (sr_wend (D.1 8) L p) 4)) :: _) _ _
    refine wp_if_eq_b (tgt := 127) dX4_readWord_115 (by decide) (fun c4 => ?_) (fun c4 => ?_)
    rotate_left
    · refine wp_aload_n dX4_readWord_118 rfl rfl ?_
      refine wp_bipush (v := nI 8) dX4_readWord_119 rfl ?_
      refine wp_putI dX4_readWord_121 fl_X4_15 (by decide) rfl rfl ?_
      rw [sr_R_s1]
      refine wp_goto (tgt := 151) dX4_readWord_124 (by decide) ?_
      refine wp_vret dX4_readWord_151 rfl ⟨rfl, ?_⟩
      rw [show tk_wk (D.1 8) p (sr_wend (D.1 8) L p) = _ from (if_neg (by rw [← tk.1, c0]; decide)).trans ((if_neg (by rw [← tk.2.1, c1]; decide)).trans ((if_neg (by rw [← tk.2.2.1, c2]; decide)).trans ((if_neg (by rw [← tk.2.2.2.1, c3]; decide)).trans ((if_pos (by rw [← tk.2.2.2.2.1, c4]))))))]
    refine wp_aload_n dX4_readWord_127 rfl rfl ?_
    refine wp_ldcS (i := 5) dX4_readWord_128 (by decide) rfl rfl ?_
    refine wp_callV (M2 := M_X4_isWord) (n := 1) (As := [.ref (74 + 5)]) (st := []) dX4_readWord_130 (c_X4_isWord g D L k p v (sr_wend (D.1 8) L p) hL h300 hwg hwl (i := 5) (by decide)) ca_X4_46 ⟨nm_X4_isWord, by decide, by decide⟩ rfl (by decide) rfl rfl rfl (Nat.le_of_ble_eq_true rfl) (fun r E q => ?_)
    obtain ⟨rfl, rfl⟩ := q
    show WP g _ _ _ (.int (sr_b (st_is (D.1 8) p (sr_wend (D.1 8) L p) 5)) :: _) _ _
    refine wp_if_eq_b (tgt := 145) dX4_readWord_133 (by decide) (fun c5 => ?_) (fun c5 => ?_)
    · refine wp_aload_n dX4_readWord_145 rfl rfl ?_
      refine wp_bipush (v := nI 10) dX4_readWord_146 rfl ?_
      refine wp_putI dX4_readWord_148 fl_X4_15 (by decide) rfl rfl ?_
      rw [sr_R_s1]
      refine wp_vret dX4_readWord_151 rfl ⟨rfl, ?_⟩
      rw [show tk_wk (D.1 8) p (sr_wend (D.1 8) L p) = _ from (if_neg (by rw [← tk.1, c0]; decide)).trans ((if_neg (by rw [← tk.2.1, c1]; decide)).trans ((if_neg (by rw [← tk.2.2.1, c2]; decide)).trans ((if_neg (by rw [← tk.2.2.2.1, c3]; decide)).trans ((if_neg (by rw [← tk.2.2.2.2.1, c4]; decide)).trans ((if_neg (by rw [← tk.2.2.2.2.2, c5]; decide)))))))]
    · refine wp_aload_n dX4_readWord_136 rfl rfl ?_
      refine wp_bipush (v := nI 9) dX4_readWord_137 rfl ?_
      refine wp_putI dX4_readWord_139 fl_X4_15 (by decide) rfl rfl ?_
      rw [sr_R_s1]
      refine wp_goto (tgt := 151) dX4_readWord_142 (by decide) ?_
      refine wp_vret dX4_readWord_151 rfl ⟨rfl, ?_⟩
      rw [show tk_wk (D.1 8) p (sr_wend (D.1 8) L p) = _ from (if_neg (by rw [← tk.1, c0]; decide)).trans ((if_neg (by rw [← tk.2.1, c1]; decide)).trans ((if_neg (by rw [← tk.2.2.1, c2]; decide)).trans ((if_neg (by rw [← tk.2.2.2.1, c3]; decide)).trans ((if_neg (by rw [← tk.2.2.2.2.1, c4]; decide)).trans ((if_pos (by rw [← tk.2.2.2.2.2, c5])))))))]
  have h0 : ∀ d j, j + d = L → p ≤ j → sr_scan sr_letter (D.1 8) L j = sr_wend (D.1 8) L p → WP g M_X4_readWord 0 [(0, .ref 7)] [] (sr_R D k p v j) (sr_ret none (sr_R D (tk_wk (D.1 8) p (sr_wend (D.1 8) L p)) p v (sr_wend (D.1 8) L p))) := by
    intro d
    induction d with
    | zero =>
      intro j hj hpj hs
      refine wp_aload_n dX4_readWord_0 rfl rfl ?_
      refine wp_getI_n (n := j) dX4_readWord_1 fl_X4_24 (by decide) rfl rfl (sr_R_4) ?_
      refine wp_aload_n dX4_readWord_4 rfl rfl ?_
      refine wp_getI_n (n := L) dX4_readWord_5 fl_X4_9 (by decide) rfl rfl (sr_R_0 hL) ?_
      refine wp_icmp_ge_n (tgt := 39) dX4_readWord_8 (by decide) (by omega) (by omega) (fun _ => ?_) (fun z => absurd z (by omega))
      rw [sr_scan_f (by omega)] at hs
      rw [hs]; exact h39
    | succ d ih =>
      intro j hj hpj hs
      refine wp_aload_n dX4_readWord_0 rfl rfl ?_
      refine wp_getI_n (n := j) dX4_readWord_1 fl_X4_24 (by decide) rfl rfl (sr_R_4) ?_
      refine wp_aload_n dX4_readWord_4 rfl rfl ?_
      refine wp_getI_n (n := L) dX4_readWord_5 fl_X4_9 (by decide) rfl rfl (sr_R_0 hL) ?_
      refine wp_icmp_ge_n (tgt := 39) dX4_readWord_8 (by decide) (by omega) (by omega) (fun z => absurd z (by omega)) (fun _ => ?_)
      refine wp_aload_n dX4_readWord_11 rfl rfl ?_
      refine wp_getR (r := 8) dX4_readWord_12 fl_X4_27 (by decide) rfl rfl rfl ?_
      refine wp_aload_n dX4_readWord_15 rfl rfl ?_
      refine wp_getI_n (n := j) dX4_readWord_16 fl_X4_24 (by decide) rfl rfl (sr_R_4) ?_
      refine wp_bald dX4_readWord_19 (by decide) rfl (show _ < 300 by omega) (by omega) ?_
      rw [sr_R_8]
      refine wp_callS (M2 := M_X4_isLetter) (n := 1) (As := [.int (D.1 8 j)]) (st := []) dX4_readWord_20 (c_X4_isLetter g _ (D.1 8 j)) ca_X4_31 ⟨nm_X4_isLetter, by decide, by decide⟩ rfl rfl (Nat.le_of_ble_eq_true rfl) (fun r E q => ?_)
      obtain ⟨rfl, rfl⟩ := q
      show WP g _ _ _ (.int (sr_b (sr_letter (D.1 8 j))) :: _) _ _
      refine wp_if_eq_b (tgt := 39) dX4_readWord_23 (by decide) (fun hlt => ?_) (fun hlt => ?_)
      · rw [sr_scan_f (fun z => by rw [hlt] at z; exact absurd z.2 (by decide))] at hs
        rw [hs]; exact h39
      · refine wp_aload_n dX4_readWord_26 rfl rfl ?_
        refine wp_dup dX4_readWord_27 rfl ?_
        refine wp_getI_n (n := j) dX4_readWord_28 fl_X4_24 (by decide) rfl rfl (sr_R_4) ?_
        refine wp_iconst (v := nI 1) dX4_readWord_31 rfl ?_
        refine wp_iadd_n dX4_readWord_32 ?_
        refine wp_putI dX4_readWord_33 fl_X4_24 (by decide) rfl rfl ?_
        rw [sr_R_s4]
        refine wp_goto (tgt := 0) dX4_readWord_36 (by decide) ?_
        exact ih (j + 1) (by omega) (by omega) (by rw [← hs]; exact (sr_scan_t (by omega) hlt).symm)
  exact h0 (L - p) p (by omega) (Nat.le_refl _) rfl
