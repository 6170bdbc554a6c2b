/-! ===== the class: fits ===== -/
abbrev cl_T : Type := Nat → Nat → Int64
/-- eight rows of eight behind cell b -/
def mx (b : Nat) (D : sr_St) (X : cl_T) : Prop := ∀ i j, i < 8 → j < 8 → D.2 (b + 1 + i) j = X i j
/-- nothing but these rows changed -/
def fr (b : Nat) (D E : sr_St) : Prop := E.1 = D.1 ∧ ∀ o, ¬ (b < o ∧ o < b + 9) → E.2 o = D.2 o
def mxT (X Y : cl_T) (i j : Nat) : cl_T := fun a c => if a < i ∨ (a = i ∧ c < j) then X a c else Y a c
def cl_in (b : Nat) (D : sr_St) (X Y : cl_T) (i j : Nat) (E : sr_St) : Prop := mx b E (mxT X Y i j) ∧ fr b D E
theorem fr.rf {b : Nat} {D : sr_St} : fr b D D := ⟨rfl, fun _ _ => rfl⟩
theorem fr.tr {b : Nat} {D E F : sr_St} (h : fr b D E) (k : fr b E F) : fr b D F := ⟨k.1.trans h.1, fun o ho => (k.2 o ho).trans (h.2 o ho)⟩
theorem fr_set {b i j : Nat} {D E : sr_St} {v : Int64} (h : fr b D E) (hi : i < 8) : fr b D (sr_sJ E (b + 1 + i) j v) :=
  ⟨h.1, fun o ho => by funext k; rw [sr_sJ_2, if_neg (by omega)]; exact congrFun (h.2 o ho) k⟩
theorem cl_in_0 {b : Nat} {D E : sr_St} {X Y : cl_T} (h : mx b E Y) (k : fr b D E) : cl_in b D X Y 0 0 E :=
  ⟨fun i j hi hj => by unfold mxT; rw [if_neg (by omega)]; exact h i j hi hj, k⟩
theorem cl_in_set {b i j : Nat} {D E : sr_St} {X Y : cl_T} {v : Int64} (hi : i < 8) (hj : j < 8) (h : cl_in b D X Y i j E) (hv : v = X i j) : cl_in b D X Y i (j + 1) (sr_sJ E (b + 1 + i) j v) := by
  refine ⟨fun a c ha hc => ?_, fr_set h.2 hi⟩
  rw [sr_sJ_2]
  have e := h.1 a c ha hc
  unfold mxT at e ⊢
  by_cases z : b + 1 + a = b + 1 + i ∧ c = j
  · rw [if_pos z, if_pos (by omega), hv, z.2, show a = i by omega]
  · rw [if_neg z, e]
    by_cases y : a < i ∨ (a = i ∧ c < j)
    · rw [if_pos y, if_pos (by omega)]
    · rw [if_neg y, if_neg (by omega)]
theorem cl_in_skip {b i j : Nat} {D E : sr_St} {X Y : cl_T} (h : cl_in b D X Y i j E) (hv : X i j = Y i j) : cl_in b D X Y i (j + 1) E := by
  refine ⟨fun a c ha hc => ?_, h.2⟩
  rw [h.1 a c ha hc]
  unfold mxT
  by_cases z : a = i ∧ c = j
  · rw [z.1, z.2, if_neg (by omega), if_pos (by omega), hv]
  · by_cases y : a < i ∨ (a = i ∧ c < j)
    · rw [if_pos y, if_pos (by omega)]
    · rw [if_neg y, if_neg (by omega)]
theorem cl_in_row {b i N : Nat} {D E : sr_St} {X Y : cl_T} (h : cl_in b D X Y i N E) (hx : ∀ c, N ≤ c → c < 8 → X i c = Y i c) : cl_in b D X Y (i + 1) 0 E := by
  refine ⟨fun a c ha hc => ?_, h.2⟩
  rw [h.1 a c ha hc]
  unfold mxT
  by_cases y : a < i ∨ (a = i ∧ c < N)
  · rw [if_pos y, if_pos (by omega)]
  · rw [if_neg y]
    by_cases z : a = i
    · subst z; rw [if_pos (by omega), hx c (by omega) hc]
    · rw [if_neg (by omega)]
theorem cl_in_end {b N : Nat} {D E : sr_St} {X Y : cl_T} (h : cl_in b D X Y N 0 E) (hx : ∀ a c, N ≤ a → a < 8 → c < 8 → X a c = Y a c) : mx b E X ∧ fr b D E := by
  refine ⟨fun a c ha hc => ?_, h.2⟩
  rw [h.1 a c ha hc]
  unfold mxT
  by_cases y : a < N
  · rw [if_pos (by omega)]
  · rw [if_neg (by omega), hx a c (by omega) ha hc]
theorem cl_in_Y {b i j a c : Nat} {D E : sr_St} {X Y : cl_T} (h : cl_in b D X Y i j E) (ha : a < 8) (hc : c < 8) (hv : ¬ (a < i ∨ (a = i ∧ c < j)) ∨ X a c = Y a c) : E.2 (b + 1 + a) c = Y a c := by
  rw [h.1 a c ha hc]
  unfold mxT
  by_cases y : a < i ∨ (a = i ∧ c < j)
  · rw [if_pos y]; exact hv.resolve_left (fun z => z y)
  · rw [if_neg y]
theorem mx_fr {b b' : Nat} {D E : sr_St} {X : cl_T} (h : mx b' D X) (k : fr b D E) (hb : b' + 9 ≤ b + 1 ∨ b + 9 ≤ b' + 1) : mx b' E X := fun i j hi hj => by rw [k.2 _ (by omega)]; exact h i j hi hj
theorem mx_cong {b : Nat} {D E : sr_St} {X : cl_T} (h : mx b D X) (k : ∀ o, b < o → o < b + 9 → E.2 o = D.2 o) : mx b E X := fun i j hi hj => by rw [k _ (by omega) (by omega)]; exact h i j hi hj
theorem sr_kr {b i : Nat} (hb : b = 15 ∨ b = 24 ∨ b = 36 ∨ b = 45) (hi : i < 8) : sr_kind (b + 1 + i) = 10 ∧ sr_len (b + 1 + i) = 8 := by
  have : ∀ i, i < 8 → (sr_kind (15 + 1 + i) = 10 ∧ sr_len (15 + 1 + i) = 8) ∧ (sr_kind (24 + 1 + i) = 10 ∧ sr_len (24 + 1 + i) = 8) ∧ (sr_kind (36 + 1 + i) = 10 ∧ sr_len (36 + 1 + i) = 8) ∧ (sr_kind (45 + 1 + i) = 10 ∧ sr_len (45 + 1 + i) = 8) := by decide
  have h := this i hi
  rcases hb with rfl | rfl | rfl | rfl
  · exact h.1
  · exact h.2.1
  · exact h.2.2.1
  · exact h.2.2.2
set_option maxHeartbeats 4000000 in
set_option maxRecDepth 100000 in
theorem c_X1_clear14 (g : sr_G) (D : sr_St)  : Con g M_X1_clear [.ref 14] D (fun a D' => a = none ∧ mx 15 D' (fun _ _ => 0) ∧ fr 15 D D') := by
  refine Con.of pn_X1_clear (Nat.le_of_ble_eq_true rfl) ?_
  show WP g M_X1_clear 0 [(0, .ref 14)] [] D _
  have hL : ∀ i, i ≤ 8 → ∀ E : sr_St, cl_in 15 D (fun _ _ => 0) (fun a c => D.2 (15 + 1 + a) c) i 0 E → WP g M_X1_clear 2 [(0, .ref 14), (1, .int (nI i))] [] E (fun a D' => a = none ∧ mx 15 D' (fun _ _ => 0) ∧ fr 15 D D') := by
    refine sr_up (fun i hi ih E hE => ?_)
    have hI : i < 8 → ∀ j, j ≤ 8 → ∀ E : sr_St, cl_in 15 D (fun _ _ => 0) (fun a c => D.2 (15 + 1 + a) c) i j E → WP g M_X1_clear 10 [(0, .ref 14), (1, .int (nI i)), (2, .int (nI j))] [] E (fun a D' => a = none ∧ mx 15 D' (fun _ _ => 0) ∧ fr 15 D D') := by
      intro hin
      refine sr_up (fun j hj ihj E hE => ?_)
      refine wp_iload_n dX1_clear_10 rfl rfl ?_
      refine wp_bipush (v := nI 8) dX1_clear_11 rfl ?_
      refine wp_icmp_ge_n (tgt := 31) dX1_clear_13 (by decide) (by first | omega | (split <;> omega)) (by first | omega | (split <;> omega)) (fun c151 => ?_) (fun c151 => ?_)
      · refine wp_iinc_n (b := 1) (lv' := [(0, .ref 14), (1, .int (nI (i + 1))), (2, .int (nI j))]) dX1_clear_31 rfl rfl (by decide) rfl ?_
        refine wp_goto (tgt := 2) dX1_clear_34 (by decide) ?_
        have hje : j = 8 := by omega
        subst hje
        exact wp_pick [0, 1] rfl (ih (by omega) E (cl_in_row hE (fun c h1 h2 => absurd h1 (by omega))))
      · refine wp_aload_n dX1_clear_16 rfl rfl ?_
        refine wp_getR (r := 15) dX1_clear_17 fl_X1_21 (by decide) rfl rfl rfl ?_
        refine wp_iload_n dX1_clear_20 rfl rfl ?_
        refine wp_aald dX1_clear_21 (by decide) rfl (show _ < 8 by omega) (by first | omega | (split <;> omega)) ?_
        refine wp_iload_n dX1_clear_22 rfl rfl ?_
        refine wp_lconst (v := 0) dX1_clear_23 rfl ?_
        refine wp_last dX1_clear_24 (by omega) (sr_kr (b := 15) (by decide) (by omega)).1 (by rw [(sr_kr (b := 15) (by decide) (by omega)).2]; omega) (by first | omega | (split <;> omega)) ?_
        refine wp_D (fun D152 eD152 => ?_)
        refine wp_iinc_n (b := 1) (lv' := [(0, .ref 14), (1, .int (nI i)), (2, .int (nI (j + 1)))]) dX1_clear_25 rfl rfl (by decide) rfl ?_
        refine wp_goto (tgt := 10) dX1_clear_28 (by decide) ?_
        subst eD152
        exact ihj (by omega) _ (cl_in_set (by omega) (by omega) hE rfl)
    refine wp_iload_n dX1_clear_2 rfl rfl ?_
    refine wp_bipush (v := nI 8) dX1_clear_3 rfl ?_
    refine wp_icmp_ge_n (tgt := 37) dX1_clear_5 (by decide) (by first | omega | (split <;> omega)) (by first | omega | (split <;> omega)) (fun c153 => ?_) (fun c153 => ?_)
    · refine wp_vret dX1_clear_37 rfl ⟨rfl, ?_⟩
      have hie : i = 8 := by omega
      subst hie
      exact cl_in_end hE (fun a c h1 h2 h3 => absurd h1 (by omega))
    · refine wp_iconst (v := nI 0) dX1_clear_8 rfl ?_
      refine wp_istore_n (lv' := [(0, .ref 14), (1, .int (nI i)), (2, .int (nI 0))]) dX1_clear_9 rfl (by decide) rfl ?_
      exact hI (by omega) 0 (by omega) E hE
  refine wp_iconst (v := nI 0) dX1_clear_0 rfl ?_
  refine wp_istore_n (lv' := [(0, .ref 14), (1, .int (nI 0))]) dX1_clear_1 rfl (by decide) rfl ?_
  exact hL 0 (by omega) D (cl_in_0 (fun i j _ _ => rfl) fr.rf)
set_option maxHeartbeats 4000000 in
set_option maxRecDepth 100000 in
theorem c_X1_include14 (g : sr_G) (D : sr_St) (t : Int32) (Y : cl_T) (hY : mx 15 D Y) : Con g M_X1_include [.ref 14, .int t] D (fun a D' => a = none ∧ mx 15 D' (fun a c => Y a c + t.toInt64 * (D.1 34 a).toInt64 * (D.1 34 c).toInt64) ∧ fr 15 D D') := by
  refine Con.of pn_X1_include (Nat.le_of_ble_eq_true rfl) ?_
  show WP g M_X1_include 0 [(0, .ref 14), (1, .int t)] [] D _
  have hL : ∀ i, i ≤ 8 → ∀ E : sr_St, cl_in 15 D (fun a c => Y a c + t.toInt64 * (D.1 34 a).toInt64 * (D.1 34 c).toInt64) (Y) i 0 E → WP g M_X1_include 2 [(0, .ref 14), (1, .int t), (2, .int (nI i))] [] E (fun a D' => a = none ∧ mx 15 D' (fun a c => Y a c + t.toInt64 * (D.1 34 a).toInt64 * (D.1 34 c).toInt64) ∧ fr 15 D D') := by
    refine sr_up (fun i hi ih E hE => ?_)
    have hI : i < 8 → ∀ j, j ≤ 8 → ∀ E : sr_St, cl_in 15 D (fun a c => Y a c + t.toInt64 * (D.1 34 a).toInt64 * (D.1 34 c).toInt64) (Y) i j E → WP g M_X1_include 10 [(0, .ref 14), (1, .int t), (2, .int (nI i)), (3, .int (nI j))] [] E (fun a D' => a = none ∧ mx 15 D' (fun a c => Y a c + t.toInt64 * (D.1 34 a).toInt64 * (D.1 34 c).toInt64) ∧ fr 15 D D') := by
      intro hin
      refine sr_up (fun j hj ihj E hE => ?_)
      refine wp_iload_n dX1_include_10 rfl rfl ?_
      refine wp_bipush (v := nI 8) dX1_include_11 rfl ?_
      refine wp_icmp_ge_n (tgt := 51) dX1_include_13 (by decide) (by first | omega | (split <;> omega)) (by first | omega | (split <;> omega)) (fun c154 => ?_) (fun c154 => ?_)
      · refine wp_iinc_n (b := 1) (lv' := [(0, .ref 14), (1, .int t), (2, .int (nI (i + 1))), (3, .int (nI j))]) dX1_include_51 rfl rfl (by decide) rfl ?_
        refine wp_goto (tgt := 2) dX1_include_54 (by decide) ?_
        have hje : j = 8 := by omega
        subst hje
        exact wp_pick [0, 1, 2] rfl (ih (by omega) E (cl_in_row hE (fun c h1 h2 => absurd h1 (by omega))))
      · refine wp_aload_n dX1_include_16 rfl rfl ?_
        refine wp_getR (r := 15) dX1_include_17 fl_X1_21 (by decide) rfl rfl rfl ?_
        refine wp_iload_n dX1_include_20 rfl rfl ?_
        refine wp_aald dX1_include_21 (by decide) rfl (show _ < 8 by omega) (by first | omega | (split <;> omega)) ?_
        refine wp_iload_n dX1_include_22 rfl rfl ?_
        refine wp_dup2 dX1_include_23 rfl rfl ?_
        refine wp_lald dX1_include_24 (by omega) (sr_kr (b := 15) (by decide) (by omega)).1 (by rw [(sr_kr (b := 15) (by decide) (by omega)).2]; omega) (by first | omega | (split <;> omega)) ?_
        refine wp_iload_n dX1_include_25 rfl rfl ?_
        refine wp_i2l dX1_include_26 ?_
        refine wp_aload_n dX1_include_27 rfl rfl ?_
        refine wp_getR (r := 34) dX1_include_28 fl_X1_31 (by decide) rfl rfl rfl ?_
        refine wp_iload_n dX1_include_31 rfl rfl ?_
        refine wp_iald dX1_include_32 (by decide) rfl (show _ < 8 by omega) (by first | omega | (split <;> omega)) ?_
        refine wp_i2l dX1_include_33 ?_
        refine wp_lmul dX1_include_34 ?_
        refine wp_aload_n dX1_include_35 rfl rfl ?_
        refine wp_getR (r := 34) dX1_include_36 fl_X1_31 (by decide) rfl rfl rfl ?_
        refine wp_iload_n dX1_include_39 rfl rfl ?_
        refine wp_iald dX1_include_40 (by decide) rfl (show _ < 8 by omega) (by first | omega | (split <;> omega)) ?_
        refine wp_i2l dX1_include_41 ?_
        refine wp_lmul dX1_include_42 ?_
        refine wp_ladd dX1_include_43 ?_
        refine wp_last dX1_include_44 (by omega) (sr_kr (b := 15) (by decide) (by omega)).1 (by rw [(sr_kr (b := 15) (by decide) (by omega)).2]; omega) (by first | omega | (split <;> omega)) ?_
        refine wp_D (fun D155 eD155 => ?_)
        refine wp_iinc_n (b := 1) (lv' := [(0, .ref 14), (1, .int t), (2, .int (nI i)), (3, .int (nI (j + 1)))]) dX1_include_45 rfl rfl (by decide) rfl ?_
        refine wp_goto (tgt := 10) dX1_include_48 (by decide) ?_
        subst eD155
        refine ihj (by omega) _ (cl_in_set (by omega) (by omega) hE ?_)
        rw [cl_in_Y hE (by omega) (by omega) (Or.inl (by omega)), hE.2.1]
    refine wp_iload_n dX1_include_2 rfl rfl ?_
    refine wp_bipush (v := nI 8) dX1_include_3 rfl ?_
    refine wp_icmp_ge_n (tgt := 57) dX1_include_5 (by decide) (by first | omega | (split <;> omega)) (by first | omega | (split <;> omega)) (fun c156 => ?_) (fun c156 => ?_)
    · refine wp_vret dX1_include_57 rfl ⟨rfl, ?_⟩
      have hie : i = 8 := by omega
      subst hie
      exact cl_in_end hE (fun a c h1 h2 h3 => absurd h1 (by omega))
    · refine wp_iconst (v := nI 0) dX1_include_8 rfl ?_
      refine wp_istore_n (lv' := [(0, .ref 14), (1, .int t), (2, .int (nI i)), (3, .int (nI 0))]) dX1_include_9 rfl (by decide) rfl ?_
      exact hI (by omega) 0 (by omega) E hE
  refine wp_iconst (v := nI 0) dX1_include_0 rfl ?_
  refine wp_istore_n (lv' := [(0, .ref 14), (1, .int t), (2, .int (nI 0))]) dX1_include_1 rfl (by decide) rfl ?_
  exact hL 0 (by omega) D (cl_in_0 hY fr.rf)
def cl_form (a b : Nat) (s m : Int32) : Nat → Int32 := fun k => if k < 6 then nI (a / 2 ^ k &&& 1) - nI (b / 2 ^ k &&& 1) else if k = 6 then s else m
def cl_fa (fm : Nat) (D E : sr_St) : Prop := E.2 = D.2 ∧ ∀ o, ¬ o = fm → E.1 o = D.1 o
set_option maxHeartbeats 4000000 in
set_option maxRecDepth 100000 in
theorem c_X1_load14 (g : sr_G) (D : sr_St) (a b : Nat) (ha : a < 64) (hb : b < 64) (s m : Int32) : Con g M_X1_load [.ref 14, .int (nI a), .int (nI b), .int s, .int m] D (fun q D' => q = none ∧ (∀ k, k < 8 → D'.1 34 k = cl_form a b s m k) ∧ cl_fa 34 D D') := by
  refine Con.of pn_X1_load (Nat.le_of_ble_eq_true rfl) ?_
  show WP g M_X1_load 0 [(0, .ref 14), (1, .int (nI a)), (2, .int (nI b)), (3, .int s), (4, .int m)] [] D _
  have hL : ∀ k, k ≤ 6 → ∀ E : sr_St, (∀ z, z < k → E.1 34 z = cl_form a b s m z) → cl_fa 34 D E → WP g M_X1_load 3 [(0, .ref 14), (1, .int (nI a)), (2, .int (nI b)), (3, .int s), (4, .int m), (5, .int (nI k))] [] E (fun q D' => q = none ∧ (∀ k, k < 8 → D'.1 34 k = cl_form a b s m k) ∧ cl_fa 34 D D') := by
    refine sr_up (fun k hk ih E hE hF => ?_)
    refine wp_iload dX1_load_3 rfl ?_
    refine wp_bipush (v := nI 6) dX1_load_5 rfl ?_
    refine wp_icmp_ge_n (tgt := 36) dX1_load_7 (by decide) (by first | omega | (split <;> omega)) (by first | omega | (split <;> omega)) (fun c157 => ?_) (fun c157 => ?_)
    · refine wp_aload_n dX1_load_36 rfl rfl ?_
      refine wp_getR (r := 34) dX1_load_37 fl_X1_31 (by decide) rfl rfl rfl ?_
      refine wp_bipush (v := nI 6) dX1_load_40 rfl ?_
      refine wp_iload_n dX1_load_42 rfl rfl ?_
      refine wp_iast dX1_load_43 (by decide) rfl (by decide) (by first | omega | (split <;> omega)) ?_
      refine wp_D (fun D158 eD158 => ?_)
      refine wp_aload_n dX1_load_44 rfl rfl ?_
      refine wp_getR (r := 34) dX1_load_45 fl_X1_31 (by decide) rfl rfl rfl ?_
      refine wp_bipush (v := nI 7) dX1_load_48 rfl ?_
      refine wp_iload dX1_load_50 rfl ?_
      refine wp_iast dX1_load_52 (by decide) rfl (by decide) (by first | omega | (split <;> omega)) ?_
      refine wp_D (fun D159 eD159 => ?_)
      refine wp_vret dX1_load_53 rfl ⟨rfl, ?_⟩
      subst eD158 eD159
      have hk6 : k = 6 := by omega
      subst hk6
      refine ⟨fun z hz => ?_, hF.1, fun o ho => ?_⟩
      · by_cases e7 : z = 7
        · subst e7; rw [sr_sI_1, if_pos ⟨rfl, rfl⟩]; rfl
        · rw [sr_sI_1, if_neg (fun h => e7 h.2)]; by_cases e6 : z = 6
          · subst e6; rw [sr_sI_1, if_pos ⟨rfl, rfl⟩]; rfl
          · rw [sr_sI_1, if_neg (fun h => e6 h.2)]; exact hE z (by omega)
      · funext z; rw [sr_sI_1, if_neg (fun h => ho h.1), sr_sI_1, if_neg (fun h => ho h.1)]; exact congrFun (hF.2 o ho) z
    · refine wp_aload_n dX1_load_10 rfl rfl ?_
      refine wp_getR (r := 34) dX1_load_11 fl_X1_31 (by decide) rfl rfl rfl ?_
      refine wp_iload dX1_load_14 rfl ?_
      refine wp_iload_n dX1_load_16 rfl rfl ?_
      refine wp_iload dX1_load_17 rfl ?_
      refine wp_ishr_n dX1_load_19 (by omega) (Nat.lt_trans ha (by decide)) ?_
      refine wp_iconst (v := nI 1) dX1_load_20 rfl ?_
      refine wp_iand_n dX1_load_21 ?_
      refine wp_iload_n dX1_load_22 rfl rfl ?_
      refine wp_iload dX1_load_23 rfl ?_
      refine wp_ishr_n dX1_load_25 (by omega) (Nat.lt_trans hb (by decide)) ?_
      refine wp_iconst (v := nI 1) dX1_load_26 rfl ?_
      refine wp_iand_n dX1_load_27 ?_
      refine wp_isub dX1_load_28 ?_
      refine wp_iast dX1_load_29 (by decide) rfl (show _ < 8 by omega) (by first | omega | (split <;> omega)) ?_
      refine wp_D (fun D160 eD160 => ?_)
      refine wp_iinc_n (b := 1) (lv' := [(0, .ref 14), (1, .int (nI a)), (2, .int (nI b)), (3, .int s), (4, .int m), (5, .int (nI (k + 1)))]) dX1_load_30 rfl rfl (by decide) rfl ?_
      refine wp_goto (tgt := 3) dX1_load_33 (by decide) ?_
      subst eD160
      refine ih (by omega) _ (fun z hz => ?_) ⟨hF.1, fun o ho => ?_⟩
      · rw [sr_sI_1]; by_cases e : z = k
        · rw [if_pos ⟨rfl, e⟩, e]; unfold cl_form; rw [if_pos (by omega)]
        · rw [if_neg (fun h => e h.2)]; exact hE z (by omega)
      · funext z; rw [sr_sI_1, if_neg (fun h => ho h.1)]; exact congrFun (hF.2 o ho) z
  refine wp_iconst (v := nI 0) dX1_load_0 rfl ?_
  refine wp_istore (lv' := [(0, .ref 14), (1, .int (nI a)), (2, .int (nI b)), (3, .int s), (4, .int m), (5, .int (nI 0))]) dX1_load_1 (by decide) rfl ?_
  exact hL 0 (by omega) D (fun z hz => absurd hz (by omega)) ⟨rfl, fun _ _ => rfl⟩
def cl_sw (p : Nat) (s : Int64) (Y : cl_T) : cl_T := fun i j => if i = p then (if j = p then -s else Y i j) else if j = p then Y i j else (Y p p * Y i j - Y i p * Y p j) / s
/-- all but the pivot's own place -/
def cl_sw0 (p : Nat) (s : Int64) (Y : cl_T) : cl_T := fun i j => if i = p then Y i j else if j = p then Y i j else (Y p p * Y i j - Y i p * Y p j) / s
def cl_ft (o b : Nat) (D E : sr_St) : Prop := E.1 = D.1 ∧ (∀ q, ¬ q = o → ¬ (b < q ∧ q < b + 9) → E.2 q = D.2 q)
set_option maxHeartbeats 4000000 in
set_option maxRecDepth 100000 in
theorem c_X1_sweep14 (g : sr_G) (D : sr_St) (p : Nat) (hp : p < 7) (s : Int64) (hs : D.2 14 0 = s) (h0 : 0 < s) (Y : cl_T) (hY : mx 24 D Y) : Con g M_X1_sweep [.ref 14, .int (nI p)] D (fun q D' => q = none ∧ mx 24 D' (cl_sw p s Y) ∧ D'.2 14 0 = Y p p ∧ cl_ft 14 24 D D') := by
  refine Con.of pn_X1_sweep (Nat.le_of_ble_eq_true rfl) ?_
  show WP g M_X1_sweep 0 [(0, .ref 14), (1, .int (nI p))] [] D _
  have hs0 : ¬ s = 0 := fun z => by rw [z] at h0; exact absurd h0 (by decide)
  have hL : ∀ i, i ≤ 8 → ∀ E : sr_St, cl_in 24 D (cl_sw0 p s Y) (Y) i 0 E → WP g M_X1_sweep 22 [(0, .ref 14), (1, .int (nI p)), (2, .long ((Y p p))), (4, .int (nI i))] [] E (fun q D' => q = none ∧ mx 24 D' (cl_sw p s Y) ∧ D'.2 14 0 = Y p p ∧ cl_ft 14 24 D D') := by
    refine sr_up (fun i hi ih E hE => ?_)
    have hES : E.2 14 0 = s := by rw [hE.2.2 14 (by omega)]; exact hs
    have hI : i < 8 → ∀ j, j ≤ 8 → ∀ E : sr_St, cl_in 24 D (cl_sw0 p s Y) (Y) i j E → WP g M_X1_sweep 32 [(0, .ref 14), (1, .int (nI p)), (2, .long ((Y p p))), (4, .int (nI i)), (5, .int (nI j))] [] E (fun q D' => q = none ∧ mx 24 D' (cl_sw p s Y) ∧ D'.2 14 0 = Y p p ∧ cl_ft 14 24 D D') := by
      intro hin
      refine sr_up (fun j hj ihj E hE => ?_)
      have hES : E.2 14 0 = s := by rw [hE.2.2 14 (by omega)]; exact hs
      refine wp_iload dX1_sweep_32 rfl ?_
      refine wp_bipush (v := nI 8) dX1_sweep_34 rfl ?_
      refine wp_icmp_ge_n (tgt := 108) dX1_sweep_36 (by decide) (by first | omega | (split <;> omega)) (by first | omega | (split <;> omega)) (fun c161 => ?_) (fun c161 => ?_)
      · refine wp_iinc_n (b := 1) (lv' := [(0, .ref 14), (1, .int (nI p)), (2, .long ((Y p p))), (4, .int (nI (i + 1))), (5, .int (nI j))]) dX1_sweep_108 rfl rfl (by decide) rfl ?_
        refine wp_goto (tgt := 22) dX1_sweep_111 (by decide) ?_
        have hje : j = 8 := by omega
        subst hje
        exact wp_pick [0, 1, 2, 3] rfl (ih (by omega) E (cl_in_row hE (fun c h1 h2 => absurd h1 (by omega))))
      · refine wp_iload dX1_sweep_39 rfl ?_
        refine wp_iload_n dX1_sweep_41 rfl rfl ?_
        refine wp_icmp_eq_n (tgt := 102) dX1_sweep_42 (by decide) (by first | omega | (split <;> omega)) (by first | omega | (split <;> omega)) (fun c162 => ?_) (fun c162 => ?_)
        · have hip := c162
          refine wp_iinc_n (b := 1) (lv' := [(0, .ref 14), (1, .int (nI p)), (2, .long ((Y p p))), (4, .int (nI i)), (5, .int (nI (j + 1)))]) dX1_sweep_102 rfl rfl (by decide) rfl ?_
          refine wp_goto (tgt := 32) dX1_sweep_105 (by decide) ?_
          refine ihj (by omega) _ (cl_in_skip hE ?_)
          unfold cl_sw0
          rw [if_pos hip]
        · have hip := c162
          refine wp_iload dX1_sweep_45 rfl ?_
          refine wp_iload_n dX1_sweep_47 rfl rfl ?_
          refine wp_icmp_eq_n (tgt := 102) dX1_sweep_48 (by decide) (by first | omega | (split <;> omega)) (by first | omega | (split <;> omega)) (fun c163 => ?_) (fun c163 => ?_)
          · have hjp := c163
            refine wp_iinc_n (b := 1) (lv' := [(0, .ref 14), (1, .int (nI p)), (2, .long ((Y p p))), (4, .int (nI i)), (5, .int (nI (j + 1)))]) dX1_sweep_102 rfl rfl (by decide) rfl ?_
            refine wp_goto (tgt := 32) dX1_sweep_105 (by decide) ?_
            refine ihj (by omega) _ (cl_in_skip hE ?_)
            unfold cl_sw0
            rw [if_neg hip, if_pos hjp]
          · have hjp := c163
            refine wp_aload_n dX1_sweep_51 rfl rfl ?_
            refine wp_getR (r := 24) dX1_sweep_52 fl_X1_24 (by decide) rfl rfl rfl ?_
            refine wp_iload dX1_sweep_55 rfl ?_
            refine wp_aald dX1_sweep_57 (by decide) rfl (show _ < 8 by omega) (by first | omega | (split <;> omega)) ?_
            refine wp_iload_n dX1_sweep_58 rfl rfl ?_
            refine wp_lald dX1_sweep_59 (by omega) (sr_kr (b := 24) (by decide) (by omega)).1 (by rw [(sr_kr (b := 24) (by decide) (by omega)).2]; omega) (by first | omega | (split <;> omega)) ?_
            refine wp_aload_n dX1_sweep_60 rfl rfl ?_
            refine wp_getR (r := 24) dX1_sweep_61 fl_X1_24 (by decide) rfl rfl rfl ?_
            refine wp_iload_n dX1_sweep_64 rfl rfl ?_
            refine wp_aald dX1_sweep_65 (by decide) rfl (show _ < 8 by omega) (by first | omega | (split <;> omega)) ?_
            refine wp_iload dX1_sweep_66 rfl ?_
            refine wp_lald dX1_sweep_68 (by omega) (sr_kr (b := 24) (by decide) (by omega)).1 (by rw [(sr_kr (b := 24) (by decide) (by omega)).2]; omega) (by first | omega | (split <;> omega)) ?_
            refine wp_lmul dX1_sweep_69 ?_
            refine wp_topl (fun x164 ex164 => ?_)
            refine wp_lstore (lv' := [(0, .ref 14), (1, .int (nI p)), (2, .long ((Y p p))), (4, .int (nI i)), (5, .int (nI j)), (6, .long x164)]) dX1_sweep_70 (by decide) rfl ?_
            refine wp_aload_n dX1_sweep_72 rfl rfl ?_
            refine wp_getR (r := 24) dX1_sweep_73 fl_X1_24 (by decide) rfl rfl rfl ?_
            refine wp_iload dX1_sweep_76 rfl ?_
            refine wp_aald dX1_sweep_78 (by decide) rfl (show _ < 8 by omega) (by first | omega | (split <;> omega)) ?_
            refine wp_iload dX1_sweep_79 rfl ?_
            refine wp_lload_n dX1_sweep_81 rfl rfl ?_
            refine wp_aload_n dX1_sweep_82 rfl rfl ?_
            refine wp_getR (r := 24) dX1_sweep_83 fl_X1_24 (by decide) rfl rfl rfl ?_
            refine wp_iload dX1_sweep_86 rfl ?_
            refine wp_aald dX1_sweep_88 (by decide) rfl (show _ < 8 by omega) (by first | omega | (split <;> omega)) ?_
            refine wp_iload dX1_sweep_89 rfl ?_
            refine wp_lald dX1_sweep_91 (by omega) (sr_kr (b := 24) (by decide) (by omega)).1 (by rw [(sr_kr (b := 24) (by decide) (by omega)).2]; omega) (by first | omega | (split <;> omega)) ?_
            refine wp_lmul dX1_sweep_92 ?_
            refine wp_lload dX1_sweep_93 rfl ?_
            refine wp_lsub dX1_sweep_95 ?_
            refine wp_aload_n dX1_sweep_96 rfl rfl ?_
            refine wp_getJ dX1_sweep_97 fl_X1_11 (by decide) rfl rfl ?_
            refine wp_ldiv dX1_sweep_100 (by rw [hES]; exact hs0) ?_
            refine wp_last dX1_sweep_101 (by omega) (sr_kr (b := 24) (by decide) (by omega)).1 (by rw [(sr_kr (b := 24) (by decide) (by omega)).2]; omega) (by first | omega | (split <;> omega)) ?_
            refine wp_D (fun D165 eD165 => ?_)
            refine wp_iinc_n (b := 1) (lv' := [(0, .ref 14), (1, .int (nI p)), (2, .long ((Y p p))), (4, .int (nI i)), (5, .int (nI (j + 1))), (6, .long x164)]) dX1_sweep_102 rfl rfl (by decide) rfl ?_
            refine wp_goto (tgt := 32) dX1_sweep_105 (by decide) ?_
            subst ex164
            subst eD165
            refine wp_pick [0, 1, 2, 3, 4] rfl (ihj (by omega) _ (cl_in_set (by omega) (by omega) hE ?_))
            rw [cl_in_Y hE (by omega) (by omega) (Or.inl (by omega)), cl_in_Y hE (a := i) (c := p) (by omega) (by omega) (Or.inr (by unfold cl_sw0; rw [if_neg hip, if_pos rfl])), cl_in_Y hE (a := p) (c := j) (by omega) (by omega) (Or.inr (by unfold cl_sw0; rw [if_pos rfl])), hES]
            unfold cl_sw0; rw [if_neg hip, if_neg hjp]
    refine wp_iload dX1_sweep_22 rfl ?_
    refine wp_bipush (v := nI 8) dX1_sweep_24 rfl ?_
    refine wp_icmp_ge_n (tgt := 114) dX1_sweep_26 (by decide) (by first | omega | (split <;> omega)) (by first | omega | (split <;> omega)) (fun c166 => ?_) (fun c166 => ?_)
    · refine wp_aload_n dX1_sweep_114 rfl rfl ?_
      refine wp_getR (r := 24) dX1_sweep_115 fl_X1_24 (by decide) rfl rfl rfl ?_
      refine wp_iload_n dX1_sweep_118 rfl rfl ?_
      refine wp_aald dX1_sweep_119 (by decide) rfl (show _ < 8 by omega) (by first | omega | (split <;> omega)) ?_
      refine wp_iload_n dX1_sweep_120 rfl rfl ?_
      refine wp_aload_n dX1_sweep_121 rfl rfl ?_
      refine wp_getJ dX1_sweep_122 fl_X1_11 (by decide) rfl rfl ?_
      refine wp_lneg dX1_sweep_125 ?_
      refine wp_last dX1_sweep_126 (by omega) (sr_kr (b := 24) (by decide) (by omega)).1 (by rw [(sr_kr (b := 24) (by decide) (by omega)).2]; omega) (by first | omega | (split <;> omega)) ?_
      refine wp_D (fun D167 eD167 => ?_)
      refine wp_aload_n dX1_sweep_127 rfl rfl ?_
      refine wp_lload_n dX1_sweep_128 rfl rfl ?_
      refine wp_putJ dX1_sweep_129 fl_X1_11 (by decide) rfl rfl ?_
      refine wp_D (fun D168 eD168 => ?_)
      refine wp_vret dX1_sweep_132 rfl ⟨rfl, ?_⟩
      subst eD167 eD168
      have hie : i = 8 := by omega
      subst hie
      have hz := cl_in_end hE (fun a c h1 h2 h3 => absurd h1 (by omega))
      have hes := hES
      refine ⟨fun a c ha hc => ?_, ?_, hz.2.1, fun q h1 h2 => ?_⟩
      · rw [sr_sJ_2, if_neg (by omega), sr_sJ_2]
        by_cases e : 24 + 1 + a = 24 + 1 + p ∧ c = p
        · rw [if_pos e, hes]; unfold cl_sw; rw [if_pos (by omega), if_pos e.2]
        · rw [if_neg e, hz.1 a c ha hc]; unfold cl_sw cl_sw0
          by_cases e1 : a = p
          · rw [if_pos e1, if_pos e1, if_neg (by omega)]
          · rw [if_neg e1, if_neg e1]
      · rw [sr_sJ_2, if_pos ⟨rfl, rfl⟩]
      · funext k; rw [sr_sJ_2, if_neg (by omega), sr_sJ_2, if_neg (by omega)]; exact congrFun (hz.2.2 q h2) k
    · refine wp_iconst (v := nI 0) dX1_sweep_29 rfl ?_
      refine wp_istore (lv' := [(0, .ref 14), (1, .int (nI p)), (2, .long ((Y p p))), (4, .int (nI i)), (5, .int (nI 0))]) dX1_sweep_30 (by decide) rfl ?_
      exact hI (by omega) 0 (by omega) E hE
  refine wp_aload_n dX1_sweep_0 rfl rfl ?_
  refine wp_getJ dX1_sweep_1 fl_X1_11 (by decide) rfl rfl ?_
  refine wp_lconst (v := 0) dX1_sweep_4 rfl ?_
  refine wp_lcmp_gt (tgt := 10) dX1_sweep_5 dX1_sweep_6 (by decide) (fun c169 => ?_) (fun c169 => ?_)
  · refine wp_aload_n dX1_sweep_10 rfl rfl ?_
    refine wp_getR (r := 24) dX1_sweep_11 fl_X1_24 (by decide) rfl rfl rfl ?_
    refine wp_iload_n dX1_sweep_14 rfl rfl ?_
    refine wp_aald dX1_sweep_15 (by decide) rfl (show _ < 8 by omega) (by first | omega | (split <;> omega)) ?_
    refine wp_iload_n dX1_sweep_16 rfl rfl ?_
    refine wp_lald dX1_sweep_17 (by omega) (sr_kr (b := 24) (by decide) (by omega)).1 (by rw [(sr_kr (b := 24) (by decide) (by omega)).2]; omega) (by first | omega | (split <;> omega)) ?_
    rw [hY p p (by omega) (by omega)]
    refine wp_lstore_n (lv' := [(0, .ref 14), (1, .int (nI p)), (2, .long ((Y p p)))]) dX1_sweep_18 rfl (by decide) rfl ?_
    refine wp_iconst (v := nI 0) dX1_sweep_19 rfl ?_
    refine wp_istore (lv' := [(0, .ref 14), (1, .int (nI p)), (2, .long ((Y p p))), (4, .int (nI 0))]) dX1_sweep_20 (by decide) rfl ?_
    exact hL 0 (by omega) D (cl_in_0 hY fr.rf)
  · exact absurd (by rw [hs]; exact h0) c169
set_option maxHeartbeats 4000000 in
set_option maxRecDepth 100000 in
theorem c_X1_clear35 (g : sr_G) (D : sr_St)  : Con g M_X1_clear [.ref 35] D (fun a D' => a = none ∧ mx 36 D' (fun _ _ => 0) ∧ fr 36 D D') := by
  refine Con.of pn_X1_clear (Nat.le_of_ble_eq_true rfl) ?_
  show WP g M_X1_clear 0 [(0, .ref 35)] [] D _
  have hL : ∀ i, i ≤ 8 → ∀ E : sr_St, cl_in 36 D (fun _ _ => 0) (fun a c => D.2 (36 + 1 + a) c) i 0 E → WP g M_X1_clear 2 [(0, .ref 35), (1, .int (nI i))] [] E (fun a D' => a = none ∧ mx 36 D' (fun _ _ => 0) ∧ fr 36 D D') := by
    refine sr_up (fun i hi ih E hE => ?_)
    have hI : i < 8 → ∀ j, j ≤ 8 → ∀ E : sr_St, cl_in 36 D (fun _ _ => 0) (fun a c => D.2 (36 + 1 + a) c) i j E → WP g M_X1_clear 10 [(0, .ref 35), (1, .int (nI i)), (2, .int (nI j))] [] E (fun a D' => a = none ∧ mx 36 D' (fun _ _ => 0) ∧ fr 36 D D') := by
      intro hin
      refine sr_up (fun j hj ihj E hE => ?_)
      refine wp_iload_n dX1_clear_10 rfl rfl ?_
      refine wp_bipush (v := nI 8) dX1_clear_11 rfl ?_
      refine wp_icmp_ge_n (tgt := 31) dX1_clear_13 (by decide) (by first | omega | (split <;> omega)) (by first | omega | (split <;> omega)) (fun c170 => ?_) (fun c170 => ?_)
      · refine wp_iinc_n (b := 1) (lv' := [(0, .ref 35), (1, .int (nI (i + 1))), (2, .int (nI j))]) dX1_clear_31 rfl rfl (by decide) rfl ?_
        refine wp_goto (tgt := 2) dX1_clear_34 (by decide) ?_
        have hje : j = 8 := by omega
        subst hje
        exact wp_pick [0, 1] rfl (ih (by omega) E (cl_in_row hE (fun c h1 h2 => absurd h1 (by omega))))
      · refine wp_aload_n dX1_clear_16 rfl rfl ?_
        refine wp_getR (r := 36) dX1_clear_17 fl_X1_21 (by decide) rfl rfl rfl ?_
        refine wp_iload_n dX1_clear_20 rfl rfl ?_
        refine wp_aald dX1_clear_21 (by decide) rfl (show _ < 8 by omega) (by first | omega | (split <;> omega)) ?_
        refine wp_iload_n dX1_clear_22 rfl rfl ?_
        refine wp_lconst (v := 0) dX1_clear_23 rfl ?_
        refine wp_last dX1_clear_24 (by omega) (sr_kr (b := 36) (by decide) (by omega)).1 (by rw [(sr_kr (b := 36) (by decide) (by omega)).2]; omega) (by first | omega | (split <;> omega)) ?_
        refine wp_D (fun D171 eD171 => ?_)
        refine wp_iinc_n (b := 1) (lv' := [(0, .ref 35), (1, .int (nI i)), (2, .int (nI (j + 1)))]) dX1_clear_25 rfl rfl (by decide) rfl ?_
        refine wp_goto (tgt := 10) dX1_clear_28 (by decide) ?_
        subst eD171
        exact ihj (by omega) _ (cl_in_set (by omega) (by omega) hE rfl)
    refine wp_iload_n dX1_clear_2 rfl rfl ?_
    refine wp_bipush (v := nI 8) dX1_clear_3 rfl ?_
    refine wp_icmp_ge_n (tgt := 37) dX1_clear_5 (by decide) (by first | omega | (split <;> omega)) (by first | omega | (split <;> omega)) (fun c172 => ?_) (fun c172 => ?_)
    · refine wp_vret dX1_clear_37 rfl ⟨rfl, ?_⟩
      have hie : i = 8 := by omega
      subst hie
      exact cl_in_end hE (fun a c h1 h2 h3 => absurd h1 (by omega))
    · refine wp_iconst (v := nI 0) dX1_clear_8 rfl ?_
      refine wp_istore_n (lv' := [(0, .ref 35), (1, .int (nI i)), (2, .int (nI 0))]) dX1_clear_9 rfl (by decide) rfl ?_
      exact hI (by omega) 0 (by omega) E hE
  refine wp_iconst (v := nI 0) dX1_clear_0 rfl ?_
  refine wp_istore_n (lv' := [(0, .ref 35), (1, .int (nI 0))]) dX1_clear_1 rfl (by decide) rfl ?_
  exact hL 0 (by omega) D (cl_in_0 (fun i j _ _ => rfl) fr.rf)
set_option maxHeartbeats 4000000 in
set_option maxRecDepth 100000 in
theorem c_X1_include35 (g : sr_G) (D : sr_St) (t : Int32) (Y : cl_T) (hY : mx 36 D Y) : Con g M_X1_include [.ref 35, .int t] D (fun a D' => a = none ∧ mx 36 D' (fun a c => Y a c + t.toInt64 * (D.1 55 a).toInt64 * (D.1 55 c).toInt64) ∧ fr 36 D D') := by
  refine Con.of pn_X1_include (Nat.le_of_ble_eq_true rfl) ?_
  show WP g M_X1_include 0 [(0, .ref 35), (1, .int t)] [] D _
  have hL : ∀ i, i ≤ 8 → ∀ E : sr_St, cl_in 36 D (fun a c => Y a c + t.toInt64 * (D.1 55 a).toInt64 * (D.1 55 c).toInt64) (Y) i 0 E → WP g M_X1_include 2 [(0, .ref 35), (1, .int t), (2, .int (nI i))] [] E (fun a D' => a = none ∧ mx 36 D' (fun a c => Y a c + t.toInt64 * (D.1 55 a).toInt64 * (D.1 55 c).toInt64) ∧ fr 36 D D') := by
    refine sr_up (fun i hi ih E hE => ?_)
    have hI : i < 8 → ∀ j, j ≤ 8 → ∀ E : sr_St, cl_in 36 D (fun a c => Y a c + t.toInt64 * (D.1 55 a).toInt64 * (D.1 55 c).toInt64) (Y) i j E → WP g M_X1_include 10 [(0, .ref 35), (1, .int t), (2, .int (nI i)), (3, .int (nI j))] [] E (fun a D' => a = none ∧ mx 36 D' (fun a c => Y a c + t.toInt64 * (D.1 55 a).toInt64 * (D.1 55 c).toInt64) ∧ fr 36 D D') := by
      intro hin
      refine sr_up (fun j hj ihj E hE => ?_)
      refine wp_iload_n dX1_include_10 rfl rfl ?_
      refine wp_bipush (v := nI 8) dX1_include_11 rfl ?_
      refine wp_icmp_ge_n (tgt := 51) dX1_include_13 (by decide) (by first | omega | (split <;> omega)) (by first | omega | (split <;> omega)) (fun c173 => ?_) (fun c173 => ?_)
      · refine wp_iinc_n (b := 1) (lv' := [(0, .ref 35), (1, .int t), (2, .int (nI (i + 1))), (3, .int (nI j))]) dX1_include_51 rfl rfl (by decide) rfl ?_
        refine wp_goto (tgt := 2) dX1_include_54 (by decide) ?_
        have hje : j = 8 := by omega
        subst hje
        exact wp_pick [0, 1, 2] rfl (ih (by omega) E (cl_in_row hE (fun c h1 h2 => absurd h1 (by omega))))
      · refine wp_aload_n dX1_include_16 rfl rfl ?_
        refine wp_getR (r := 36) dX1_include_17 fl_X1_21 (by decide) rfl rfl rfl ?_
        refine wp_iload_n dX1_include_20 rfl rfl ?_
        refine wp_aald dX1_include_21 (by decide) rfl (show _ < 8 by omega) (by first | omega | (split <;> omega)) ?_
        refine wp_iload_n dX1_include_22 rfl rfl ?_
        refine wp_dup2 dX1_include_23 rfl rfl ?_
        refine wp_lald dX1_include_24 (by omega) (sr_kr (b := 36) (by decide) (by omega)).1 (by rw [(sr_kr (b := 36) (by decide) (by omega)).2]; omega) (by first | omega | (split <;> omega)) ?_
        refine wp_iload_n dX1_include_25 rfl rfl ?_
        refine wp_i2l dX1_include_26 ?_
        refine wp_aload_n dX1_include_27 rfl rfl ?_
        refine wp_getR (r := 55) dX1_include_28 fl_X1_31 (by decide) rfl rfl rfl ?_
        refine wp_iload_n dX1_include_31 rfl rfl ?_
        refine wp_iald dX1_include_32 (by decide) rfl (show _ < 8 by omega) (by first | omega | (split <;> omega)) ?_
        refine wp_i2l dX1_include_33 ?_
        refine wp_lmul dX1_include_34 ?_
        refine wp_aload_n dX1_include_35 rfl rfl ?_
        refine wp_getR (r := 55) dX1_include_36 fl_X1_31 (by decide) rfl rfl rfl ?_
        refine wp_iload_n dX1_include_39 rfl rfl ?_
        refine wp_iald dX1_include_40 (by decide) rfl (show _ < 8 by omega) (by first | omega | (split <;> omega)) ?_
        refine wp_i2l dX1_include_41 ?_
        refine wp_lmul dX1_include_42 ?_
        refine wp_ladd dX1_include_43 ?_
        refine wp_last dX1_include_44 (by omega) (sr_kr (b := 36) (by decide) (by omega)).1 (by rw [(sr_kr (b := 36) (by decide) (by omega)).2]; omega) (by first | omega | (split <;> omega)) ?_
        refine wp_D (fun D174 eD174 => ?_)
        refine wp_iinc_n (b := 1) (lv' := [(0, .ref 35), (1, .int t), (2, .int (nI i)), (3, .int (nI (j + 1)))]) dX1_include_45 rfl rfl (by decide) rfl ?_
        refine wp_goto (tgt := 10) dX1_include_48 (by decide) ?_
        subst eD174
        refine ihj (by omega) _ (cl_in_set (by omega) (by omega) hE ?_)
        rw [cl_in_Y hE (by omega) (by omega) (Or.inl (by omega)), hE.2.1]
    refine wp_iload_n dX1_include_2 rfl rfl ?_
    refine wp_bipush (v := nI 8) dX1_include_3 rfl ?_
    refine wp_icmp_ge_n (tgt := 57) dX1_include_5 (by decide) (by first | omega | (split <;> omega)) (by first | omega | (split <;> omega)) (fun c175 => ?_) (fun c175 => ?_)
    · refine wp_vret dX1_include_57 rfl ⟨rfl, ?_⟩
      have hie : i = 8 := by omega
      subst hie
      exact cl_in_end hE (fun a c h1 h2 h3 => absurd h1 (by omega))
    · refine wp_iconst (v := nI 0) dX1_include_8 rfl ?_
      refine wp_istore_n (lv' := [(0, .ref 35), (1, .int t), (2, .int (nI i)), (3, .int (nI 0))]) dX1_include_9 rfl (by decide) rfl ?_
      exact hI (by omega) 0 (by omega) E hE
  refine wp_iconst (v := nI 0) dX1_include_0 rfl ?_
  refine wp_istore_n (lv' := [(0, .ref 35), (1, .int t), (2, .int (nI 0))]) dX1_include_1 rfl (by decide) rfl ?_
  exact hL 0 (by omega) D (cl_in_0 hY fr.rf)
set_option maxHeartbeats 4000000 in
set_option maxRecDepth 100000 in
theorem c_X1_load35 (g : sr_G) (D : sr_St) (a b : Nat) (ha : a < 64) (hb : b < 64) (s m : Int32) : Con g M_X1_load [.ref 35, .int (nI a), .int (nI b), .int s, .int m] D (fun q D' => q = none ∧ (∀ k, k < 8 → D'.1 55 k = cl_form a b s m k) ∧ cl_fa 55 D D') := by
  refine Con.of pn_X1_load (Nat.le_of_ble_eq_true rfl) ?_
  show WP g M_X1_load 0 [(0, .ref 35), (1, .int (nI a)), (2, .int (nI b)), (3, .int s), (4, .int m)] [] D _
  have hL : ∀ k, k ≤ 6 → ∀ E : sr_St, (∀ z, z < k → E.1 55 z = cl_form a b s m z) → cl_fa 55 D E → WP g M_X1_load 3 [(0, .ref 35), (1, .int (nI a)), (2, .int (nI b)), (3, .int s), (4, .int m), (5, .int (nI k))] [] E (fun q D' => q = none ∧ (∀ k, k < 8 → D'.1 55 k = cl_form a b s m k) ∧ cl_fa 55 D D') := by
    refine sr_up (fun k hk ih E hE hF => ?_)
    refine wp_iload dX1_load_3 rfl ?_
    refine wp_bipush (v := nI 6) dX1_load_5 rfl ?_
    refine wp_icmp_ge_n (tgt := 36) dX1_load_7 (by decide) (by first | omega | (split <;> omega)) (by first | omega | (split <;> omega)) (fun c176 => ?_) (fun c176 => ?_)
    · refine wp_aload_n dX1_load_36 rfl rfl ?_
      refine wp_getR (r := 55) dX1_load_37 fl_X1_31 (by decide) rfl rfl rfl ?_
      refine wp_bipush (v := nI 6) dX1_load_40 rfl ?_
      refine wp_iload_n dX1_load_42 rfl rfl ?_
      refine wp_iast dX1_load_43 (by decide) rfl (by decide) (by first | omega | (split <;> omega)) ?_
      refine wp_D (fun D177 eD177 => ?_)
      refine wp_aload_n dX1_load_44 rfl rfl ?_
      refine wp_getR (r := 55) dX1_load_45 fl_X1_31 (by decide) rfl rfl rfl ?_
      refine wp_bipush (v := nI 7) dX1_load_48 rfl ?_
      refine wp_iload dX1_load_50 rfl ?_
      refine wp_iast dX1_load_52 (by decide) rfl (by decide) (by first | omega | (split <;> omega)) ?_
      refine wp_D (fun D178 eD178 => ?_)
      refine wp_vret dX1_load_53 rfl ⟨rfl, ?_⟩
      subst eD177 eD178
      have hk6 : k = 6 := by omega
      subst hk6
      refine ⟨fun z hz => ?_, hF.1, fun o ho => ?_⟩
      · by_cases e7 : z = 7
        · subst e7; rw [sr_sI_1, if_pos ⟨rfl, rfl⟩]; rfl
        · rw [sr_sI_1, if_neg (fun h => e7 h.2)]; by_cases e6 : z = 6
          · subst e6; rw [sr_sI_1, if_pos ⟨rfl, rfl⟩]; rfl
          · rw [sr_sI_1, if_neg (fun h => e6 h.2)]; exact hE z (by omega)
      · funext z; rw [sr_sI_1, if_neg (fun h => ho h.1), sr_sI_1, if_neg (fun h => ho h.1)]; exact congrFun (hF.2 o ho) z
    · refine wp_aload_n dX1_load_10 rfl rfl ?_
      refine wp_getR (r := 55) dX1_load_11 fl_X1_31 (by decide) rfl rfl rfl ?_
      refine wp_iload dX1_load_14 rfl ?_
      refine wp_iload_n dX1_load_16 rfl rfl ?_
      refine wp_iload dX1_load_17 rfl ?_
      refine wp_ishr_n dX1_load_19 (by omega) (Nat.lt_trans ha (by decide)) ?_
      refine wp_iconst (v := nI 1) dX1_load_20 rfl ?_
      refine wp_iand_n dX1_load_21 ?_
      refine wp_iload_n dX1_load_22 rfl rfl ?_
      refine wp_iload dX1_load_23 rfl ?_
      refine wp_ishr_n dX1_load_25 (by omega) (Nat.lt_trans hb (by decide)) ?_
      refine wp_iconst (v := nI 1) dX1_load_26 rfl ?_
      refine wp_iand_n dX1_load_27 ?_
      refine wp_isub dX1_load_28 ?_
      refine wp_iast dX1_load_29 (by decide) rfl (show _ < 8 by omega) (by first | omega | (split <;> omega)) ?_
      refine wp_D (fun D179 eD179 => ?_)
      refine wp_iinc_n (b := 1) (lv' := [(0, .ref 35), (1, .int (nI a)), (2, .int (nI b)), (3, .int s), (4, .int m), (5, .int (nI (k + 1)))]) dX1_load_30 rfl rfl (by decide) rfl ?_
      refine wp_goto (tgt := 3) dX1_load_33 (by decide) ?_
      subst eD179
      refine ih (by omega) _ (fun z hz => ?_) ⟨hF.1, fun o ho => ?_⟩
      · rw [sr_sI_1]; by_cases e : z = k
        · rw [if_pos ⟨rfl, e⟩, e]; unfold cl_form; rw [if_pos (by omega)]
        · rw [if_neg (fun h => e h.2)]; exact hE z (by omega)
      · funext z; rw [sr_sI_1, if_neg (fun h => ho h.1)]; exact congrFun (hF.2 o ho) z
  refine wp_iconst (v := nI 0) dX1_load_0 rfl ?_
  refine wp_istore (lv' := [(0, .ref 35), (1, .int (nI a)), (2, .int (nI b)), (3, .int s), (4, .int m), (5, .int (nI 0))]) dX1_load_1 (by decide) rfl ?_
  exact hL 0 (by omega) D (fun z hz => absurd hz (by omega)) ⟨rfl, fun _ _ => rfl⟩
set_option maxHeartbeats 4000000 in
set_option maxRecDepth 100000 in
theorem c_X1_sweep35 (g : sr_G) (D : sr_St) (p : Nat) (hp : p < 7) (s : Int64) (hs : D.2 35 0 = s) (h0 : 0 < s) (Y : cl_T) (hY : mx 45 D Y) : Con g M_X1_sweep [.ref 35, .int (nI p)] D (fun q D' => q = none ∧ mx 45 D' (cl_sw p s Y) ∧ D'.2 35 0 = Y p p ∧ cl_ft 35 45 D D') := by
  refine Con.of pn_X1_sweep (Nat.le_of_ble_eq_true rfl) ?_
  show WP g M_X1_sweep 0 [(0, .ref 35), (1, .int (nI p))] [] D _
  have hs0 : ¬ s = 0 := fun z => by rw [z] at h0; exact absurd h0 (by decide)
  have hL : ∀ i, i ≤ 8 → ∀ E : sr_St, cl_in 45 D (cl_sw0 p s Y) (Y) i 0 E → WP g M_X1_sweep 22 [(0, .ref 35), (1, .int (nI p)), (2, .long ((Y p p))), (4, .int (nI i))] [] E (fun q D' => q = none ∧ mx 45 D' (cl_sw p s Y) ∧ D'.2 35 0 = Y p p ∧ cl_ft 35 45 D D') := by
    refine sr_up (fun i hi ih E hE => ?_)
    have hES : E.2 35 0 = s := by rw [hE.2.2 35 (by omega)]; exact hs
    have hI : i < 8 → ∀ j, j ≤ 8 → ∀ E : sr_St, cl_in 45 D (cl_sw0 p s Y) (Y) i j E → WP g M_X1_sweep 32 [(0, .ref 35), (1, .int (nI p)), (2, .long ((Y p p))), (4, .int (nI i)), (5, .int (nI j))] [] E (fun q D' => q = none ∧ mx 45 D' (cl_sw p s Y) ∧ D'.2 35 0 = Y p p ∧ cl_ft 35 45 D D') := by
      intro hin
      refine sr_up (fun j hj ihj E hE => ?_)
      have hES : E.2 35 0 = s := by rw [hE.2.2 35 (by omega)]; exact hs
      refine wp_iload dX1_sweep_32 rfl ?_
      refine wp_bipush (v := nI 8) dX1_sweep_34 rfl ?_
      refine wp_icmp_ge_n (tgt := 108) dX1_sweep_36 (by decide) (by first | omega | (split <;> omega)) (by first | omega | (split <;> omega)) (fun c180 => ?_) (fun c180 => ?_)
      · refine wp_iinc_n (b := 1) (lv' := [(0, .ref 35), (1, .int (nI p)), (2, .long ((Y p p))), (4, .int (nI (i + 1))), (5, .int (nI j))]) dX1_sweep_108 rfl rfl (by decide) rfl ?_
        refine wp_goto (tgt := 22) dX1_sweep_111 (by decide) ?_
        have hje : j = 8 := by omega
        subst hje
        exact wp_pick [0, 1, 2, 3] rfl (ih (by omega) E (cl_in_row hE (fun c h1 h2 => absurd h1 (by omega))))
      · refine wp_iload dX1_sweep_39 rfl ?_
        refine wp_iload_n dX1_sweep_41 rfl rfl ?_
        refine wp_icmp_eq_n (tgt := 102) dX1_sweep_42 (by decide) (by first | omega | (split <;> omega)) (by first | omega | (split <;> omega)) (fun c181 => ?_) (fun c181 => ?_)
        · have hip := c181
          refine wp_iinc_n (b := 1) (lv' := [(0, .ref 35), (1, .int (nI p)), (2, .long ((Y p p))), (4, .int (nI i)), (5, .int (nI (j + 1)))]) dX1_sweep_102 rfl rfl (by decide) rfl ?_
          refine wp_goto (tgt := 32) dX1_sweep_105 (by decide) ?_
          refine ihj (by omega) _ (cl_in_skip hE ?_)
          unfold cl_sw0
          rw [if_pos hip]
        · have hip := c181
          refine wp_iload dX1_sweep_45 rfl ?_
          refine wp_iload_n dX1_sweep_47 rfl rfl ?_
          refine wp_icmp_eq_n (tgt := 102) dX1_sweep_48 (by decide) (by first | omega | (split <;> omega)) (by first | omega | (split <;> omega)) (fun c182 => ?_) (fun c182 => ?_)
          · have hjp := c182
            refine wp_iinc_n (b := 1) (lv' := [(0, .ref 35), (1, .int (nI p)), (2, .long ((Y p p))), (4, .int (nI i)), (5, .int (nI (j + 1)))]) dX1_sweep_102 rfl rfl (by decide) rfl ?_
            refine wp_goto (tgt := 32) dX1_sweep_105 (by decide) ?_
            refine ihj (by omega) _ (cl_in_skip hE ?_)
            unfold cl_sw0
            rw [if_neg hip, if_pos hjp]
          · have hjp := c182
            refine wp_aload_n dX1_sweep_51 rfl rfl ?_
            refine wp_getR (r := 45) dX1_sweep_52 fl_X1_24 (by decide) rfl rfl rfl ?_
            refine wp_iload dX1_sweep_55 rfl ?_
            refine wp_aald dX1_sweep_57 (by decide) rfl (show _ < 8 by omega) (by first | omega | (split <;> omega)) ?_
            refine wp_iload_n dX1_sweep_58 rfl rfl ?_
            refine wp_lald dX1_sweep_59 (by omega) (sr_kr (b := 45) (by decide) (by omega)).1 (by rw [(sr_kr (b := 45) (by decide) (by omega)).2]; omega) (by first | omega | (split <;> omega)) ?_
            refine wp_aload_n dX1_sweep_60 rfl rfl ?_
            refine wp_getR (r := 45) dX1_sweep_61 fl_X1_24 (by decide) rfl rfl rfl ?_
            refine wp_iload_n dX1_sweep_64 rfl rfl ?_
            refine wp_aald dX1_sweep_65 (by decide) rfl (show _ < 8 by omega) (by first | omega | (split <;> omega)) ?_
            refine wp_iload dX1_sweep_66 rfl ?_
            refine wp_lald dX1_sweep_68 (by omega) (sr_kr (b := 45) (by decide) (by omega)).1 (by rw [(sr_kr (b := 45) (by decide) (by omega)).2]; omega) (by first | omega | (split <;> omega)) ?_
            refine wp_lmul dX1_sweep_69 ?_
            refine wp_topl (fun x183 ex183 => ?_)
            refine wp_lstore (lv' := [(0, .ref 35), (1, .int (nI p)), (2, .long ((Y p p))), (4, .int (nI i)), (5, .int (nI j)), (6, .long x183)]) dX1_sweep_70 (by decide) rfl ?_
            refine wp_aload_n dX1_sweep_72 rfl rfl ?_
            refine wp_getR (r := 45) dX1_sweep_73 fl_X1_24 (by decide) rfl rfl rfl ?_
            refine wp_iload dX1_sweep_76 rfl ?_
            refine wp_aald dX1_sweep_78 (by decide) rfl (show _ < 8 by omega) (by first | omega | (split <;> omega)) ?_
            refine wp_iload dX1_sweep_79 rfl ?_
            refine wp_lload_n dX1_sweep_81 rfl rfl ?_
            refine wp_aload_n dX1_sweep_82 rfl rfl ?_
            refine wp_getR (r := 45) dX1_sweep_83 fl_X1_24 (by decide) rfl rfl rfl ?_
            refine wp_iload dX1_sweep_86 rfl ?_
            refine wp_aald dX1_sweep_88 (by decide) rfl (show _ < 8 by omega) (by first | omega | (split <;> omega)) ?_
            refine wp_iload dX1_sweep_89 rfl ?_
            refine wp_lald dX1_sweep_91 (by omega) (sr_kr (b := 45) (by decide) (by omega)).1 (by rw [(sr_kr (b := 45) (by decide) (by omega)).2]; omega) (by first | omega | (split <;> omega)) ?_
            refine wp_lmul dX1_sweep_92 ?_
            refine wp_lload dX1_sweep_93 rfl ?_
            refine wp_lsub dX1_sweep_95 ?_
            refine wp_aload_n dX1_sweep_96 rfl rfl ?_
            refine wp_getJ dX1_sweep_97 fl_X1_11 (by decide) rfl rfl ?_
            refine wp_ldiv dX1_sweep_100 (by rw [hES]; exact hs0) ?_
            refine wp_last dX1_sweep_101 (by omega) (sr_kr (b := 45) (by decide) (by omega)).1 (by rw [(sr_kr (b := 45) (by decide) (by omega)).2]; omega) (by first | omega | (split <;> omega)) ?_
            refine wp_D (fun D184 eD184 => ?_)
            refine wp_iinc_n (b := 1) (lv' := [(0, .ref 35), (1, .int (nI p)), (2, .long ((Y p p))), (4, .int (nI i)), (5, .int (nI (j + 1))), (6, .long x183)]) dX1_sweep_102 rfl rfl (by decide) rfl ?_
            refine wp_goto (tgt := 32) dX1_sweep_105 (by decide) ?_
            subst ex183
            subst eD184
            refine wp_pick [0, 1, 2, 3, 4] rfl (ihj (by omega) _ (cl_in_set (by omega) (by omega) hE ?_))
            rw [cl_in_Y hE (by omega) (by omega) (Or.inl (by omega)), cl_in_Y hE (a := i) (c := p) (by omega) (by omega) (Or.inr (by unfold cl_sw0; rw [if_neg hip, if_pos rfl])), cl_in_Y hE (a := p) (c := j) (by omega) (by omega) (Or.inr (by unfold cl_sw0; rw [if_pos rfl])), hES]
            unfold cl_sw0; rw [if_neg hip, if_neg hjp]
    refine wp_iload dX1_sweep_22 rfl ?_
    refine wp_bipush (v := nI 8) dX1_sweep_24 rfl ?_
    refine wp_icmp_ge_n (tgt := 114) dX1_sweep_26 (by decide) (by first | omega | (split <;> omega)) (by first | omega | (split <;> omega)) (fun c185 => ?_) (fun c185 => ?_)
    · refine wp_aload_n dX1_sweep_114 rfl rfl ?_
      refine wp_getR (r := 45) dX1_sweep_115 fl_X1_24 (by decide) rfl rfl rfl ?_
      refine wp_iload_n dX1_sweep_118 rfl rfl ?_
      refine wp_aald dX1_sweep_119 (by decide) rfl (show _ < 8 by omega) (by first | omega | (split <;> omega)) ?_
      refine wp_iload_n dX1_sweep_120 rfl rfl ?_
      refine wp_aload_n dX1_sweep_121 rfl rfl ?_
      refine wp_getJ dX1_sweep_122 fl_X1_11 (by decide) rfl rfl ?_
      refine wp_lneg dX1_sweep_125 ?_
      refine wp_last dX1_sweep_126 (by omega) (sr_kr (b := 45) (by decide) (by omega)).1 (by rw [(sr_kr (b := 45) (by decide) (by omega)).2]; omega) (by first | omega | (split <;> omega)) ?_
      refine wp_D (fun D186 eD186 => ?_)
      refine wp_aload_n dX1_sweep_127 rfl rfl ?_
      refine wp_lload_n dX1_sweep_128 rfl rfl ?_
      refine wp_putJ dX1_sweep_129 fl_X1_11 (by decide) rfl rfl ?_
      refine wp_D (fun D187 eD187 => ?_)
      refine wp_vret dX1_sweep_132 rfl ⟨rfl, ?_⟩
      subst eD186 eD187
      have hie : i = 8 := by omega
      subst hie
      have hz := cl_in_end hE (fun a c h1 h2 h3 => absurd h1 (by omega))
      have hes := hES
      refine ⟨fun a c ha hc => ?_, ?_, hz.2.1, fun q h1 h2 => ?_⟩
      · rw [sr_sJ_2, if_neg (by omega), sr_sJ_2]
        by_cases e : 45 + 1 + a = 45 + 1 + p ∧ c = p
        · rw [if_pos e, hes]; unfold cl_sw; rw [if_pos (by omega), if_pos e.2]
        · rw [if_neg e, hz.1 a c ha hc]; unfold cl_sw cl_sw0
          by_cases e1 : a = p
          · rw [if_pos e1, if_pos e1, if_neg (by omega)]
          · rw [if_neg e1, if_neg e1]
      · rw [sr_sJ_2, if_pos ⟨rfl, rfl⟩]
      · funext k; rw [sr_sJ_2, if_neg (by omega), sr_sJ_2, if_neg (by omega)]; exact congrFun (hz.2.2 q h2) k
    · refine wp_iconst (v := nI 0) dX1_sweep_29 rfl ?_
      refine wp_istore (lv' := [(0, .ref 35), (1, .int (nI p)), (2, .long ((Y p p))), (4, .int (nI i)), (5, .int (nI 0))]) dX1_sweep_30 (by decide) rfl ?_
      exact hI (by omega) 0 (by omega) E hE
  refine wp_aload_n dX1_sweep_0 rfl rfl ?_
  refine wp_getJ dX1_sweep_1 fl_X1_11 (by decide) rfl rfl ?_
  refine wp_lconst (v := 0) dX1_sweep_4 rfl ?_
  refine wp_lcmp_gt (tgt := 10) dX1_sweep_5 dX1_sweep_6 (by decide) (fun c188 => ?_) (fun c188 => ?_)
  · refine wp_aload_n dX1_sweep_10 rfl rfl ?_
    refine wp_getR (r := 45) dX1_sweep_11 fl_X1_24 (by decide) rfl rfl rfl ?_
    refine wp_iload_n dX1_sweep_14 rfl rfl ?_
    refine wp_aald dX1_sweep_15 (by decide) rfl (show _ < 8 by omega) (by first | omega | (split <;> omega)) ?_
    refine wp_iload_n dX1_sweep_16 rfl rfl ?_
    refine wp_lald dX1_sweep_17 (by omega) (sr_kr (b := 45) (by decide) (by omega)).1 (by rw [(sr_kr (b := 45) (by decide) (by omega)).2]; omega) (by first | omega | (split <;> omega)) ?_
    rw [hY p p (by omega) (by omega)]
    refine wp_lstore_n (lv' := [(0, .ref 35), (1, .int (nI p)), (2, .long ((Y p p)))]) dX1_sweep_18 rfl (by decide) rfl ?_
    refine wp_iconst (v := nI 0) dX1_sweep_19 rfl ?_
    refine wp_istore (lv' := [(0, .ref 35), (1, .int (nI p)), (2, .long ((Y p p))), (4, .int (nI 0))]) dX1_sweep_20 (by decide) rfl ?_
    exact hL 0 (by omega) D (cl_in_0 hY fr.rf)
  · exact absurd (by rw [hs]; exact h0) c188
