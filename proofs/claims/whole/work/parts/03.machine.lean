/-! ===== THE WORLD: 74 cells whose shape never changes once they are made; what changes is the numbers in them ===== -/
/-- the numbers: ints and longs, by the cell's number and the slot -/
abbrev sr_St : Type := (Nat → Nat → Int32) × (Nat → Nat → Int64)
/-- launch, classes' numbers, slots, the addresses of the cells, the array classes -/
abbrev sr_G : Type := Launch × (Nat → ClassId) × (Nat → Nat → Nat) × (Nat → Nat) × (Nat → ClassId)
/-- a method: name, code, locals, what it returns, frames and words that its callees take -/
abbrev sr_Md : Type := MethodName × ByteArray × Nat × Option FieldType × Nat × Nat
/-- the kind of each cell: 0 to 7 the classes of vwCl, 8 byte[], 9 int[], 10 long[], 11 boolean[], 12 long[][] -/
def sr_kinds : List Nat := [6, 3, 9, 9, 9, 9, 5, 4, 8, 3, 9, 9, 9, 9, 1, 12, 10, 10, 10, 10, 10, 10, 10, 10, 12, 10, 10, 10, 10, 10, 10, 10, 10, 11, 9, 1, 12, 10, 10, 10, 10, 10, 10, 10, 10, 12, 10, 10, 10, 10, 10, 10, 10, 10, 11, 9, 2, 2, 2, 0, 2, 9, 9, 7, 9, 9, 8, 9, 10, 10, 10, 10, 9, 10]
def sr_lens : List Nat := [0, 0, 12, 12, 12, 12, 0, 0, 300, 0, 12, 12, 12, 12, 0, 8, 8, 8, 8, 8, 8, 8, 8, 8, 8, 8, 8, 8, 8, 8, 8, 8, 8, 7, 8, 0, 8, 8, 8, 8, 8, 8, 8, 8, 8, 8, 8, 8, 8, 8, 8, 8, 8, 8, 7, 8, 0, 0, 0, 0, 0, 45, 45, 0, 60, 60, 300, 7, 49, 7, 56, 7, 7, 1]
def sr_kind (o : Nat) : Nat := sr_kinds.getD o 99
def sr_len (o : Nat) : Nat := sr_lens.getD o 0
/-- which cell a field names -/
def sr_refs : Nat → List Nat
  | 0 => [1, 6, 14, 35, 56, 57, 58, 59, 61, 62]
  | 1 => [0, 0, 0, 2, 3, 4, 5]
  | 6 => [0, 0, 7, 9]
  | 7 => [0, 0, 0, 0, 0, 8]
  | 9 => [0, 0, 0, 10, 11, 12, 13]
  | 14 => [0, 0, 15, 24, 33, 34]
  | 35 => [0, 0, 36, 45, 54, 55]
  | 59 => [0, 0, 0, 60]
  | 63 => [0, 64, 65, 66, 0, 0, 0, 0, 0, 0, 67, 68, 69, 70, 71, 72]
  | _ => []
def sr_ref (o k : Nat) : Nat := (sr_refs o).getD k 0
/-- the fields of a class: 0 an int, 1 a long, 2 a cell -/
def sr_ty : Nat → List Nat
  | 0 => [0, 0, 0, 2]
  | 1 => [1, 0, 2, 2, 2, 2]
  | 2 => [1, 1]
  | 3 => [0, 0, 0, 2, 2, 2, 2]
  | 4 => [0, 0, 0, 0, 0, 2]
  | 5 => [0, 0, 2, 2, 0, 0]
  | 6 => [2, 2, 2, 2, 2, 2, 2, 2, 2, 2, 0, 0]
  | 7 => [0, 2, 2, 2, 0, 0, 0, 0, 0, 0, 2, 2, 2, 2, 2, 2, 0, 1, 0, 1, 1, 0, 0, 0, 1, 1]
  | _ => []
def sr_fv (ad : Nat → Nat) (D : sr_St) (o k : Nat) (t : Nat) : Value := match t with
  | 0 => .int (D.1 o k)
  | 1 => .long (D.2 o k)
  | _ => .ref (ad (sr_ref o k))
def sr_fs (ad : Nat → Nat) (D : sr_St) (o : Nat) : Nat → List Nat → List Value
  | _, [] => []
  | k, t :: ts => sr_fv ad D o k t :: sr_fs ad D o (k + 1) ts
theorem sr_fs_len (ad : Nat → Nat) (D : sr_St) (o : Nat) (ts : List Nat) : ∀ k, (sr_fs ad D o k ts).length = ts.length := by
  induction ts with
  | nil => intro k; rfl
  | cons t ts ih => intro k; simp [sr_fs, ih]
theorem sr_fs_get (ad : Nat → Nat) (D : sr_St) (o : Nat) (ts : List Nat) : ∀ (k j : Nat), (sr_fs ad D o k ts)[j]? = (ts[j]?).map (fun t => sr_fv ad D o (k + j) t) := by
  induction ts with
  | nil => intro k j; simp [sr_fs]
  | cons t ts ih =>
    intro k j
    cases j with
    | zero => simp [sr_fs]
    | succ j => simp only [sr_fs, List.getElem?_cons_succ, ih]; rw [show k + 1 + j = k + (j + 1) by omega]
def sr_cell (ad : Nat → Nat) (cy : Nat → ClassId) (D : sr_St) (o : Nat) : va_E :=
  if sr_kind o < 8 then .inr (sr_kind o, sr_fs ad D o 0 (sr_ty (sr_kind o)))
  else if sr_kind o = 10 then .inl (cy 10, sr_len o, .inr (.inl (D.2 o)))
  else if sr_kind o = 12 then .inl (cy 12, sr_len o, .inr (.inr (.inr (.inr (fun i => some (ad (o + 1 + i)))))))
  else .inl (cy (sr_kind o), sr_len o, .inl (D.1 o))
def sr_W (ad : Nat → Nat) (cy : Nat → ClassId) (D : sr_St) : va_W := (List.range 74).map (fun o => (ad o, sr_cell ad cy D o))
theorem sr_W_get {ad : Nat → Nat} {cy : Nat → ClassId} {D : sr_St} {o : Nat} (ho : o < 74) : (sr_W ad cy D)[o]? = some (ad o, sr_cell ad cy D o) := by
  simp [sr_W, ho]
theorem sr_W_len {ad : Nat → Nat} {cy : Nat → ClassId} {D : sr_St} : (sr_W ad cy D).length = 74 := by simp [sr_W]
def sr_inj (ad : Nat → Nat) : Prop := ∀ i j : Nat, i < 74 → j < 74 → ad i = ad j → i = j
def sr_A (ad : Nat → Nat) : Nat → Prop := fun q => ∃ o, o < 74 ∧ q = ad o
theorem sr_W_D {ad : Nat → Nat} {cy : Nat → ClassId} {D : sr_St} (h : sr_inj ad) : va_D (sr_A ad) (sr_W ad cy D) := by
  have lt : ∀ (k : Nat) (q : Nat × va_E), (sr_W ad cy D)[k]? = some q → k < 74 ∧ q.1 = ad k := by
    intro k q hk
    have hl : k < 74 := by
      have := (List.getElem?_eq_some_iff.mp hk).1
      rwa [sr_W_len] at this
    rw [sr_W_get hl] at hk
    exact ⟨hl, by rw [← Option.some.inj hk]⟩
  refine ⟨fun i j p q hp hq e => ?_, fun k q hk => ⟨k, lt k q hk⟩⟩
  obtain ⟨h1, h2⟩ := lt i p hp
  obtain ⟨h3, h4⟩ := lt j q hq
  exact h i j h1 h3 (by rw [← h2, ← h4]; exact e)
/-- one number changes -/
def sr_sI (D : sr_St) (o k : Nat) (v : Int32) : sr_St := (fun p => if p = o then upd (D.1 o) k v else D.1 p, D.2)
def sr_sJ (D : sr_St) (o k : Nat) (v : Int64) : sr_St := (D.1, fun p => if p = o then vp_updL (D.2 o) k v else D.2 p)
theorem sr_sI_1 (D : sr_St) (o k : Nat) (v : Int32) (p j : Nat) : (sr_sI D o k v).1 p j = if p = o ∧ j = k then v else D.1 p j := by
  unfold sr_sI upd
  by_cases h : p = o <;> by_cases h2 : j = k <;> simp [h, h2]
theorem sr_sI_2 (D : sr_St) (o k : Nat) (v : Int32) : (sr_sI D o k v).2 = D.2 := rfl
theorem sr_sJ_1 (D : sr_St) (o k : Nat) (v : Int64) : (sr_sJ D o k v).1 = D.1 := rfl
theorem sr_sJ_2 (D : sr_St) (o k : Nat) (v : Int64) (p j : Nat) : (sr_sJ D o k v).2 p j = if p = o ∧ j = k then v else D.2 p j := by
  unfold sr_sJ vp_updL
  by_cases h : p = o <;> by_cases h2 : j = k <;> simp [h, h2]
theorem sr_sI_same (D : sr_St) (o k : Nat) (v : Int32) : (sr_sI D o k v).1 o k = v := by simp [sr_sI_1]
theorem sr_sJ_same (D : sr_St) (o k : Nat) (v : Int64) : (sr_sJ D o k v).2 o k = v := by simp [sr_sJ_2]
theorem sr_fs_off {ad : Nat → Nat} {D D' : sr_St} {o : Nat} (h1 : D'.1 o = D.1 o) (h2 : D'.2 o = D.2 o) (ts : List Nat) : ∀ k, sr_fs ad D' o k ts = sr_fs ad D o k ts := by
  induction ts with
  | nil => intro k; rfl
  | cons t ts ih =>
    intro k
    simp only [sr_fs, ih, sr_fv, h1, h2]
theorem sr_cell_off {ad : Nat → Nat} {cy : Nat → ClassId} {D D' : sr_St} {o : Nat} (h1 : D'.1 o = D.1 o) (h2 : D'.2 o = D.2 o) : sr_cell ad cy D' o = sr_cell ad cy D o := by
  unfold sr_cell
  rw [sr_fs_off h1 h2, h1, h2]
theorem sr_W_set {ad : Nat → Nat} {cy : Nat → ClassId} {D D' : sr_St} {o : Nat} {x : va_E} (h1 : ∀ p, p ≠ o → D'.1 p = D.1 p) (h2 : ∀ p, p ≠ o → D'.2 p = D.2 p) (hx : sr_cell ad cy D' o = x) : (sr_W ad cy D).set o (ad o, x) = sr_W ad cy D' := by
  apply List.ext_getElem?
  intro i
  by_cases hi : i < 74
  · rw [sr_W_get hi]
    by_cases e : i = o
    · subst e
      rw [List.getElem?_set_self (by rw [sr_W_len]; exact hi), hx]
    · rw [List.getElem?_set_ne (fun q => e q.symm), sr_W_get hi, sr_cell_off (h1 i e) (h2 i e)]
  · rw [List.getElem?_eq_none (by simp [sr_W_len]; omega), List.getElem?_eq_none (by simp [sr_W_len]; omega)]
theorem sr_fs_setI {ad : Nat → Nat} {D : sr_St} {o j : Nat} {v : Int32} (ts : List Nat) : ∀ k, ts[j]? = some 0 → sr_fs ad (sr_sI D o (k + j) v) o k ts = (sr_fs ad D o k ts).set j (.int v) := by
  intro k h
  apply List.ext_getElem?
  intro i
  have hl : j < ts.length := (List.getElem?_eq_some_iff.mp h).1
  rw [sr_fs_get]
  by_cases e : i = j
  · subst e
    rw [List.getElem?_set_self (by rw [sr_fs_len]; exact hl), h]
    simp [sr_fv, sr_sI_same]
  · rw [List.getElem?_set_ne (fun q => e q.symm), sr_fs_get]
    cases ht : ts[i]? with
    | none => rfl
    | some t => simp [sr_fv, sr_sI_1, sr_sI_2, show ¬ (k + i = k + j) by omega, e]
theorem sr_fs_setJ {ad : Nat → Nat} {D : sr_St} {o j : Nat} {v : Int64} (ts : List Nat) : ∀ k, ts[j]? = some 1 → sr_fs ad (sr_sJ D o (k + j) v) o k ts = (sr_fs ad D o k ts).set j (.long v) := by
  intro k h
  apply List.ext_getElem?
  intro i
  have hl : j < ts.length := (List.getElem?_eq_some_iff.mp h).1
  rw [sr_fs_get]
  by_cases e : i = j
  · subst e
    rw [List.getElem?_set_self (by rw [sr_fs_len]; exact hl), h]
    simp [sr_fv, sr_sJ_same]
  · rw [List.getElem?_set_ne (fun q => e q.symm), sr_fs_get]
    cases ht : ts[i]? with
    | none => rfl
    | some t => simp [sr_fv, sr_sJ_1, sr_sJ_2, show ¬ (k + i = k + j) by omega, e]
theorem sr_putI {ad : Nat → Nat} {cy : Nat → ClassId} {D : sr_St} {o k : Nat} {v : Int32} (hk : sr_kind o < 8) (ht : (sr_ty (sr_kind o))[k]? = some 0) : (sr_W ad cy D).set o (ad o, .inr (sr_kind o, (sr_fs ad D o 0 (sr_ty (sr_kind o))).set k (.int v))) = sr_W ad cy (sr_sI D o k v) := by
  refine sr_W_set (fun p hp => by simp [sr_sI, hp]) (fun p hp => rfl) ?_
  have := sr_fs_setI (ad := ad) (D := D) (o := o) (v := v) (sr_ty (sr_kind o)) 0 ht
  rw [Nat.zero_add] at this
  unfold sr_cell
  rw [if_pos hk, this]
theorem sr_putJ {ad : Nat → Nat} {cy : Nat → ClassId} {D : sr_St} {o k : Nat} {v : Int64} (hk : sr_kind o < 8) (ht : (sr_ty (sr_kind o))[k]? = some 1) : (sr_W ad cy D).set o (ad o, .inr (sr_kind o, (sr_fs ad D o 0 (sr_ty (sr_kind o))).set k (.long v))) = sr_W ad cy (sr_sJ D o k v) := by
  refine sr_W_set (fun p hp => rfl) (fun p hp => by simp [sr_sJ, hp]) ?_
  have := sr_fs_setJ (ad := ad) (D := D) (o := o) (v := v) (sr_ty (sr_kind o)) 0 ht
  rw [Nat.zero_add] at this
  unfold sr_cell
  rw [if_pos hk, this]
theorem sr_cell_o {ad : Nat → Nat} {cy : Nat → ClassId} {D : sr_St} {o : Nat} (hk : sr_kind o < 8) : sr_cell ad cy D o = .inr (sr_kind o, sr_fs ad D o 0 (sr_ty (sr_kind o))) := if_pos hk
theorem sr_cell_J {ad : Nat → Nat} {cy : Nat → ClassId} {D : sr_St} {o : Nat} (hk : sr_kind o = 10) : sr_cell ad cy D o = .inl (cy 10, sr_len o, .inr (.inl (D.2 o))) := by simp [sr_cell, hk]
theorem sr_cell_I {ad : Nat → Nat} {cy : Nat → ClassId} {D : sr_St} {o : Nat} (hk : sr_kind o = 9) : sr_cell ad cy D o = .inl (cy 9, sr_len o, .inl (D.1 o)) := by simp [sr_cell, hk]
theorem sr_cell_B {ad : Nat → Nat} {cy : Nat → ClassId} {D : sr_St} {o : Nat} (hk : sr_kind o = 8) : sr_cell ad cy D o = .inl (cy 8, sr_len o, .inl (D.1 o)) := by simp [sr_cell, hk]
theorem sr_cell_Z {ad : Nat → Nat} {cy : Nat → ClassId} {D : sr_St} {o : Nat} (hk : sr_kind o = 11) : sr_cell ad cy D o = .inl (cy 11, sr_len o, .inl (D.1 o)) := by simp [sr_cell, hk]
theorem sr_cell_Q {ad : Nat → Nat} {cy : Nat → ClassId} {D : sr_St} {o : Nat} (hk : sr_kind o = 12) : sr_cell ad cy D o = .inl (cy 12, sr_len o, .inr (.inr (.inr (.inr (fun i => some (ad (o + 1 + i))))))) := by simp [sr_cell, hk]
theorem sr_astI {ad : Nat → Nat} {cy : Nat → ClassId} {D : sr_St} {o k : Nat} {v : Int32} {kd : Nat} (hk : sr_kind o = kd) (hq : kd = 8 ∨ kd = 9 ∨ kd = 11) : (sr_W ad cy D).set o (ad o, .inl (cy kd, sr_len o, .inl (upd (D.1 o) k v))) = sr_W ad cy (sr_sI D o k v) := by
  refine sr_W_set (fun p hp => by simp [sr_sI, hp]) (fun p hp => rfl) ?_
  rcases hq with h | h | h <;> subst h <;> simp [sr_cell, hk, sr_sI]
theorem sr_astJ {ad : Nat → Nat} {cy : Nat → ClassId} {D : sr_St} {o k : Nat} {v : Int64} (hk : sr_kind o = 10) : (sr_W ad cy D).set o (ad o, .inl (cy 10, sr_len o, .inr (.inl (vp_updL (D.2 o) k v)))) = sr_W ad cy (sr_sJ D o k v) := by
  refine sr_W_set (fun p hp => rfl) (fun p hp => by simp [sr_sJ, hp]) ?_
  simp [sr_cell, hk, sr_sJ]
def sr_tys (cy : Nat → ClassId) : List (ClassId × FieldType) := [(cy 8, .byte), (cy 9, .int), (cy 10, .long), (cy 11, .boolean), (cy 12, .array .long)]
/-- a value whose cells are numbers, as the machine has it -/
def sr_cv (ad : Nat → Nat) : Value → Value
  | .ref o => .ref (ad o)
  | v => v
theorem sr_cv_cat (ad : Nat → Nat) (v : Value) : (sr_cv ad v).category = v.category := by cases v <;> rfl
def sr_cl (ad : Nat → Nat) (q : Nat × Value) : Nat × Value := (q.1, sr_cv ad q.2)
theorem sr_args_map (ad : Nat → Nat) (vs : List Value) : ∀ i, lv_args i (vs.map (sr_cv ad)) = (lv_args i vs).map (sr_cl ad) := by
  induction vs with
  | nil => intro i; rfl
  | cons v vs ih =>
    intro i
    simp only [List.map_cons, lv_args, sr_cv_cat, ih, sr_cl]
/-- the words that all methods share -/
def sr_ws : List Cond := lw_tbl.filter goodWord
theorem sr_ws_in : ∀ w ∈ sr_ws, w ∈ lw_tbl := fun w h => (List.mem_filter.mp h).1
theorem sr_goodIn : GoodIn sr_ws sr_ws := fun w h => ⟨h, good_of_word (List.mem_filter.mp h).2⟩
theorem sr_mt1 {w : Cond} (h : w ∈ tables_1_1) (hg : goodWord w = true) : w ∈ sr_ws := List.mem_filter.mpr ⟨List.mem_append_right _ (List.mem_append_left _ h), hg⟩
theorem sr_mt2 {w : Cond} (h : w ∈ tables_1_2) (hg : goodWord w = true) : w ∈ sr_ws := List.mem_filter.mpr ⟨List.mem_append_right _ (List.mem_append_right _ (List.mem_append_left _ h)), hg⟩
theorem sr_mt3 {w : Cond} (h : w ∈ tables_1_3) (hg : goodWord w = true) : w ∈ sr_ws := List.mem_filter.mpr ⟨List.mem_append_right _ (List.mem_append_right _ (List.mem_append_right _ (List.mem_append_left _ h))), hg⟩
theorem sr_mt4 {w : Cond} (h : w ∈ tables_1_4) (hg : goodWord w = true) : w ∈ sr_ws := List.mem_filter.mpr ⟨List.mem_append_right _ (List.mem_append_right _ (List.mem_append_right _ (List.mem_append_right _ (List.mem_append_left _ h)))), hg⟩
theorem sr_mt5 {w : Cond} (h : w ∈ tables_1_5) (hg : goodWord w = true) : w ∈ sr_ws := List.mem_filter.mpr ⟨List.mem_append_right _ (List.mem_append_right _ (List.mem_append_right _ (List.mem_append_right _ (List.mem_append_right _ h)))), hg⟩
theorem sr_mp1 {y : MethodName} {n : Nat} (h : (y, n) ∈ lw_privs_1) (hg : goodWord (Cond.selects y.cls y y) = true) : Cond.selects y.cls y y ∈ sr_ws := List.mem_filter.mpr ⟨List.mem_append_left _ (List.mem_map.mpr ⟨(y, n), (List.mem_append_left _ h), rfl⟩), hg⟩
theorem sr_mp2 {y : MethodName} {n : Nat} (h : (y, n) ∈ lw_privs_2) (hg : goodWord (Cond.selects y.cls y y) = true) : Cond.selects y.cls y y ∈ sr_ws := List.mem_filter.mpr ⟨List.mem_append_left _ (List.mem_map.mpr ⟨(y, n), (List.mem_append_right _ (List.mem_append_left _ h)), rfl⟩), hg⟩
theorem sr_mp3 {y : MethodName} {n : Nat} (h : (y, n) ∈ lw_privs_3) (hg : goodWord (Cond.selects y.cls y y) = true) : Cond.selects y.cls y y ∈ sr_ws := List.mem_filter.mpr ⟨List.mem_append_left _ (List.mem_map.mpr ⟨(y, n), (List.mem_append_right _ (List.mem_append_right _ (List.mem_append_left _ h))), rfl⟩), hg⟩
theorem sr_mp4 {y : MethodName} {n : Nat} (h : (y, n) ∈ lw_privs_4) (hg : goodWord (Cond.selects y.cls y y) = true) : Cond.selects y.cls y y ∈ sr_ws := List.mem_filter.mpr ⟨List.mem_append_left _ (List.mem_map.mpr ⟨(y, n), (List.mem_append_right _ (List.mem_append_right _ (List.mem_append_right _ (List.mem_append_left _ h)))), rfl⟩), hg⟩
theorem sr_mp5 {y : MethodName} {n : Nat} (h : (y, n) ∈ lw_privs_5) (hg : goodWord (Cond.selects y.cls y y) = true) : Cond.selects y.cls y y ∈ sr_ws := List.mem_filter.mpr ⟨List.mem_append_left _ (List.mem_map.mpr ⟨(y, n), (List.mem_append_right _ (List.mem_append_right _ (List.mem_append_right _ (List.mem_append_right _ h)))), rfl⟩), hg⟩
