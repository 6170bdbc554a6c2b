/-! more rows for numbers that are naturals -/
section WPn
variable {g : sr_G} {M : sr_Md} {pc : Nat} {lv lv' : List (Nat × Value)} {st : List Value} {D : sr_St} {Q : Option Value → sr_St → Prop}
theorem wp_idiv_n {a b : Nat} (hd : decode M.2.1 pc = .ok (.idiv, 1)) (ha : a < 2 ^ 31) (h0 : 0 < b) (hb : b < 2 ^ 31) (k : WP g M (pc + 1) lv (.int (nI (a / b)) :: st) D Q) : WP g M pc lv (.int (nI b) :: .int (nI a) :: st) D Q := wp_idiv hd (nI_ne0 h0 hb) (by rw [pk_div ha h0 hb]; exact k)
theorem wp_irem_n {a b : Nat} (hd : decode M.2.1 pc = .ok (.irem, 1)) (ha : a < 2 ^ 31) (h0 : 0 < b) (hb : b < 2 ^ 31) (k : WP g M (pc + 1) lv (.int (nI (a % b)) :: st) D Q) : WP g M pc lv (.int (nI b) :: .int (nI a) :: st) D Q := wp_irem hd (nI_ne0 h0 hb) (by rw [pk_rem ha h0 hb]; exact k)
theorem sr_z {a : Nat} (ha : a < 2 ^ 31) : nI a = 0 ↔ a = 0 := by rw [← nI_0]; exact nI_eq ha (by decide)
theorem wp_if_eq_n {a : Nat} {off : Int} {tgt : Nat} (hd : decode M.2.1 pc = .ok (.ifCond .eq off, 3)) (ht : (pc : Int) + off = (tgt : Int)) (ha : a < 2 ^ 31) (kt : a = 0 → WP g M tgt lv st D Q) (kf : ¬ a = 0 → WP g M (pc + 3) lv st D Q) : WP g M pc lv (.int (nI a) :: st) D Q := wp_if_eq hd ht (fun q => kt ((sr_z ha).mp q)) (fun q => kf (fun z => q ((sr_z ha).mpr z)))
theorem wp_if_ne_n {a : Nat} {off : Int} {tgt : Nat} (hd : decode M.2.1 pc = .ok (.ifCond .ne off, 3)) (ht : (pc : Int) + off = (tgt : Int)) (ha : a < 2 ^ 31) (kt : ¬ a = 0 → WP g M tgt lv st D Q) (kf : a = 0 → WP g M (pc + 3) lv st D Q) : WP g M pc lv (.int (nI a) :: st) D Q := wp_if_ne hd ht (fun q => kt (fun z => q ((sr_z ha).mpr z))) (fun q => kf ((sr_z ha).mp q))
theorem wp_if_le_n {a : Nat} {off : Int} {tgt : Nat} (hd : decode M.2.1 pc = .ok (.ifCond .le off, 3)) (ht : (pc : Int) + off = (tgt : Int)) (ha : a < 2 ^ 31) (kt : a = 0 → WP g M tgt lv st D Q) (kf : 0 < a → WP g M (pc + 3) lv st D Q) : WP g M pc lv (.int (nI a) :: st) D Q := wp_if_le hd ht (fun q => kt (Nat.eq_zero_of_not_pos (fun z => nI_nle z ha q))) (fun q => kf (Nat.pos_of_ne_zero (fun z => q (by rw [z]; decide))))
theorem wp_if_gt_n {a : Nat} {off : Int} {tgt : Nat} (hd : decode M.2.1 pc = .ok (.ifCond .gt off, 3)) (ht : (pc : Int) + off = (tgt : Int)) (ha : a < 2 ^ 31) (kt : 0 < a → WP g M tgt lv st D Q) (kf : a = 0 → WP g M (pc + 3) lv st D Q) : WP g M pc lv (.int (nI a) :: st) D Q := wp_if_gt hd ht (fun q => kt (Nat.pos_of_ne_zero (fun z => by subst z; exact absurd q (by decide)))) (fun q => kf (Nat.eq_zero_of_not_pos (fun z => q (by rw [← nI_0]; exact nI_lt z ha))))
theorem wp_if_lt_n {a : Nat} {off : Int} {tgt : Nat} (hd : decode M.2.1 pc = .ok (.ifCond .lt off, 3)) (ht : (pc : Int) + off = (tgt : Int)) (ha : a < 2 ^ 31) (kf : WP g M (pc + 3) lv st D Q) : WP g M pc lv (.int (nI a) :: st) D Q := wp_if_lt hd ht (fun q => absurd q (nI_pos ha)) (fun _ => kf)
theorem wp_if_ge_n {a : Nat} {off : Int} {tgt : Nat} (hd : decode M.2.1 pc = .ok (.ifCond .ge off, 3)) (ht : (pc : Int) + off = (tgt : Int)) (ha : a < 2 ^ 31) (kt : WP g M tgt lv st D Q) : WP g M pc lv (.int (nI a) :: st) D Q := wp_if_ge hd ht (fun _ => kt) (fun q => absurd (nI_pos' ha) q)
/-- a condition that is a Bool -/
theorem wp_if_eq_b {b : Bool} {off : Int} {tgt : Nat} (hd : decode M.2.1 pc = .ok (.ifCond .eq off, 3)) (ht : (pc : Int) + off = (tgt : Int)) (kt : b = false → WP g M tgt lv st D Q) (kf : b = true → WP g M (pc + 3) lv st D Q) : WP g M pc lv (.int (sr_b b) :: st) D Q := wp_if_eq hd ht (fun q => kt (sr_b_eq0.mp q)) (fun q => kf (sr_b_ne0.mp q))
theorem wp_if_ne_b {b : Bool} {off : Int} {tgt : Nat} (hd : decode M.2.1 pc = .ok (.ifCond .ne off, 3)) (ht : (pc : Int) + off = (tgt : Int)) (kt : b = true → WP g M tgt lv st D Q) (kf : b = false → WP g M (pc + 3) lv st D Q) : WP g M pc lv (.int (sr_b b) :: st) D Q := wp_if_ne hd ht (fun q => kt (sr_b_ne0.mp q)) (fun q => kf (sr_b_eq0.mp q))
end WPn
theorem sr_bt {b : Bool} (h : b = true) : some (Value.int (nI 1)) = some (Value.int (sr_b b)) := by subst h; rfl
theorem sr_bf {b : Bool} (h : b = false) : some (Value.int (nI 0)) = some (Value.int (sr_b b)) := by subst h; rfl
/-- how many bits -/
def sr_pc : Nat → Nat → Nat
  | 0, _ => 0
  | f + 1, w => w % 2 + sr_pc f (w / 2)
def sr_bits (w : Nat) : Nat := sr_pc 31 w
theorem sr_pc_0 : ∀ f, sr_pc f 0 = 0
  | 0 => rfl
  | f + 1 => by show 0 % 2 + sr_pc f (0 / 2) = 0; simp [sr_pc_0 f]
theorem sr_pc_le : ∀ f w, sr_pc f w ≤ f
  | 0, _ => Nat.le_refl _
  | f + 1, w => by show w % 2 + sr_pc f (w / 2) ≤ f + 1; have := sr_pc_le f (w / 2); omega
theorem sr_and (a b : Nat) : nI a &&& nI b = nI (a &&& b) := by
  apply Int32.toBitVec_inj.1
  show BitVec.ofNat 32 a &&& BitVec.ofNat 32 b = BitVec.ofNat 32 (a &&& b)
  apply BitVec.eq_of_getLsbD_eq
  intro i hi
  simp [hi]
theorem sr_or (a b : Nat) : nI a ||| nI b = nI (a ||| b) := by
  apply Int32.toBitVec_inj.1
  show BitVec.ofNat 32 a ||| BitVec.ofNat 32 b = BitVec.ofNat 32 (a ||| b)
  apply BitVec.eq_of_getLsbD_eq
  intro i hi
  simp [hi]
theorem sr_xor (a b : Nat) : nI a ^^^ nI b = nI (a ^^^ b) := by
  apply Int32.toBitVec_inj.1
  show BitVec.ofNat 32 a ^^^ BitVec.ofNat 32 b = BitVec.ofNat 32 (a ^^^ b)
  apply BitVec.eq_of_getLsbD_eq
  intro i hi
  simp [hi]
theorem sr_shc : ∀ n, n < 32 → ((nI n &&& 31).toBitVec.smod 32).toNat = n := by decide +kernel
theorem sr_shl {a i : Nat} (hi : i < 32) (h : a * 2 ^ i < 2 ^ 32) : nI a <<< (nI i &&& 31) = nI (a * 2 ^ i) := pk_shlN _ i (sr_shc i hi) h
theorem sr_shr {a i : Nat} (hi : i < 32) (h : a < 2 ^ 31) : nI a >>> (nI i &&& 31) = nI (a / 2 ^ i) := pk_shrN h _ i (sr_shc i hi)
theorem sr_pw {i : Nat} (h : i ≤ 6) : 2 ^ i ≤ 64 := by
  have := Nat.pow_le_pow_right (n := 2) (by decide) h
  exact this
section WPs
variable {g : sr_G} {M : sr_Md} {pc : Nat} {lv lv' : List (Nat × Value)} {st : List Value} {D : sr_St} {Q : Option Value → sr_St → Prop}
theorem wp_iand_n {a b : Nat} (hd : decode M.2.1 pc = .ok (.iand, 1)) (k : WP g M (pc + 1) lv (.int (nI (a &&& b)) :: st) D Q) : WP g M pc lv (.int (nI b) :: .int (nI a) :: st) D Q := wp_iand hd (by rw [sr_and]; exact k)
theorem wp_ior_n {a b : Nat} (hd : decode M.2.1 pc = .ok (.ior, 1)) (k : WP g M (pc + 1) lv (.int (nI (a ||| b)) :: st) D Q) : WP g M pc lv (.int (nI b) :: .int (nI a) :: st) D Q := wp_ior hd (by rw [sr_or]; exact k)
theorem wp_ixor_n {a b : Nat} (hd : decode M.2.1 pc = .ok (.ixor, 1)) (k : WP g M (pc + 1) lv (.int (nI (a ^^^ b)) :: st) D Q) : WP g M pc lv (.int (nI b) :: .int (nI a) :: st) D Q := wp_ixor hd (by rw [sr_xor]; exact k)
theorem wp_ishl_n {a i : Nat} (hd : decode M.2.1 pc = .ok (.ishl, 1)) (hi : i < 32) (h : a * 2 ^ i < 2 ^ 32) (k : WP g M (pc + 1) lv (.int (nI (a * 2 ^ i)) :: st) D Q) : WP g M pc lv (.int (nI i) :: .int (nI a) :: st) D Q := wp_ishl hd (by rw [sr_shl hi h]; exact k)
theorem wp_ishr_n {a i : Nat} (hd : decode M.2.1 pc = .ok (.ishr, 1)) (hi : i < 32) (h : a < 2 ^ 31) (k : WP g M (pc + 1) lv (.int (nI (a / 2 ^ i)) :: st) D Q) : WP g M pc lv (.int (nI i) :: .int (nI a) :: st) D Q := wp_ishr hd (by rw [sr_shr hi h]; exact k)
end WPs
theorem sr_pw1 {i : Nat} (h : i ≤ 6) : 1 * 2 ^ i < 2 ^ 32 := by have := sr_pw h; omega
