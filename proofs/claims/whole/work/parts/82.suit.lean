/-! ===== suit: which side both row on ===== -/
def suc (x y A : Nat) : Bool := ((A &&& (1 * 2 ^ x ||| 1 * 2 ^ y)) == (1 * 2 ^ x ||| 1 * 2 ^ y)) == (A.testBit x && A.testBit y)
theorem suc_all : ((List.range 6).all fun i => (List.range 6).all fun j => (List.range 64).all fun A => suc i j A) = true := by decide +kernel
theorem su_bit {x y A : Nat} (hx : x < 6) (hy : y < 6) (hA : A < 64) : A &&& cl_m2 x y = cl_m2 x y ↔ A.testBit x = true ∧ A.testBit y = true := by
  have h := List.all_eq_true.mp (List.all_eq_true.mp (List.all_eq_true.mp suc_all x (List.mem_range.mpr hx)) y (List.mem_range.mpr hy)) A (List.mem_range.mpr hA)
  unfold suc at h
  have h1 := eq_of_beq h
  unfold cl_m2
  rw [← beq_iff_eq, h1, Bool.and_eq_true]
/-- what the rests must be for the two sums to be one -/
theorem su_eq {now : Nat → Int32} {n r x y : Nat} (hlo : sr_logOk now n r) (hx : x < n) (hy : y < n) (hr : ∀ q, q < r → cl_rs now r q = md_rest n (md_P now n r) (md_S1 now n r) now q) : ∀ m, m ≤ r → cl_su now r (cl_m2 x y) m = md_sui n r now x y m := by
  have hn := hlo.1.2.1
  intro m
  induction m with
  | zero => intro _; rfl
  | succ m ih =>
    intro hm
    have h64 := sr_lo64 hlo (show m < r by omega)
    have a1 := su_bit (x := x) (y := y) (by omega) (by omega) h64.1
    have a2 := su_bit (x := x) (y := y) (by omega) (by omega) h64.2
    have ihm := ih (by omega)
    unfold md_sui at ihm ⊢
    show cl_su now r (cl_m2 x y) (m + 1) = sr_sumL _ m + (sr_side now m x y).toInt64 * md_rest n (md_P now n r) (md_S1 now n r) now m
    rw [← ihm, ← hr m (by omega)]
    unfold sr_side
    by_cases e1 : sr_ra now m &&& cl_m2 x y = cl_m2 x y
    · rw [show cl_su now r (cl_m2 x y) (m + 1) = _ from if_pos e1, if_pos (a1.mp e1), show (nI 1).toInt64 = 1 from rfl, Int64.one_mul]
    · by_cases e2 : sr_rb now m &&& cl_m2 x y = cl_m2 x y
      · rw [show cl_su now r (cl_m2 x y) (m + 1) = _ from (if_neg e1).trans (if_pos e2), if_neg (fun z => e1 (a1.mpr z)), if_pos (a2.mp e2), show (-1 : Int32).toInt64 = -1 from rfl, Int64.neg_mul, Int64.one_mul, Int64.sub_eq_add_neg]
      · rw [show cl_su now r (cl_m2 x y) (m + 1) = _ from (if_neg e1).trans (if_neg e2), if_neg (fun z => e1 (a1.mpr z)), if_neg (fun z => e2 (a2.mpr z)), show (nI 0).toInt64 = 0 from rfl, Int64.zero_mul, Int64.add_zero]
