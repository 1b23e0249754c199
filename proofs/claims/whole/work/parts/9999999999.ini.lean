/-! the memory that the constructors leave -/
def σ00 : Mem := fun _ _ => 0
def M0 : Mem := newm (ini12 (newm (ini11 (newm σ00 0 (dfv 11))) 5000 (dfv 12)) 5000) 9000 (dfa 1)
theorem nm2 {σ : Mem} {a b : Int} {f : Int → Int} (ha : 0 ≤ a) : (newm σ a f (-2) b = 1) = (b = a ∨ σ (-2) b = 1) := by
  apply propext
  by_cases e : b = a
  · rw [e, newm_l σ ha]; simp
  · rw [newm_n σ ha e]; simp [e]
theorem up2 {σ : Mem} {a k v b : Int} (ha : 0 ≤ a) : up σ a k v (-2) b = σ (-2) b := by rw [up_na σ (by omega)]
theorem m0_0_0 : M0 0 0 = 1 := by
  unfold M0 ini12 ini11 ini10 ini6 ini3 ini7 ini0 ini9 ini5 ini8 ini4 ini1
  simp only [up_s, up_nj, up_na, newm_k, newm_s, Int.reduceAdd, Int.reduceNe, Int.reduceEq, Int.reduceNeg, ne_eq, not_false_eq_true, reduceCtorEq]
  try rfl
theorem m0_0_1 : M0 0 1 = 3 := by
  unfold M0 ini12 ini11 ini10 ini6 ini3 ini7 ini0 ini9 ini5 ini8 ini4 ini1
  simp only [up_s, up_nj, up_na, newm_k, newm_s, Int.reduceAdd, Int.reduceNe, Int.reduceEq, Int.reduceNeg, ne_eq, not_false_eq_true, reduceCtorEq]
  try rfl
theorem m0_0_2 : M0 0 2 = 6 := by
  unfold M0 ini12 ini11 ini10 ini6 ini3 ini7 ini0 ini9 ini5 ini8 ini4 ini1
  simp only [up_s, up_nj, up_na, newm_k, newm_s, Int.reduceAdd, Int.reduceNe, Int.reduceEq, Int.reduceNeg, ne_eq, not_false_eq_true, reduceCtorEq]
  try rfl
theorem m0_0_3 : M0 0 3 = 9 := by
  unfold M0 ini12 ini11 ini10 ini6 ini3 ini7 ini0 ini9 ini5 ini8 ini4 ini1
  simp only [up_s, up_nj, up_na, newm_k, newm_s, Int.reduceAdd, Int.reduceNe, Int.reduceEq, Int.reduceNeg, ne_eq, not_false_eq_true, reduceCtorEq]
  try rfl
theorem m0_0_4 : M0 0 4 = 12 := by
  unfold M0 ini12 ini11 ini10 ini6 ini3 ini7 ini0 ini9 ini5 ini8 ini4 ini1
  simp only [up_s, up_nj, up_na, newm_k, newm_s, Int.reduceAdd, Int.reduceNe, Int.reduceEq, Int.reduceNeg, ne_eq, not_false_eq_true, reduceCtorEq]
  try rfl
theorem m0_0_5 : M0 0 5 = 0 := by
  unfold M0 ini12 ini11 ini10 ini6 ini3 ini7 ini0 ini9 ini5 ini8 ini4 ini1
  simp only [up_s, up_nj, up_na, newm_k, newm_s, Int.reduceAdd, Int.reduceNe, Int.reduceEq, Int.reduceNeg, ne_eq, not_false_eq_true, reduceCtorEq]
  try rfl
theorem m0_0_6 : M0 0 6 = (-1) := by
  unfold M0 ini12 ini11 ini10 ini6 ini3 ini7 ini0 ini9 ini5 ini8 ini4 ini1
  simp only [up_s, up_nj, up_na, newm_k, newm_s, Int.reduceAdd, Int.reduceNe, Int.reduceEq, Int.reduceNeg, ne_eq, not_false_eq_true, reduceCtorEq]
  try rfl
theorem m0_0_7 : M0 0 7 = 13 := by
  unfold M0 ini12 ini11 ini10 ini6 ini3 ini7 ini0 ini9 ini5 ini8 ini4 ini1
  simp only [up_s, up_nj, up_na, newm_k, newm_s, Int.reduceAdd, Int.reduceNe, Int.reduceEq, Int.reduceNeg, ne_eq, not_false_eq_true, reduceCtorEq]
  try rfl
theorem m0_0_8 : M0 0 8 = 1 := by
  unfold M0 ini12 ini11 ini10 ini6 ini3 ini7 ini0 ini9 ini5 ini8 ini4 ini1
  simp only [up_s, up_nj, up_na, newm_k, newm_s, Int.reduceAdd, Int.reduceNe, Int.reduceEq, Int.reduceNeg, ne_eq, not_false_eq_true, reduceCtorEq]
  try rfl
theorem m0_0_10 : M0 0 10 = 16 := by
  unfold M0 ini12 ini11 ini10 ini6 ini3 ini7 ini0 ini9 ini5 ini8 ini4 ini1
  simp only [up_s, up_nj, up_na, newm_k, newm_s, Int.reduceAdd, Int.reduceNe, Int.reduceEq, Int.reduceNeg, ne_eq, not_false_eq_true, reduceCtorEq]
  try rfl
theorem m0_0_11 : M0 0 11 = 21 := by
  unfold M0 ini12 ini11 ini10 ini6 ini3 ini7 ini0 ini9 ini5 ini8 ini4 ini1
  simp only [up_s, up_nj, up_na, newm_k, newm_s, Int.reduceAdd, Int.reduceNe, Int.reduceEq, Int.reduceNeg, ne_eq, not_false_eq_true, reduceCtorEq]
  try rfl
theorem m0_0_12 : M0 0 12 = 26 := by
  unfold M0 ini12 ini11 ini10 ini6 ini3 ini7 ini0 ini9 ini5 ini8 ini4 ini1
  simp only [up_s, up_nj, up_na, newm_k, newm_s, Int.reduceAdd, Int.reduceNe, Int.reduceEq, Int.reduceNeg, ne_eq, not_false_eq_true, reduceCtorEq]
  try rfl
theorem m0_0_13 : M0 0 13 = 31 := by
  unfold M0 ini12 ini11 ini10 ini6 ini3 ini7 ini0 ini9 ini5 ini8 ini4 ini1
  simp only [up_s, up_nj, up_na, newm_k, newm_s, Int.reduceAdd, Int.reduceNe, Int.reduceEq, Int.reduceNeg, ne_eq, not_false_eq_true, reduceCtorEq]
  try rfl
theorem m0_0_14 : M0 0 14 = 36 := by
  unfold M0 ini12 ini11 ini10 ini6 ini3 ini7 ini0 ini9 ini5 ini8 ini4 ini1
  simp only [up_s, up_nj, up_na, newm_k, newm_s, Int.reduceAdd, Int.reduceNe, Int.reduceEq, Int.reduceNeg, ne_eq, not_false_eq_true, reduceCtorEq]
  try rfl
theorem m0_0_15 : M0 0 15 = 39 := by
  unfold M0 ini12 ini11 ini10 ini6 ini3 ini7 ini0 ini9 ini5 ini8 ini4 ini1
  simp only [up_s, up_nj, up_na, newm_k, newm_s, Int.reduceAdd, Int.reduceNe, Int.reduceEq, Int.reduceNeg, ne_eq, not_false_eq_true, reduceCtorEq]
  try rfl
theorem m0_0_16 : M0 0 16 = 41 := by
  unfold M0 ini12 ini11 ini10 ini6 ini3 ini7 ini0 ini9 ini5 ini8 ini4 ini1
  simp only [up_s, up_nj, up_na, newm_k, newm_s, Int.reduceAdd, Int.reduceNe, Int.reduceEq, Int.reduceNeg, ne_eq, not_false_eq_true, reduceCtorEq]
  try rfl
theorem m0_1_0 : M0 1 0 = 2 := by
  unfold M0 ini12 ini11 ini10 ini6 ini3 ini7 ini0 ini9 ini5 ini8 ini4 ini1
  simp only [up_s, up_nj, up_na, newm_k, newm_s, Int.reduceAdd, Int.reduceNe, Int.reduceEq, Int.reduceNeg, ne_eq, not_false_eq_true, reduceCtorEq]
  try rfl
theorem m0_1_1 : M0 1 1 = 0 := by
  unfold M0 ini12 ini11 ini10 ini6 ini3 ini7 ini0 ini9 ini5 ini8 ini4 ini1
  simp only [up_s, up_nj, up_na, newm_k, newm_s, Int.reduceAdd, Int.reduceNe, Int.reduceEq, Int.reduceNeg, ne_eq, not_false_eq_true, reduceCtorEq]
  try rfl
theorem m0_3_0 : M0 3 0 = 4 := by
  unfold M0 ini12 ini11 ini10 ini6 ini3 ini7 ini0 ini9 ini5 ini8 ini4 ini1
  simp only [up_s, up_nj, up_na, newm_k, newm_s, Int.reduceAdd, Int.reduceNe, Int.reduceEq, Int.reduceNeg, ne_eq, not_false_eq_true, reduceCtorEq]
  try rfl
theorem m0_3_1 : M0 3 1 = 5 := by
  unfold M0 ini12 ini11 ini10 ini6 ini3 ini7 ini0 ini9 ini5 ini8 ini4 ini1
  simp only [up_s, up_nj, up_na, newm_k, newm_s, Int.reduceAdd, Int.reduceNe, Int.reduceEq, Int.reduceNeg, ne_eq, not_false_eq_true, reduceCtorEq]
  try rfl
theorem m0_6_0 : M0 6 0 = 7 := by
  unfold M0 ini12 ini11 ini10 ini6 ini3 ini7 ini0 ini9 ini5 ini8 ini4 ini1
  simp only [up_s, up_nj, up_na, newm_k, newm_s, Int.reduceAdd, Int.reduceNe, Int.reduceEq, Int.reduceNeg, ne_eq, not_false_eq_true, reduceCtorEq]
  try rfl
theorem m0_6_1 : M0 6 1 = 8 := by
  unfold M0 ini12 ini11 ini10 ini6 ini3 ini7 ini0 ini9 ini5 ini8 ini4 ini1
  simp only [up_s, up_nj, up_na, newm_k, newm_s, Int.reduceAdd, Int.reduceNe, Int.reduceEq, Int.reduceNeg, ne_eq, not_false_eq_true, reduceCtorEq]
  try rfl
theorem m0_9_0 : M0 9 0 = 1 := by
  unfold M0 ini12 ini11 ini10 ini6 ini3 ini7 ini0 ini9 ini5 ini8 ini4 ini1
  simp only [up_s, up_nj, up_na, newm_k, newm_s, Int.reduceAdd, Int.reduceNe, Int.reduceEq, Int.reduceNeg, ne_eq, not_false_eq_true, reduceCtorEq]
  try rfl
theorem m0_9_1 : M0 9 1 = 10 := by
  unfold M0 ini12 ini11 ini10 ini6 ini3 ini7 ini0 ini9 ini5 ini8 ini4 ini1
  simp only [up_s, up_nj, up_na, newm_k, newm_s, Int.reduceAdd, Int.reduceNe, Int.reduceEq, Int.reduceNeg, ne_eq, not_false_eq_true, reduceCtorEq]
  try rfl
theorem m0_9_3 : M0 9 3 = 11 := by
  unfold M0 ini12 ini11 ini10 ini6 ini3 ini7 ini0 ini9 ini5 ini8 ini4 ini1
  simp only [up_s, up_nj, up_na, newm_k, newm_s, Int.reduceAdd, Int.reduceNe, Int.reduceEq, Int.reduceNeg, ne_eq, not_false_eq_true, reduceCtorEq]
  try rfl
theorem m0_13_0 : M0 13 0 = 1 := by
  unfold M0 ini12 ini11 ini10 ini6 ini3 ini7 ini0 ini9 ini5 ini8 ini4 ini1
  simp only [up_s, up_nj, up_na, newm_k, newm_s, Int.reduceAdd, Int.reduceNe, Int.reduceEq, Int.reduceNeg, ne_eq, not_false_eq_true, reduceCtorEq]
  try rfl
theorem m0_13_1 : M0 13 1 = 14 := by
  unfold M0 ini12 ini11 ini10 ini6 ini3 ini7 ini0 ini9 ini5 ini8 ini4 ini1
  simp only [up_s, up_nj, up_na, newm_k, newm_s, Int.reduceAdd, Int.reduceNe, Int.reduceEq, Int.reduceNeg, ne_eq, not_false_eq_true, reduceCtorEq]
  try rfl
theorem m0_13_2 : M0 13 2 = 15 := by
  unfold M0 ini12 ini11 ini10 ini6 ini3 ini7 ini0 ini9 ini5 ini8 ini4 ini1
  simp only [up_s, up_nj, up_na, newm_k, newm_s, Int.reduceAdd, Int.reduceNe, Int.reduceEq, Int.reduceNeg, ne_eq, not_false_eq_true, reduceCtorEq]
  try rfl
theorem m0_13_3 : M0 13 3 = 0 := by
  unfold M0 ini12 ini11 ini10 ini6 ini3 ini7 ini0 ini9 ini5 ini8 ini4 ini1
  simp only [up_s, up_nj, up_na, newm_k, newm_s, Int.reduceAdd, Int.reduceNe, Int.reduceEq, Int.reduceNeg, ne_eq, not_false_eq_true, reduceCtorEq]
  try rfl
theorem m0_16_0 : M0 16 0 = 17 := by
  unfold M0 ini12 ini11 ini10 ini6 ini3 ini7 ini0 ini9 ini5 ini8 ini4 ini1
  simp only [up_s, up_nj, up_na, newm_k, newm_s, Int.reduceAdd, Int.reduceNe, Int.reduceEq, Int.reduceNeg, ne_eq, not_false_eq_true, reduceCtorEq]
  try rfl
theorem m0_16_1 : M0 16 1 = 18 := by
  unfold M0 ini12 ini11 ini10 ini6 ini3 ini7 ini0 ini9 ini5 ini8 ini4 ini1
  simp only [up_s, up_nj, up_na, newm_k, newm_s, Int.reduceAdd, Int.reduceNe, Int.reduceEq, Int.reduceNeg, ne_eq, not_false_eq_true, reduceCtorEq]
  try rfl
theorem m0_16_2 : M0 16 2 = 19 := by
  unfold M0 ini12 ini11 ini10 ini6 ini3 ini7 ini0 ini9 ini5 ini8 ini4 ini1
  simp only [up_s, up_nj, up_na, newm_k, newm_s, Int.reduceAdd, Int.reduceNe, Int.reduceEq, Int.reduceNeg, ne_eq, not_false_eq_true, reduceCtorEq]
  try rfl
theorem m0_16_3 : M0 16 3 = 20 := by
  unfold M0 ini12 ini11 ini10 ini6 ini3 ini7 ini0 ini9 ini5 ini8 ini4 ini1
  simp only [up_s, up_nj, up_na, newm_k, newm_s, Int.reduceAdd, Int.reduceNe, Int.reduceEq, Int.reduceNeg, ne_eq, not_false_eq_true, reduceCtorEq]
  try rfl
theorem m0_16_4 : M0 16 4 = 0 := by
  unfold M0 ini12 ini11 ini10 ini6 ini3 ini7 ini0 ini9 ini5 ini8 ini4 ini1
  simp only [up_s, up_nj, up_na, newm_k, newm_s, Int.reduceAdd, Int.reduceNe, Int.reduceEq, Int.reduceNeg, ne_eq, not_false_eq_true, reduceCtorEq]
  try rfl
theorem m0_16_5 : M0 16 5 = 0 := by
  unfold M0 ini12 ini11 ini10 ini6 ini3 ini7 ini0 ini9 ini5 ini8 ini4 ini1
  simp only [up_s, up_nj, up_na, newm_k, newm_s, Int.reduceAdd, Int.reduceNe, Int.reduceEq, Int.reduceNeg, ne_eq, not_false_eq_true, reduceCtorEq]
  try rfl
theorem m0_16_6 : M0 16 6 = 0 := by
  unfold M0 ini12 ini11 ini10 ini6 ini3 ini7 ini0 ini9 ini5 ini8 ini4 ini1
  simp only [up_s, up_nj, up_na, newm_k, newm_s, Int.reduceAdd, Int.reduceNe, Int.reduceEq, Int.reduceNeg, ne_eq, not_false_eq_true, reduceCtorEq]
  try rfl
theorem m0_21_0 : M0 21 0 = 22 := by
  unfold M0 ini12 ini11 ini10 ini6 ini3 ini7 ini0 ini9 ini5 ini8 ini4 ini1
  simp only [up_s, up_nj, up_na, newm_k, newm_s, Int.reduceAdd, Int.reduceNe, Int.reduceEq, Int.reduceNeg, ne_eq, not_false_eq_true, reduceCtorEq]
  try rfl
theorem m0_21_1 : M0 21 1 = 23 := by
  unfold M0 ini12 ini11 ini10 ini6 ini3 ini7 ini0 ini9 ini5 ini8 ini4 ini1
  simp only [up_s, up_nj, up_na, newm_k, newm_s, Int.reduceAdd, Int.reduceNe, Int.reduceEq, Int.reduceNeg, ne_eq, not_false_eq_true, reduceCtorEq]
  try rfl
theorem m0_21_2 : M0 21 2 = 24 := by
  unfold M0 ini12 ini11 ini10 ini6 ini3 ini7 ini0 ini9 ini5 ini8 ini4 ini1
  simp only [up_s, up_nj, up_na, newm_k, newm_s, Int.reduceAdd, Int.reduceNe, Int.reduceEq, Int.reduceNeg, ne_eq, not_false_eq_true, reduceCtorEq]
  try rfl
theorem m0_21_3 : M0 21 3 = 25 := by
  unfold M0 ini12 ini11 ini10 ini6 ini3 ini7 ini0 ini9 ini5 ini8 ini4 ini1
  simp only [up_s, up_nj, up_na, newm_k, newm_s, Int.reduceAdd, Int.reduceNe, Int.reduceEq, Int.reduceNeg, ne_eq, not_false_eq_true, reduceCtorEq]
  try rfl
theorem m0_26_0 : M0 26 0 = 6 := by
  unfold M0 ini12 ini11 ini10 ini6 ini3 ini7 ini0 ini9 ini5 ini8 ini4 ini1
  simp only [up_s, up_nj, up_na, newm_k, newm_s, Int.reduceAdd, Int.reduceNe, Int.reduceEq, Int.reduceNeg, ne_eq, not_false_eq_true, reduceCtorEq]
  try rfl
theorem m0_26_1 : M0 26 1 = (-1) := by
  unfold M0 ini12 ini11 ini10 ini6 ini3 ini7 ini0 ini9 ini5 ini8 ini4 ini1
  simp only [up_s, up_nj, up_na, newm_k, newm_s, Int.reduceAdd, Int.reduceNe, Int.reduceEq, Int.reduceNeg, ne_eq, not_false_eq_true, reduceCtorEq]
  try rfl
theorem m0_26_2 : M0 26 2 = 27 := by
  unfold M0 ini12 ini11 ini10 ini6 ini3 ini7 ini0 ini9 ini5 ini8 ini4 ini1
  simp only [up_s, up_nj, up_na, newm_k, newm_s, Int.reduceAdd, Int.reduceNe, Int.reduceEq, Int.reduceNeg, ne_eq, not_false_eq_true, reduceCtorEq]
  try rfl
theorem m0_26_3 : M0 26 3 = 28 := by
  unfold M0 ini12 ini11 ini10 ini6 ini3 ini7 ini0 ini9 ini5 ini8 ini4 ini1
  simp only [up_s, up_nj, up_na, newm_k, newm_s, Int.reduceAdd, Int.reduceNe, Int.reduceEq, Int.reduceNeg, ne_eq, not_false_eq_true, reduceCtorEq]
  try rfl
theorem m0_26_4 : M0 26 4 = 29 := by
  unfold M0 ini12 ini11 ini10 ini6 ini3 ini7 ini0 ini9 ini5 ini8 ini4 ini1
  simp only [up_s, up_nj, up_na, newm_k, newm_s, Int.reduceAdd, Int.reduceNe, Int.reduceEq, Int.reduceNeg, ne_eq, not_false_eq_true, reduceCtorEq]
  try rfl
theorem m0_26_5 : M0 26 5 = 30 := by
  unfold M0 ini12 ini11 ini10 ini6 ini3 ini7 ini0 ini9 ini5 ini8 ini4 ini1
  simp only [up_s, up_nj, up_na, newm_k, newm_s, Int.reduceAdd, Int.reduceNe, Int.reduceEq, Int.reduceNeg, ne_eq, not_false_eq_true, reduceCtorEq]
  try rfl
theorem m0_31_0 : M0 31 0 = 32 := by
  unfold M0 ini12 ini11 ini10 ini6 ini3 ini7 ini0 ini9 ini5 ini8 ini4 ini1
  simp only [up_s, up_nj, up_na, newm_k, newm_s, Int.reduceAdd, Int.reduceNe, Int.reduceEq, Int.reduceNeg, ne_eq, not_false_eq_true, reduceCtorEq]
  try rfl
theorem m0_31_1 : M0 31 1 = 0 := by
  unfold M0 ini12 ini11 ini10 ini6 ini3 ini7 ini0 ini9 ini5 ini8 ini4 ini1
  simp only [up_s, up_nj, up_na, newm_k, newm_s, Int.reduceAdd, Int.reduceNe, Int.reduceEq, Int.reduceNeg, ne_eq, not_false_eq_true, reduceCtorEq]
  try rfl
theorem m0_31_2 : M0 31 2 = 33 := by
  unfold M0 ini12 ini11 ini10 ini6 ini3 ini7 ini0 ini9 ini5 ini8 ini4 ini1
  simp only [up_s, up_nj, up_na, newm_k, newm_s, Int.reduceAdd, Int.reduceNe, Int.reduceEq, Int.reduceNeg, ne_eq, not_false_eq_true, reduceCtorEq]
  try rfl
theorem m0_31_3 : M0 31 3 = 0 := by
  unfold M0 ini12 ini11 ini10 ini6 ini3 ini7 ini0 ini9 ini5 ini8 ini4 ini1
  simp only [up_s, up_nj, up_na, newm_k, newm_s, Int.reduceAdd, Int.reduceNe, Int.reduceEq, Int.reduceNeg, ne_eq, not_false_eq_true, reduceCtorEq]
  try rfl
theorem m0_31_4 : M0 31 4 = 0 := by
  unfold M0 ini12 ini11 ini10 ini6 ini3 ini7 ini0 ini9 ini5 ini8 ini4 ini1
  simp only [up_s, up_nj, up_na, newm_k, newm_s, Int.reduceAdd, Int.reduceNe, Int.reduceEq, Int.reduceNeg, ne_eq, not_false_eq_true, reduceCtorEq]
  try rfl
theorem m0_31_5 : M0 31 5 = 34 := by
  unfold M0 ini12 ini11 ini10 ini6 ini3 ini7 ini0 ini9 ini5 ini8 ini4 ini1
  simp only [up_s, up_nj, up_na, newm_k, newm_s, Int.reduceAdd, Int.reduceNe, Int.reduceEq, Int.reduceNeg, ne_eq, not_false_eq_true, reduceCtorEq]
  try rfl
theorem m0_31_6 : M0 31 6 = 35 := by
  unfold M0 ini12 ini11 ini10 ini6 ini3 ini7 ini0 ini9 ini5 ini8 ini4 ini1
  simp only [up_s, up_nj, up_na, newm_k, newm_s, Int.reduceAdd, Int.reduceNe, Int.reduceEq, Int.reduceNeg, ne_eq, not_false_eq_true, reduceCtorEq]
  try rfl
theorem m0_31_8 : M0 31 8 = 0 := by
  unfold M0 ini12 ini11 ini10 ini6 ini3 ini7 ini0 ini9 ini5 ini8 ini4 ini1
  simp only [up_s, up_nj, up_na, newm_k, newm_s, Int.reduceAdd, Int.reduceNe, Int.reduceEq, Int.reduceNeg, ne_eq, not_false_eq_true, reduceCtorEq]
  try rfl
theorem m0_36_0 : M0 36 0 = 6 := by
  unfold M0 ini12 ini11 ini10 ini6 ini3 ini7 ini0 ini9 ini5 ini8 ini4 ini1
  simp only [up_s, up_nj, up_na, newm_k, newm_s, Int.reduceAdd, Int.reduceNe, Int.reduceEq, Int.reduceNeg, ne_eq, not_false_eq_true, reduceCtorEq]
  try rfl
theorem m0_36_1 : M0 36 1 = 26 := by
  unfold M0 ini12 ini11 ini10 ini6 ini3 ini7 ini0 ini9 ini5 ini8 ini4 ini1
  simp only [up_s, up_nj, up_na, newm_k, newm_s, Int.reduceAdd, Int.reduceNe, Int.reduceEq, Int.reduceNeg, ne_eq, not_false_eq_true, reduceCtorEq]
  try rfl
theorem m0_36_2 : M0 36 2 = 37 := by
  unfold M0 ini12 ini11 ini10 ini6 ini3 ini7 ini0 ini9 ini5 ini8 ini4 ini1
  simp only [up_s, up_nj, up_na, newm_k, newm_s, Int.reduceAdd, Int.reduceNe, Int.reduceEq, Int.reduceNeg, ne_eq, not_false_eq_true, reduceCtorEq]
  try rfl
theorem m0_36_3 : M0 36 3 = 38 := by
  unfold M0 ini12 ini11 ini10 ini6 ini3 ini7 ini0 ini9 ini5 ini8 ini4 ini1
  simp only [up_s, up_nj, up_na, newm_k, newm_s, Int.reduceAdd, Int.reduceNe, Int.reduceEq, Int.reduceNeg, ne_eq, not_false_eq_true, reduceCtorEq]
  try rfl
theorem m0_39_0 : M0 39 0 = 6 := by
  unfold M0 ini12 ini11 ini10 ini6 ini3 ini7 ini0 ini9 ini5 ini8 ini4 ini1
  simp only [up_s, up_nj, up_na, newm_k, newm_s, Int.reduceAdd, Int.reduceNe, Int.reduceEq, Int.reduceNeg, ne_eq, not_false_eq_true, reduceCtorEq]
  try rfl
theorem m0_39_1 : M0 39 1 = 26 := by
  unfold M0 ini12 ini11 ini10 ini6 ini3 ini7 ini0 ini9 ini5 ini8 ini4 ini1
  simp only [up_s, up_nj, up_na, newm_k, newm_s, Int.reduceAdd, Int.reduceNe, Int.reduceEq, Int.reduceNeg, ne_eq, not_false_eq_true, reduceCtorEq]
  try rfl
theorem m0_39_2 : M0 39 2 = 40 := by
  unfold M0 ini12 ini11 ini10 ini6 ini3 ini7 ini0 ini9 ini5 ini8 ini4 ini1
  simp only [up_s, up_nj, up_na, newm_k, newm_s, Int.reduceAdd, Int.reduceNe, Int.reduceEq, Int.reduceNeg, ne_eq, not_false_eq_true, reduceCtorEq]
  try rfl
theorem m0_41_0 : M0 41 0 = 6 := by
  unfold M0 ini12 ini11 ini10 ini6 ini3 ini7 ini0 ini9 ini5 ini8 ini4 ini1
  simp only [up_s, up_nj, up_na, newm_k, newm_s, Int.reduceAdd, Int.reduceNe, Int.reduceEq, Int.reduceNeg, ne_eq, not_false_eq_true, reduceCtorEq]
  try rfl
theorem m0_41_1 : M0 41 1 = 26 := by
  unfold M0 ini12 ini11 ini10 ini6 ini3 ini7 ini0 ini9 ini5 ini8 ini4 ini1
  simp only [up_s, up_nj, up_na, newm_k, newm_s, Int.reduceAdd, Int.reduceNe, Int.reduceEq, Int.reduceNeg, ne_eq, not_false_eq_true, reduceCtorEq]
  try rfl
theorem m0_41_2 : M0 41 2 = 16 := by
  unfold M0 ini12 ini11 ini10 ini6 ini3 ini7 ini0 ini9 ini5 ini8 ini4 ini1
  simp only [up_s, up_nj, up_na, newm_k, newm_s, Int.reduceAdd, Int.reduceNe, Int.reduceEq, Int.reduceNeg, ne_eq, not_false_eq_true, reduceCtorEq]
  try rfl
theorem m0_41_3 : M0 41 3 = 42 := by
  unfold M0 ini12 ini11 ini10 ini6 ini3 ini7 ini0 ini9 ini5 ini8 ini4 ini1
  simp only [up_s, up_nj, up_na, newm_k, newm_s, Int.reduceAdd, Int.reduceNe, Int.reduceEq, Int.reduceNeg, ne_eq, not_false_eq_true, reduceCtorEq]
  try rfl
theorem m0_41_4 : M0 41 4 = 0 := by
  unfold M0 ini12 ini11 ini10 ini6 ini3 ini7 ini0 ini9 ini5 ini8 ini4 ini1
  simp only [up_s, up_nj, up_na, newm_k, newm_s, Int.reduceAdd, Int.reduceNe, Int.reduceEq, Int.reduceNeg, ne_eq, not_false_eq_true, reduceCtorEq]
  try rfl
theorem m0_5000_1 : M0 5000 1 = 5001 := by
  unfold M0 ini12 ini11 ini10 ini6 ini3 ini7 ini0 ini9 ini5 ini8 ini4 ini1
  simp only [up_s, up_nj, up_na, newm_k, newm_s, Int.reduceAdd, Int.reduceNe, Int.reduceEq, Int.reduceNeg, ne_eq, not_false_eq_true, reduceCtorEq]
  try rfl
theorem m0_5000_2 : M0 5000 2 = 5002 := by
  unfold M0 ini12 ini11 ini10 ini6 ini3 ini7 ini0 ini9 ini5 ini8 ini4 ini1
  simp only [up_s, up_nj, up_na, newm_k, newm_s, Int.reduceAdd, Int.reduceNe, Int.reduceEq, Int.reduceNeg, ne_eq, not_false_eq_true, reduceCtorEq]
  try rfl
theorem m0_5000_3 : M0 5000 3 = 5003 := by
  unfold M0 ini12 ini11 ini10 ini6 ini3 ini7 ini0 ini9 ini5 ini8 ini4 ini1
  simp only [up_s, up_nj, up_na, newm_k, newm_s, Int.reduceAdd, Int.reduceNe, Int.reduceEq, Int.reduceNeg, ne_eq, not_false_eq_true, reduceCtorEq]
  try rfl
theorem m0_5000_4 : M0 5000 4 = 5004 := by
  unfold M0 ini12 ini11 ini10 ini6 ini3 ini7 ini0 ini9 ini5 ini8 ini4 ini1
  simp only [up_s, up_nj, up_na, newm_k, newm_s, Int.reduceAdd, Int.reduceNe, Int.reduceEq, Int.reduceNeg, ne_eq, not_false_eq_true, reduceCtorEq]
  try rfl
theorem m0_5000_6 : M0 5000 6 = 0 := by
  unfold M0 ini12 ini11 ini10 ini6 ini3 ini7 ini0 ini9 ini5 ini8 ini4 ini1
  simp only [up_s, up_nj, up_na, newm_k, newm_s, Int.reduceAdd, Int.reduceNe, Int.reduceEq, Int.reduceNeg, ne_eq, not_false_eq_true, reduceCtorEq]
  try rfl
theorem m0_5000_7 : M0 5000 7 = 0 := by
  unfold M0 ini12 ini11 ini10 ini6 ini3 ini7 ini0 ini9 ini5 ini8 ini4 ini1
  simp only [up_s, up_nj, up_na, newm_k, newm_s, Int.reduceAdd, Int.reduceNe, Int.reduceEq, Int.reduceNeg, ne_eq, not_false_eq_true, reduceCtorEq]
  try rfl
theorem m0_5000_15 : M0 5000 15 = 20004 := by
  unfold M0 ini12 ini11 ini10 ini6 ini3 ini7 ini0 ini9 ini5 ini8 ini4 ini1
  simp only [up_s, up_nj, up_na, newm_k, newm_s, Int.reduceAdd, Int.reduceNe, Int.reduceEq, Int.reduceNeg, ne_eq, not_false_eq_true, reduceCtorEq]
  try rfl
theorem m0_5000_16 : M0 5000 16 = 20005 := by
  unfold M0 ini12 ini11 ini10 ini6 ini3 ini7 ini0 ini9 ini5 ini8 ini4 ini1
  simp only [up_s, up_nj, up_na, newm_k, newm_s, Int.reduceAdd, Int.reduceNe, Int.reduceEq, Int.reduceNeg, ne_eq, not_false_eq_true, reduceCtorEq]
  try rfl
theorem m0_5000_18 : M0 5000 18 = 5005 := by
  unfold M0 ini12 ini11 ini10 ini6 ini3 ini7 ini0 ini9 ini5 ini8 ini4 ini1
  simp only [up_s, up_nj, up_na, newm_k, newm_s, Int.reduceAdd, Int.reduceNe, Int.reduceEq, Int.reduceNeg, ne_eq, not_false_eq_true, reduceCtorEq]
  try rfl
theorem m0_5000_19 : M0 5000 19 = 5006 := by
  unfold M0 ini12 ini11 ini10 ini6 ini3 ini7 ini0 ini9 ini5 ini8 ini4 ini1
  simp only [up_s, up_nj, up_na, newm_k, newm_s, Int.reduceAdd, Int.reduceNe, Int.reduceEq, Int.reduceNeg, ne_eq, not_false_eq_true, reduceCtorEq]
  try rfl
theorem m0_5000_20 : M0 5000 20 = 5007 := by
  unfold M0 ini12 ini11 ini10 ini6 ini3 ini7 ini0 ini9 ini5 ini8 ini4 ini1
  simp only [up_s, up_nj, up_na, newm_k, newm_s, Int.reduceAdd, Int.reduceNe, Int.reduceEq, Int.reduceNeg, ne_eq, not_false_eq_true, reduceCtorEq]
  try rfl
theorem m0_5000_21 : M0 5000 21 = 5008 := by
  unfold M0 ini12 ini11 ini10 ini6 ini3 ini7 ini0 ini9 ini5 ini8 ini4 ini1
  simp only [up_s, up_nj, up_na, newm_k, newm_s, Int.reduceAdd, Int.reduceNe, Int.reduceEq, Int.reduceNeg, ne_eq, not_false_eq_true, reduceCtorEq]
  try rfl
theorem m0_5000_22 : M0 5000 22 = 5009 := by
  unfold M0 ini12 ini11 ini10 ini6 ini3 ini7 ini0 ini9 ini5 ini8 ini4 ini1
  simp only [up_s, up_nj, up_na, newm_k, newm_s, Int.reduceAdd, Int.reduceNe, Int.reduceEq, Int.reduceNeg, ne_eq, not_false_eq_true, reduceCtorEq]
  try rfl
theorem m0_5000_23 : M0 5000 23 = 5010 := by
  unfold M0 ini12 ini11 ini10 ini6 ini3 ini7 ini0 ini9 ini5 ini8 ini4 ini1
  simp only [up_s, up_nj, up_na, newm_k, newm_s, Int.reduceAdd, Int.reduceNe, Int.reduceEq, Int.reduceNeg, ne_eq, not_false_eq_true, reduceCtorEq]
  try rfl
theorem m0_5000_24 : M0 5000 24 = 5011 := by
  unfold M0 ini12 ini11 ini10 ini6 ini3 ini7 ini0 ini9 ini5 ini8 ini4 ini1
  simp only [up_s, up_nj, up_na, newm_k, newm_s, Int.reduceAdd, Int.reduceNe, Int.reduceEq, Int.reduceNeg, ne_eq, not_false_eq_true, reduceCtorEq]
  try rfl
theorem m0_5000_25 : M0 5000 25 = 5012 := by
  unfold M0 ini12 ini11 ini10 ini6 ini3 ini7 ini0 ini9 ini5 ini8 ini4 ini1
  simp only [up_s, up_nj, up_na, newm_k, newm_s, Int.reduceAdd, Int.reduceNe, Int.reduceEq, Int.reduceNeg, ne_eq, not_false_eq_true, reduceCtorEq]
  try rfl
theorem m0_5000_26 : M0 5000 26 = 5013 := by
  unfold M0 ini12 ini11 ini10 ini6 ini3 ini7 ini0 ini9 ini5 ini8 ini4 ini1
  simp only [up_s, up_nj, up_na, newm_k, newm_s, Int.reduceAdd, Int.reduceNe, Int.reduceEq, Int.reduceNeg, ne_eq, not_false_eq_true, reduceCtorEq]
  try rfl
theorem m0_5000_27 : M0 5000 27 = 5014 := by
  unfold M0 ini12 ini11 ini10 ini6 ini3 ini7 ini0 ini9 ini5 ini8 ini4 ini1
  simp only [up_s, up_nj, up_na, newm_k, newm_s, Int.reduceAdd, Int.reduceNe, Int.reduceEq, Int.reduceNeg, ne_eq, not_false_eq_true, reduceCtorEq]
  try rfl
theorem m0_5000_28 : M0 5000 28 = 0 := by
  unfold M0 ini12 ini11 ini10 ini6 ini3 ini7 ini0 ini9 ini5 ini8 ini4 ini1
  simp only [up_s, up_nj, up_na, newm_k, newm_s, Int.reduceAdd, Int.reduceNe, Int.reduceEq, Int.reduceNeg, ne_eq, not_false_eq_true, reduceCtorEq]
  try rfl
theorem m0_5000_29 : M0 5000 29 = 0 := by
  unfold M0 ini12 ini11 ini10 ini6 ini3 ini7 ini0 ini9 ini5 ini8 ini4 ini1
  simp only [up_s, up_nj, up_na, newm_k, newm_s, Int.reduceAdd, Int.reduceNe, Int.reduceEq, Int.reduceNeg, ne_eq, not_false_eq_true, reduceCtorEq]
  try rfl
theorem m0_5000_30 : M0 5000 30 = 0 := by
  unfold M0 ini12 ini11 ini10 ini6 ini3 ini7 ini0 ini9 ini5 ini8 ini4 ini1
  simp only [up_s, up_nj, up_na, newm_k, newm_s, Int.reduceAdd, Int.reduceNe, Int.reduceEq, Int.reduceNeg, ne_eq, not_false_eq_true, reduceCtorEq]
  try rfl
theorem m0_5000_34 : M0 5000 34 = 0 := by
  unfold M0 ini12 ini11 ini10 ini6 ini3 ini7 ini0 ini9 ini5 ini8 ini4 ini1
  simp only [up_s, up_nj, up_na, newm_k, newm_s, Int.reduceAdd, Int.reduceNe, Int.reduceEq, Int.reduceNeg, ne_eq, not_false_eq_true, reduceCtorEq]
  try rfl
theorem m0_5000_36 : M0 5000 36 = 5015 := by
  unfold M0 ini12 ini11 ini10 ini6 ini3 ini7 ini0 ini9 ini5 ini8 ini4 ini1
  simp only [up_s, up_nj, up_na, newm_k, newm_s, Int.reduceAdd, Int.reduceNe, Int.reduceEq, Int.reduceNeg, ne_eq, not_false_eq_true, reduceCtorEq]
  try rfl
theorem m0_5000_37 : M0 5000 37 = 5016 := by
  unfold M0 ini12 ini11 ini10 ini6 ini3 ini7 ini0 ini9 ini5 ini8 ini4 ini1
  simp only [up_s, up_nj, up_na, newm_k, newm_s, Int.reduceAdd, Int.reduceNe, Int.reduceEq, Int.reduceNeg, ne_eq, not_false_eq_true, reduceCtorEq]
  try rfl
theorem m0_5000_38 : M0 5000 38 = (-1) := by
  unfold M0 ini12 ini11 ini10 ini6 ini3 ini7 ini0 ini9 ini5 ini8 ini4 ini1
  simp only [up_s, up_nj, up_na, newm_k, newm_s, Int.reduceAdd, Int.reduceNe, Int.reduceEq, Int.reduceNeg, ne_eq, not_false_eq_true, reduceCtorEq]
  try rfl
theorem m0_5000_39 : M0 5000 39 = 1 := by
  unfold M0 ini12 ini11 ini10 ini6 ini3 ini7 ini0 ini9 ini5 ini8 ini4 ini1
  simp only [up_s, up_nj, up_na, newm_k, newm_s, Int.reduceAdd, Int.reduceNe, Int.reduceEq, Int.reduceNeg, ne_eq, not_false_eq_true, reduceCtorEq]
  try rfl
theorem m0_5000_40 : M0 5000 40 = 5017 := by
  unfold M0 ini12 ini11 ini10 ini6 ini3 ini7 ini0 ini9 ini5 ini8 ini4 ini1
  simp only [up_s, up_nj, up_na, newm_k, newm_s, Int.reduceAdd, Int.reduceNe, Int.reduceEq, Int.reduceNeg, ne_eq, not_false_eq_true, reduceCtorEq]
  try rfl
theorem m0_5000_41 : M0 5000 41 = 5018 := by
  unfold M0 ini12 ini11 ini10 ini6 ini3 ini7 ini0 ini9 ini5 ini8 ini4 ini1
  simp only [up_s, up_nj, up_na, newm_k, newm_s, Int.reduceAdd, Int.reduceNe, Int.reduceEq, Int.reduceNeg, ne_eq, not_false_eq_true, reduceCtorEq]
  try rfl
theorem m0_5000_42 : M0 5000 42 = 5019 := by
  unfold M0 ini12 ini11 ini10 ini6 ini3 ini7 ini0 ini9 ini5 ini8 ini4 ini1
  simp only [up_s, up_nj, up_na, newm_k, newm_s, Int.reduceAdd, Int.reduceNe, Int.reduceEq, Int.reduceNeg, ne_eq, not_false_eq_true, reduceCtorEq]
  try rfl
theorem m0_5000_43 : M0 5000 43 = 5020 := by
  unfold M0 ini12 ini11 ini10 ini6 ini3 ini7 ini0 ini9 ini5 ini8 ini4 ini1
  simp only [up_s, up_nj, up_na, newm_k, newm_s, Int.reduceAdd, Int.reduceNe, Int.reduceEq, Int.reduceNeg, ne_eq, not_false_eq_true, reduceCtorEq]
  try rfl
theorem m0_5000_44 : M0 5000 44 = 5021 := by
  unfold M0 ini12 ini11 ini10 ini6 ini3 ini7 ini0 ini9 ini5 ini8 ini4 ini1
  simp only [up_s, up_nj, up_na, newm_k, newm_s, Int.reduceAdd, Int.reduceNe, Int.reduceEq, Int.reduceNeg, ne_eq, not_false_eq_true, reduceCtorEq]
  try rfl
theorem m0_5000_45 : M0 5000 45 = 5022 := by
  unfold M0 ini12 ini11 ini10 ini6 ini3 ini7 ini0 ini9 ini5 ini8 ini4 ini1
  simp only [up_s, up_nj, up_na, newm_k, newm_s, Int.reduceAdd, Int.reduceNe, Int.reduceEq, Int.reduceNeg, ne_eq, not_false_eq_true, reduceCtorEq]
  try rfl
theorem m0_5000_47 : M0 5000 47 = 5023 := by
  unfold M0 ini12 ini11 ini10 ini6 ini3 ini7 ini0 ini9 ini5 ini8 ini4 ini1
  simp only [up_s, up_nj, up_na, newm_k, newm_s, Int.reduceAdd, Int.reduceNe, Int.reduceEq, Int.reduceNeg, ne_eq, not_false_eq_true, reduceCtorEq]
  try rfl
theorem m0_5000_48 : M0 5000 48 = 0 := by
  unfold M0 ini12 ini11 ini10 ini6 ini3 ini7 ini0 ini9 ini5 ini8 ini4 ini1
  simp only [up_s, up_nj, up_na, newm_k, newm_s, Int.reduceAdd, Int.reduceNe, Int.reduceEq, Int.reduceNeg, ne_eq, not_false_eq_true, reduceCtorEq]
  try rfl
theorem m0_5000_52 : M0 5000 52 = 5024 := by
  unfold M0 ini12 ini11 ini10 ini6 ini3 ini7 ini0 ini9 ini5 ini8 ini4 ini1
  simp only [up_s, up_nj, up_na, newm_k, newm_s, Int.reduceAdd, Int.reduceNe, Int.reduceEq, Int.reduceNeg, ne_eq, not_false_eq_true, reduceCtorEq]
  try rfl
theorem m0_5000_53 : M0 5000 53 = 0 := by
  unfold M0 ini12 ini11 ini10 ini6 ini3 ini7 ini0 ini9 ini5 ini8 ini4 ini1
  simp only [up_s, up_nj, up_na, newm_k, newm_s, Int.reduceAdd, Int.reduceNe, Int.reduceEq, Int.reduceNeg, ne_eq, not_false_eq_true, reduceCtorEq]
  try rfl
theorem m0_5000_54 : M0 5000 54 = 5025 := by
  unfold M0 ini12 ini11 ini10 ini6 ini3 ini7 ini0 ini9 ini5 ini8 ini4 ini1
  simp only [up_s, up_nj, up_na, newm_k, newm_s, Int.reduceAdd, Int.reduceNe, Int.reduceEq, Int.reduceNeg, ne_eq, not_false_eq_true, reduceCtorEq]
  try rfl
theorem m0_5000_55 : M0 5000 55 = 5026 := by
  unfold M0 ini12 ini11 ini10 ini6 ini3 ini7 ini0 ini9 ini5 ini8 ini4 ini1
  simp only [up_s, up_nj, up_na, newm_k, newm_s, Int.reduceAdd, Int.reduceNe, Int.reduceEq, Int.reduceNeg, ne_eq, not_false_eq_true, reduceCtorEq]
  try rfl
theorem m0_5000_56 : M0 5000 56 = 0 := by
  unfold M0 ini12 ini11 ini10 ini6 ini3 ini7 ini0 ini9 ini5 ini8 ini4 ini1
  simp only [up_s, up_nj, up_na, newm_k, newm_s, Int.reduceAdd, Int.reduceNe, Int.reduceEq, Int.reduceNeg, ne_eq, not_false_eq_true, reduceCtorEq]
  try rfl
theorem mr_4 : M0 4 = dfa 68 := by
  unfold M0 ini12 ini11 ini10 ini6 ini3 ini7 ini0 ini9 ini5 ini8 ini4 ini1
  simp only [newm_o, up_na, newm_s, Int.reduceAdd, Int.reduceNe, Int.reduceEq, Int.reduceNeg, ne_eq, not_false_eq_true, reduceCtorEq]
theorem mr_5 : M0 5 = dfa 4 := by
  unfold M0 ini12 ini11 ini10 ini6 ini3 ini7 ini0 ini9 ini5 ini8 ini4 ini1
  simp only [newm_o, up_na, newm_s, Int.reduceAdd, Int.reduceNe, Int.reduceEq, Int.reduceNeg, ne_eq, not_false_eq_true, reduceCtorEq]
theorem mr_7 : M0 7 = dfa 68 := by
  unfold M0 ini12 ini11 ini10 ini6 ini3 ini7 ini0 ini9 ini5 ini8 ini4 ini1
  simp only [newm_o, up_na, newm_s, Int.reduceAdd, Int.reduceNe, Int.reduceEq, Int.reduceNeg, ne_eq, not_false_eq_true, reduceCtorEq]
theorem mr_8 : M0 8 = dfa 4 := by
  unfold M0 ini12 ini11 ini10 ini6 ini3 ini7 ini0 ini9 ini5 ini8 ini4 ini1
  simp only [newm_o, up_na, newm_s, Int.reduceAdd, Int.reduceNe, Int.reduceEq, Int.reduceNeg, ne_eq, not_false_eq_true, reduceCtorEq]
theorem mr_32 : M0 32 = dfa 128 := by
  unfold M0 ini12 ini11 ini10 ini6 ini3 ini7 ini0 ini9 ini5 ini8 ini4 ini1
  simp only [newm_o, up_na, newm_s, Int.reduceAdd, Int.reduceNe, Int.reduceEq, Int.reduceNeg, ne_eq, not_false_eq_true, reduceCtorEq]
theorem mr_34 : M0 34 = dfa 27 := by
  unfold M0 ini12 ini11 ini10 ini6 ini3 ini7 ini0 ini9 ini5 ini8 ini4 ini1
  simp only [newm_o, up_na, newm_s, Int.reduceAdd, Int.reduceNe, Int.reduceEq, Int.reduceNeg, ne_eq, not_false_eq_true, reduceCtorEq]
theorem mr_35 : M0 35 = dfa 60 := by
  unfold M0 ini12 ini11 ini10 ini6 ini3 ini7 ini0 ini9 ini5 ini8 ini4 ini1
  simp only [newm_o, up_na, newm_s, Int.reduceAdd, Int.reduceNe, Int.reduceEq, Int.reduceNeg, ne_eq, not_false_eq_true, reduceCtorEq]
theorem mr_17 : M0 17 = dfa 6 := by
  unfold M0 ini12 ini11 ini10 ini6 ini3 ini7 ini0 ini9 ini5 ini8 ini4 ini1
  simp only [newm_o, up_na, newm_s, Int.reduceAdd, Int.reduceNe, Int.reduceEq, Int.reduceNeg, ne_eq, not_false_eq_true, reduceCtorEq]
theorem mr_18 : M0 18 = dfa 6 := by
  unfold M0 ini12 ini11 ini10 ini6 ini3 ini7 ini0 ini9 ini5 ini8 ini4 ini1
  simp only [newm_o, up_na, newm_s, Int.reduceAdd, Int.reduceNe, Int.reduceEq, Int.reduceNeg, ne_eq, not_false_eq_true, reduceCtorEq]
theorem mr_19 : M0 19 = dfa 6 := by
  unfold M0 ini12 ini11 ini10 ini6 ini3 ini7 ini0 ini9 ini5 ini8 ini4 ini1
  simp only [newm_o, up_na, newm_s, Int.reduceAdd, Int.reduceNe, Int.reduceEq, Int.reduceNeg, ne_eq, not_false_eq_true, reduceCtorEq]
theorem mr_20 : M0 20 = dfa 6 := by
  unfold M0 ini12 ini11 ini10 ini6 ini3 ini7 ini0 ini9 ini5 ini8 ini4 ini1
  simp only [newm_o, up_na, newm_s, Int.reduceAdd, Int.reduceNe, Int.reduceEq, Int.reduceNeg, ne_eq, not_false_eq_true, reduceCtorEq]
theorem mr_14 : M0 14 = dfa 240 := by
  unfold M0 ini12 ini11 ini10 ini6 ini3 ini7 ini0 ini9 ini5 ini8 ini4 ini1
  simp only [newm_o, up_na, newm_s, Int.reduceAdd, Int.reduceNe, Int.reduceEq, Int.reduceNeg, ne_eq, not_false_eq_true, reduceCtorEq]
theorem mr_15 : M0 15 = dfa 5 := by
  unfold M0 ini12 ini11 ini10 ini6 ini3 ini7 ini0 ini9 ini5 ini8 ini4 ini1
  simp only [newm_o, up_na, newm_s, Int.reduceAdd, Int.reduceNe, Int.reduceEq, Int.reduceNeg, ne_eq, not_false_eq_true, reduceCtorEq]
theorem mr_42 : M0 42 = dfa 50 := by
  unfold M0 ini12 ini11 ini10 ini6 ini3 ini7 ini0 ini9 ini5 ini8 ini4 ini1
  simp only [newm_o, up_na, newm_s, Int.reduceAdd, Int.reduceNe, Int.reduceEq, Int.reduceNeg, ne_eq, not_false_eq_true, reduceCtorEq]
theorem mr_5001 : M0 5001 = dfa 240 := by
  unfold M0 ini12 ini11 ini10 ini6 ini3 ini7 ini0 ini9 ini5 ini8 ini4 ini1
  simp only [newm_o, up_na, newm_s, Int.reduceAdd, Int.reduceNe, Int.reduceEq, Int.reduceNeg, ne_eq, not_false_eq_true, reduceCtorEq]
theorem mr_5003 : M0 5003 = dfa 4 := by
  unfold M0 ini12 ini11 ini10 ini6 ini3 ini7 ini0 ini9 ini5 ini8 ini4 ini1
  simp only [newm_o, up_na, newm_s, Int.reduceAdd, Int.reduceNe, Int.reduceEq, Int.reduceNeg, ne_eq, not_false_eq_true, reduceCtorEq]
theorem mr_5004 : M0 5004 = dfa 128 := by
  unfold M0 ini12 ini11 ini10 ini6 ini3 ini7 ini0 ini9 ini5 ini8 ini4 ini1
  simp only [newm_o, up_na, newm_s, Int.reduceAdd, Int.reduceNe, Int.reduceEq, Int.reduceNeg, ne_eq, not_false_eq_true, reduceCtorEq]
theorem mr_5005 : M0 5005 = dfa 2 := by
  unfold M0 ini12 ini11 ini10 ini6 ini3 ini7 ini0 ini9 ini5 ini8 ini4 ini1
  simp only [newm_o, up_na, newm_s, Int.reduceAdd, Int.reduceNe, Int.reduceEq, Int.reduceNeg, ne_eq, not_false_eq_true, reduceCtorEq]
theorem mr_5006 : M0 5006 = dfa 2 := by
  unfold M0 ini12 ini11 ini10 ini6 ini3 ini7 ini0 ini9 ini5 ini8 ini4 ini1
  simp only [newm_o, up_na, newm_s, Int.reduceAdd, Int.reduceNe, Int.reduceEq, Int.reduceNeg, ne_eq, not_false_eq_true, reduceCtorEq]
theorem mr_5007 : M0 5007 = dfa 16 := by
  unfold M0 ini12 ini11 ini10 ini6 ini3 ini7 ini0 ini9 ini5 ini8 ini4 ini1
  simp only [newm_o, up_na, newm_s, Int.reduceAdd, Int.reduceNe, Int.reduceEq, Int.reduceNeg, ne_eq, not_false_eq_true, reduceCtorEq]
theorem mr_5008 : M0 5008 = dfa 16 := by
  unfold M0 ini12 ini11 ini10 ini6 ini3 ini7 ini0 ini9 ini5 ini8 ini4 ini1
  simp only [newm_o, up_na, newm_s, Int.reduceAdd, Int.reduceNe, Int.reduceEq, Int.reduceNeg, ne_eq, not_false_eq_true, reduceCtorEq]
theorem mr_5010 : M0 5010 = dfa 18 := by
  unfold M0 ini12 ini11 ini10 ini6 ini3 ini7 ini0 ini9 ini5 ini8 ini4 ini1
  simp only [newm_o, up_na, newm_s, Int.reduceAdd, Int.reduceNe, Int.reduceEq, Int.reduceNeg, ne_eq, not_false_eq_true, reduceCtorEq]
theorem mr_5011 : M0 5011 = dfa 6 := by
  unfold M0 ini12 ini11 ini10 ini6 ini3 ini7 ini0 ini9 ini5 ini8 ini4 ini1
  simp only [newm_o, up_na, newm_s, Int.reduceAdd, Int.reduceNe, Int.reduceEq, Int.reduceNeg, ne_eq, not_false_eq_true, reduceCtorEq]
theorem mr_5012 : M0 5012 = dfa 6 := by
  unfold M0 ini12 ini11 ini10 ini6 ini3 ini7 ini0 ini9 ini5 ini8 ini4 ini1
  simp only [newm_o, up_na, newm_s, Int.reduceAdd, Int.reduceNe, Int.reduceEq, Int.reduceNeg, ne_eq, not_false_eq_true, reduceCtorEq]
theorem mr_5013 : M0 5013 = dfa 240 := by
  unfold M0 ini12 ini11 ini10 ini6 ini3 ini7 ini0 ini9 ini5 ini8 ini4 ini1
  simp only [newm_o, up_na, newm_s, Int.reduceAdd, Int.reduceNe, Int.reduceEq, Int.reduceNeg, ne_eq, not_false_eq_true, reduceCtorEq]
theorem mr_5014 : M0 5014 = dfa 5 := by
  unfold M0 ini12 ini11 ini10 ini6 ini3 ini7 ini0 ini9 ini5 ini8 ini4 ini1
  simp only [newm_o, up_na, newm_s, Int.reduceAdd, Int.reduceNe, Int.reduceEq, Int.reduceNeg, ne_eq, not_false_eq_true, reduceCtorEq]
theorem mr_5015 : M0 5015 = dfa 208 := by
  unfold M0 ini12 ini11 ini10 ini6 ini3 ini7 ini0 ini9 ini5 ini8 ini4 ini1
  simp only [newm_o, up_na, newm_s, Int.reduceAdd, Int.reduceNe, Int.reduceEq, Int.reduceNeg, ne_eq, not_false_eq_true, reduceCtorEq]
theorem mr_5017 : M0 5017 = dfa 8191 := by
  unfold M0 ini12 ini11 ini10 ini6 ini3 ini7 ini0 ini9 ini5 ini8 ini4 ini1
  simp only [newm_o, up_na, newm_s, Int.reduceAdd, Int.reduceNe, Int.reduceEq, Int.reduceNeg, ne_eq, not_false_eq_true, reduceCtorEq]
theorem mr_5018 : M0 5018 = dfa 8191 := by
  unfold M0 ini12 ini11 ini10 ini6 ini3 ini7 ini0 ini9 ini5 ini8 ini4 ini1
  simp only [newm_o, up_na, newm_s, Int.reduceAdd, Int.reduceNe, Int.reduceEq, Int.reduceNeg, ne_eq, not_false_eq_true, reduceCtorEq]
theorem mr_5023 : M0 5023 = dfa 8320 := by
  unfold M0 ini12 ini11 ini10 ini6 ini3 ini7 ini0 ini9 ini5 ini8 ini4 ini1
  simp only [newm_o, up_na, newm_s, Int.reduceAdd, Int.reduceNe, Int.reduceEq, Int.reduceNeg, ne_eq, not_false_eq_true, reduceCtorEq]
theorem mr_5024 : M0 5024 = dfa 50 := by
  unfold M0 ini12 ini11 ini10 ini6 ini3 ini7 ini0 ini9 ini5 ini8 ini4 ini1
  simp only [newm_o, up_na, newm_s, Int.reduceAdd, Int.reduceNe, Int.reduceEq, Int.reduceNeg, ne_eq, not_false_eq_true, reduceCtorEq]
theorem mr_5026 : M0 5026 = dfa 208 := by
  unfold M0 ini12 ini11 ini10 ini6 ini3 ini7 ini0 ini9 ini5 ini8 ini4 ini1
  simp only [newm_o, up_na, newm_s, Int.reduceAdd, Int.reduceNe, Int.reduceEq, Int.reduceNeg, ne_eq, not_false_eq_true, reduceCtorEq]
theorem mr_12 : M0 12 = dfq 4 := by
  unfold M0 ini12 ini11 ini10 ini6 ini3 ini7 ini0 ini9 ini5 ini8 ini4 ini1
  simp only [newm_o, up_na, newm_s, Int.reduceAdd, Int.reduceNe, Int.reduceEq, Int.reduceNeg, ne_eq, not_false_eq_true, reduceCtorEq]
theorem dfa_p {z j : Int} (h : 0 ≤ j) : dfa z j = 0 := by unfold dfa; rw [if_neg (by omega)]
theorem sav_p0 : ∀ k : Nat, k < 16 → 0 ≤ sav 21001 k := by decide +kernel
theorem sav_p {k : Int} (h0 : 0 ≤ k) (h1 : k < 16) : 0 ≤ sav 21001 k := by
  have := sav_p0 k.toNat (by omega)
  rwa [show ((k.toNat : Nat) : Int) = k by omega] at this
theorem rowS_0 {z : Int} : rowS (dfa z) := fun k i w k0 k1 i0 i1 w0 w1 => by
  have : 0 ≤ firstK k := by
    have k4 := kd_4 k0 k1
    rcases k4 with rfl | rfl | rfl | rfl <;> decide
  rw [dfa_p (by omega)]
  exact ⟨by omega, sav_p (by omega) (by omega)⟩
theorem liv_0 : livR M0 := by
  intro a
  rw [m0_5000_7]
  unfold M0 ini12 ini11 ini10 ini6 ini3 ini7 ini0 ini9 ini5 ini8 ini4 ini1 σ00
  simp only [nm2, up2, Int.reduceLE, Int.reduceAdd]
  constructor
  · intro h; omega
  · intro h; omega
theorem RR_0 : RR M0 := by
  have a0 : ∀ k, 0 ≤ k → k < 27 → aud M0 16 k = 0 := by
    intro k k0 k1
    unfold aud
    rw [show (16 : Int) + 1 = 17 from rfl, show (16 : Int) + 2 = 18 from rfl, show (16 : Int) + 3 = 19 from rfl, show (16 : Int) + 4 = 20 from rfl, mr_17, mr_18, mr_19, mr_20]
    split
    · exact dfa_p (by omega)
    · split
      · exact dfa_p (by omega)
      · split
        · exact dfa_p (by omega)
        · split
          · exact dfa_p (by omega)
          · have : k = 24 ∨ k = 25 ∨ k = 26 := by omega
            rcases this with rfl | rfl | rfl
            · exact m0_16_4
            · exact m0_16_5
            · exact m0_16_6
  have v0 : ∀ j, 0 ≤ j → j < 68 → vof M0 j = 0 := by
    intro j j0 j1
    unfold vof
    rw [mr_5006, mr_5008, mr_5010, mr_5012]
    split
    · exact dfa_p j0
    · split
      · rfl
      · split
        · exact dfa_p (by omega)
        · split
          · split
            · rfl
            · exact dfa_p (by omega)
          · split
            · exact dfa_p (by omega)
            · rfl
  refine ⟨⟨⟨?_, ?_, fun i i0 i1 => ?_⟩, ?_, fun i i0 i1 => ?_⟩, ⟨fun k k0 k1 => ?_, ?_, fun k k0 k1 => ?_, ?_, fun j j0 j1 => ?_, ⟨?_, ?_, ?_⟩, ?_, fun z => ?_, fun z => ?_, ?_, fun p k p0 p1 k0 k1 => ?_, fun t t0 t1 => ?_⟩, ⟨?_, ?_, Or.inl m0_5000_38, ?_, fun l l0 l1 => ?_⟩, ⟨⟨⟨?_, ?_⟩, fun s s0 s1 => ?_⟩, ⟨⟨?_, ?_⟩, fun k k0 k1 => ?_, fun k j k0 k1 => ?_⟩, ?_, fun s s0 s1 => ?_⟩, ⟨⟨⟨?_, ?_⟩, fun j j0 j1 => ?_⟩, ?_, fun j j0 j1 => ?_, fun j j0 j1 => ?_⟩, ⟨⟨fun c c0 c1 => ?_, ⟨?_, ?_, ?_⟩, ⟨fun c c0 c1 => ?_, ⟨?_, ?_⟩, ⟨?_, ?_⟩, ⟨?_, ?_⟩, ?_, ?_⟩, ?_, fun i i0 i1 => ?_⟩, ⟨?_, ?_, ?_, fun i i0 i1 => ?_⟩⟩, ⟨?_, ⟨?_, ?_⟩, ⟨?_, ?_⟩, fun i j i0 ij jn => ?_, fun j j0 j1 => ?_⟩, Or.inl ⟨m0_31_8, m0_5000_56⟩, liv_0, ⟨⟨⟨?_, ?_, fun l l0 l1 => ?_⟩, fun s s0 s1 => ?_, fun k k0 k1 => ?_⟩, ⟨?_, ?_, ?_⟩, fun j j0 j1 => ?_, fun t t0 t1 => ?_, ?_, ?_⟩, fun j j0 j1 => ?_, fun j j0 j1 => ?_⟩
  all_goals try simp only [m0_1_1, m0_0_5, m0_0_6, m0_0_8, m0_26_1, m0_13_3, m0_41_4, m0_31_1, m0_31_3, m0_31_4, m0_5000_38, m0_5000_39, m0_5000_6, m0_5000_7, m0_5000_28, m0_5000_29, m0_5000_30, m0_5000_34, m0_5000_48, m0_5000_53, mr_4, mr_5, mr_7, mr_8, mr_32, mr_35, mr_5005, mr_5015, mr_5017] at *
  all_goals first | omega | decide | rfl | exact rowS_0 | (rw [a0 _ (by omega) (by omega), dfa_p (by omega)]; done) | (rw [dfa_p (by omega)]; omega) | (rw [dfa_p (by omega), dfa_p (by omega)]; done) | (rw [v0 _ (by omega) (by omega)]; omega) | (rw [dfa_p (by omega)]; decide) | (rw [a0 i (by omega) (by omega), a0 (i + 6) (by omega) (by omega), a0 (i + 12) (by omega) (by omega), a0 (i + 18) (by omega) (by omega)]; decide) | (obtain rfl : i = j := (by omega); constructor <;> omega) | (rw [dfa_p (by omega)]; exact ⟨⟨Int.le_refl 0, by decide⟩, fun l f h d n k e l0 l1 => absurd l1 (by omega)⟩) | (have : k = 0 ∨ k = 1 ∨ k = 2 ∨ k = 3 ∨ k = 4 ∨ k = 5 := (by omega); rcases this with rfl | rfl | rfl | rfl | rfl | rfl <;> (unfold mL; rw [mr_5004]; decide))
