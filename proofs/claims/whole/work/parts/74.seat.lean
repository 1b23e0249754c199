/-! Seating: cell 36, taken 37, bests 38 -/
theorem bt_eb : ∀ x : Nat, x < 64 → ∀ y : Nat, y < 64 → amIand (x : Int) (y : Int) = ((x &&& y : Nat) : Int) ∧ amIxor (x : Int) (y : Int) = ((x ^^^ y : Nat) : Int) := by decide +kernel
/-- next part of a set, in falling order -/
theorem sub_nx1 : ∀ s : Nat, s < 64 → ∀ p : Nat, p < 64 → p &&& s = p → 0 < p → (((p - 1) &&& s) &&& s = (p - 1) &&& s ∧ (p - 1) &&& s < p) := by decide +kernel
theorem sub_nx2 : ∀ s : Nat, s < 64 → ∀ p : Nat, p < 64 → p &&& s = p → ∀ q : Nat, q < p → q &&& s = q → q ≤ (p - 1) &&& s := by decide +kernel
theorem sub_bit : ∀ s : Nat, s < 64 → ∀ p : Nat, p < 64 → p &&& s = p → s ^^^ p < 64 ∧ ((0 < p → s ^^^ p < s) ∧ ∀ i : Nat, i < 6 → bt ((s ^^^ p : Nat) : Int) (i : Int) = bt (s : Int) (i : Int) - bt (p : Int) (i : Int)) := by decide +kernel
theorem bit_sub : ∀ s : Nat, s < 64 → ∀ p : Nat, p < 64 → (∀ i : Nat, i < 6 → bt (p : Int) (i : Int) ≤ bt (s : Int) (i : Int)) → p &&& s = p := by decide +kernel

theorem wd_1011 : Cond.constantLong RX8 26 1000000 ∈ TBL := tb_tab (List.mem_of_getElem? (i := 1011) (by decide +kernel)) rfl
theorem wd_1028 : Cond.methodLink RX8 28 yJ9_floorDiv_f86c9 ∈ TBL := tb_tab (List.mem_of_getElem? (i := 1028) (by decide +kernel)) rfl
theorem wd_1030 : Cond.code yJ9_floorDiv_f86c9 cJ9_floorDiv_f86c9 6 (some .long) ∈ TBL := tb_tab (List.mem_of_getElem? (i := 1030) (by decide +kernel)) rfl
theorem lk_X8_28 : amLk RX8 28 yJ9_floorDiv_f86c9 cJ9_floorDiv_f86c9 6 (some .long) 2 := ⟨wd_1028, wd_16, wd_1030, by decide +kernel, by decide +kernel, by decide⟩
theorem wd_1029 : Cond.static yJ9_floorDiv_f86c9 ∈ TBL := tb_tab (List.mem_of_getElem? (i := 1029) (by decide +kernel)) rfl
def a_X8_costOf : AC := [(0, vLload 0 1), (1, vL 1000000 4), (4, vCallS w_J9_floorDiv_f86c9 2 7), (7, vL2i 8), (8, vIret)]
theorem k_X8_costOf_0 : look a_X8_costOf 0 = vLload 0 1 := rfl
theorem k_X8_costOf_1 : look a_X8_costOf 1 = vL 1000000 4 := rfl
theorem k_X8_costOf_4 : look a_X8_costOf 4 = vCallS w_J9_floorDiv_f86c9 2 7 := rfl
theorem k_X8_costOf_7 : look a_X8_costOf 7 = vL2i 8 := rfl
theorem k_X8_costOf_8 : look a_X8_costOf 8 = vIret := rfl
theorem o_X8_costOf {X : amX} (e1 : XT X = TT) (e2 : XD X = 1) (hB : amB X RX8 cX8_costOf (some .int) 2) : ∀ pc, amOK X pc (look a_X8_costOf pc) := by
  have hT : amTok (XT X) := e1 ▸ TT_ok
  refine look_ok ?_
  unfold a_X8_costOf
  refine fc (ok_lload_n hB dX8_costOf_0) ?_
  refine fc (ok_ldc2 hB wd_1011 rfl dX8_costOf_1) ?_
  refine fc (ok_callS hB (e1 ▸ s_J9_floorDiv_f86c9) lk_X8_28 (by rw [e2]; decide) wd_1029 dX8_costOf_4) ?_
  refine fc (ok_l2i hB dX8_costOf_7) ?_
  refine fc (ok_iret hB dX8_costOf_8) ?_
  exact fn

def w_X8_costOf : WP := fun av σ Q => ∃ (x : Int), av = [(1, x)] ∧ (-1000000000000000 ≤ x ∧ x ≤ 1000000000000000 ∧ Q (0, x / 1000000) σ)
theorem w_X8_costOf_e (x : Int) (σ : Mem) (Q : AV → Mem → Prop) : w_X8_costOf [(1, x)] σ Q = (-1000000000000000 ≤ x ∧ x ≤ 1000000000000000 ∧ Q (0, x / 1000000) σ) := by
  apply propext; constructor
  · rintro ⟨x', h9, hb9⟩; cases h9; exact hb9
  · intro hb9; exact ⟨x, rfl, hb9⟩

set_option maxRecDepth 100000 in
set_option maxHeartbeats 4000000 in
theorem s_X8_costOf : ∀ av σ Q, w_X8_costOf av σ Q → amCall 1 0 0 TT yX8_costOf cX8_costOf 2 (some .int) av σ Q := by
  rintro av σ Q ⟨x, rfl, h0, h1, h⟩
  refine am_m0 (own := RX8) (A := look a_X8_costOf) (fun X e1 e2 hB => o_X8_costOf e1 e2 hB) rfl (by decide +kernel) rfl rfl 60 (w := 2) ?_
  change vcs _ _ _ _ 60 0 [(1, x), (7, 0)] [] σ
  simp only [↓reduceIte, inR_0, inR_1, inR_m, vSw2_e, swP_n, swP_c, vI_e, vL_e, vNull_e, vIload_e, vLload_e, vAload_e, vIstore_e, vLstore_e, vAstore_e, vIinc_e, vIadd_e, vIsub_e, vImul_e, vIand_e, vIor_e, vIxor_e, vIshl_e, vIshr_e, vIushr_e, vIdiv_e, vIrem_e, vLadd_e, vLsub_e, vLmul_e, vLand_e, vLor_e, vLxor_e, vLdiv_e, vLrem_e, vLushr_e, vLshl_e, vLcmp_e, vIneg_e, vI2l_e, vL2i_e, vI2b_e, vI2c_e, vDup_e, vPop_e, vDup2_e, vGoto_e, vIcEq_e, vIfEq_e, vIcNe_e, vIfNe_e, vIcLt_e, vIfLt_e, vIcGe_e, vIfGe_e, vIcGt_e, vIfGt_e, vIcLe_e, vIfLe_e, vNonnull_e, vSw_e, vGetI_e, vGetL_e, vGetR_e, vPutI_e, vPutZ_e, vPutL_e, vPutR_e, vIald_e, vIald_s, vLald_e, vBald_e, vBald_s, vAald_e, vIast_e, vLast_e, vBast_e, vAast_e, vAlen_e8, vAlen_e9, vAlen_e10, vAlen_e11, vAlen_e5, vAlen_e3, vGets_e, vCompact_e, vLdcS_e, vIret_e, vZret_e, vCret_e, vBret_e, vLret_e, vVret_e, vAret_e, vCallM_e0, vCallMV_e0, vCallS_e0, vCallSV_e0, vCallM_e1, vCallMV_e1, vCallS_e1, vCallSV_e1, vCallM_e2, vCallMV_e2, vCallS_e2, vCallSV_e2, vCallM_e3, vCallMV_e3, vCallS_e3, vCallSV_e3, vCallM_e4, vCallMV_e4, vCallS_e4, vCallSV_e4, vCallM_e5, vCallMV_e5, vCallS_e5, vCallSV_e5, vCallM_e6, vCallMV_e6, vCallS_e6, vCallSV_e6, vCallM_e7, vCallMV_e7, vCallS_e7, vCallSV_e7, vBad_e, vStrVal_e, vStrCod_e, vForm_e, vCallT_e0, vCallT_e1, vCallT_e2, vCopy_e, rf_0_0, rf_0_1, rf_0_2, rf_0_3, rf_0_4, rf_0_7, rf_0_10, rf_0_11, rf_0_12, rf_0_13, rf_0_14, rf_0_15, rf_0_16, rf_1_0, rf_3_0, rf_3_1, rf_6_0, rf_6_1, rf_9_0, rf_9_1, rf_9_3, rf_13_0, rf_13_1, rf_13_2, rf_16_0, rf_16_1, rf_16_2, rf_16_3, rf_21_0, rf_21_1, rf_21_2, rf_21_3, rf_26_0, rf_26_1, rf_26_2, rf_26_3, rf_26_4, rf_26_5, rf_26_6, rf_31_0, rf_31_2, rf_31_5, rf_31_6, rf_36_0, rf_36_1, rf_36_2, rf_36_3, rf_39_0, rf_39_1, rf_39_2, rf_41_0, rf_41_1, rf_41_2, rf_41_3, rf_5000_1, rf_5000_2, rf_5000_3, rf_5000_4, rf_5000_5, rf_5000_15, rf_5000_16, rf_5000_18, rf_5000_19, rf_5000_20, rf_5000_21, rf_5000_22, rf_5000_23, rf_5000_24, rf_5000_25, rf_5000_26, rf_5000_27, rf_5000_36, rf_5000_37, rf_5000_40, rf_5000_41, rf_5000_42, rf_5000_43, rf_5000_44, rf_5000_45, rf_5000_47, rf_5000_52, rf_5000_54, rf_5000_55, rf_100_0, rf_100_1, rf_103_0, rf_103_1, rf_106_0, rf_106_1, rf_109_0, rf_109_1, al_2, al_4, al_5, al_7, al_8, al_10, al_11, al_12, al_14, al_15, al_17, al_18, al_19, al_20, al_22, al_23, al_24, al_25, al_27, al_28, al_29, al_30, al_32, al_33, al_34, al_35, al_37, al_38, al_40, al_42, al_5001, al_5002, al_5003, al_5004, al_5005, al_5006, al_5007, al_5008, al_5009, al_5010, al_5011, al_5012, al_5013, al_5014, al_5015, al_5016, al_5017, al_5018, al_5019, al_5020, al_5021, al_5022, al_5023, al_5024, al_5025, al_5026, al_9000, al_101, al_102, al_104, al_105, al_107, al_108, al_110, al_111, vcs_e, lg_c0, lg_cs, lg_nil, set_c0, set_cs, okst_0, okst_s, acok_n, acok_c, List.contains_nil, List.contains_cons, Bool.or_false, Bool.false_or, Bool.false_eq_true, if_false, if_true, ite_self, ne_eq, true_and, and_true, not_false_eq_true, not_true_eq_false, false_imp_iff, true_imp_iff, Nat.ble_eq, Bool.and_eq_true, reduceCtorEq, or_false, false_or, or_true, true_or, false_and, and_false, and_self, Int.reduceLE, Int.reduceAdd, Int.reduceSub, Int.reduceMul, Int.reduceNeg, Int.reduceLT, Int.reduceEq, Int.reduceNe, Nat.reduceBEq, Nat.reduceBNe, Nat.reduceEqDiff, amCmp_in, amCmp_lt, amCmp_le, amCmp_gt, amCmp_ge, amCmp_eq, amCmp_ne, Nat.reduceLeDiff, Nat.reduceSub, Bool.and_true, Bool.true_and, Bool.and_self, Bool.or_true, Bool.true_or, isRf_3, isRf_4, isRf_5, isRf_8, isRf_9, isRf_10, isRf_11, isRf_15, isRf_16, isRf_17, isRf_18, isRf_19, isRf_20, isRf_21, isRf_22, isRf_23, isRf_24, isRf_25, isRf_26, isRf_27, isRf_28, k_X8_costOf_0, k_X8_costOf_1, k_X8_costOf_4, k_X8_costOf_7, k_X8_costOf_8, w_J9_floorDiv_f86c9_e]
  have e := l2i_in (x := x / 1000000) (by omega)
  rw [e]
  repeat' (first | assumption | apply And.intro | intro _)
  all_goals first | omega | exact absurd trivial (by assumption) | exact h
theorem wd_1034 : Cond.methodLink RX8 34 yJ9_floorMod_f86c9 ∈ TBL := tb_tab (List.mem_of_getElem? (i := 1034) (by decide +kernel)) rfl
theorem wd_1036 : Cond.code yJ9_floorMod_f86c9 cJ9_floorMod_f86c9 6 (some .long) ∈ TBL := tb_tab (List.mem_of_getElem? (i := 1036) (by decide +kernel)) rfl
theorem lk_X8_34 : amLk RX8 34 yJ9_floorMod_f86c9 cJ9_floorMod_f86c9 6 (some .long) 2 := ⟨wd_1034, wd_16, wd_1036, by decide +kernel, by decide +kernel, by decide⟩
theorem wd_1035 : Cond.static yJ9_floorMod_f86c9 ∈ TBL := tb_tab (List.mem_of_getElem? (i := 1035) (by decide +kernel)) rfl
def a_X8_rowOf : AC := [(0, vLload 0 1), (1, vL 1000000 4), (4, vCallS w_J9_floorMod_f86c9 2 7), (7, vL2i 8), (8, vIret)]
theorem k_X8_rowOf_0 : look a_X8_rowOf 0 = vLload 0 1 := rfl
theorem k_X8_rowOf_1 : look a_X8_rowOf 1 = vL 1000000 4 := rfl
theorem k_X8_rowOf_4 : look a_X8_rowOf 4 = vCallS w_J9_floorMod_f86c9 2 7 := rfl
theorem k_X8_rowOf_7 : look a_X8_rowOf 7 = vL2i 8 := rfl
theorem k_X8_rowOf_8 : look a_X8_rowOf 8 = vIret := rfl
theorem o_X8_rowOf {X : amX} (e1 : XT X = TT) (e2 : XD X = 1) (hB : amB X RX8 cX8_rowOf (some .int) 2) : ∀ pc, amOK X pc (look a_X8_rowOf pc) := by
  have hT : amTok (XT X) := e1 ▸ TT_ok
  refine look_ok ?_
  unfold a_X8_rowOf
  refine fc (ok_lload_n hB dX8_rowOf_0) ?_
  refine fc (ok_ldc2 hB wd_1011 rfl dX8_rowOf_1) ?_
  refine fc (ok_callS hB (e1 ▸ s_J9_floorMod_f86c9) lk_X8_34 (by rw [e2]; decide) wd_1035 dX8_rowOf_4) ?_
  refine fc (ok_l2i hB dX8_rowOf_7) ?_
  refine fc (ok_iret hB dX8_rowOf_8) ?_
  exact fn

def w_X8_rowOf : WP := fun av σ Q => ∃ (x : Int), av = [(1, x)] ∧ (-1000000000000000 ≤ x ∧ x ≤ 1000000000000000 ∧ Q (0, x % 1000000) σ)
theorem w_X8_rowOf_e (x : Int) (σ : Mem) (Q : AV → Mem → Prop) : w_X8_rowOf [(1, x)] σ Q = (-1000000000000000 ≤ x ∧ x ≤ 1000000000000000 ∧ Q (0, x % 1000000) σ) := by
  apply propext; constructor
  · rintro ⟨x', h9, hb9⟩; cases h9; exact hb9
  · intro hb9; exact ⟨x, rfl, hb9⟩

set_option maxRecDepth 100000 in
set_option maxHeartbeats 4000000 in
theorem s_X8_rowOf : ∀ av σ Q, w_X8_rowOf av σ Q → amCall 1 0 0 TT yX8_rowOf cX8_rowOf 2 (some .int) av σ Q := by
  rintro av σ Q ⟨x, rfl, h0, h1, h⟩
  refine am_m0 (own := RX8) (A := look a_X8_rowOf) (fun X e1 e2 hB => o_X8_rowOf e1 e2 hB) rfl (by decide +kernel) rfl rfl 60 (w := 2) ?_
  change vcs _ _ _ _ 60 0 [(1, x), (7, 0)] [] σ
  simp only [↓reduceIte, inR_0, inR_1, inR_m, vSw2_e, swP_n, swP_c, vI_e, vL_e, vNull_e, vIload_e, vLload_e, vAload_e, vIstore_e, vLstore_e, vAstore_e, vIinc_e, vIadd_e, vIsub_e, vImul_e, vIand_e, vIor_e, vIxor_e, vIshl_e, vIshr_e, vIushr_e, vIdiv_e, vIrem_e, vLadd_e, vLsub_e, vLmul_e, vLand_e, vLor_e, vLxor_e, vLdiv_e, vLrem_e, vLushr_e, vLshl_e, vLcmp_e, vIneg_e, vI2l_e, vL2i_e, vI2b_e, vI2c_e, vDup_e, vPop_e, vDup2_e, vGoto_e, vIcEq_e, vIfEq_e, vIcNe_e, vIfNe_e, vIcLt_e, vIfLt_e, vIcGe_e, vIfGe_e, vIcGt_e, vIfGt_e, vIcLe_e, vIfLe_e, vNonnull_e, vSw_e, vGetI_e, vGetL_e, vGetR_e, vPutI_e, vPutZ_e, vPutL_e, vPutR_e, vIald_e, vIald_s, vLald_e, vBald_e, vBald_s, vAald_e, vIast_e, vLast_e, vBast_e, vAast_e, vAlen_e8, vAlen_e9, vAlen_e10, vAlen_e11, vAlen_e5, vAlen_e3, vGets_e, vCompact_e, vLdcS_e, vIret_e, vZret_e, vCret_e, vBret_e, vLret_e, vVret_e, vAret_e, vCallM_e0, vCallMV_e0, vCallS_e0, vCallSV_e0, vCallM_e1, vCallMV_e1, vCallS_e1, vCallSV_e1, vCallM_e2, vCallMV_e2, vCallS_e2, vCallSV_e2, vCallM_e3, vCallMV_e3, vCallS_e3, vCallSV_e3, vCallM_e4, vCallMV_e4, vCallS_e4, vCallSV_e4, vCallM_e5, vCallMV_e5, vCallS_e5, vCallSV_e5, vCallM_e6, vCallMV_e6, vCallS_e6, vCallSV_e6, vCallM_e7, vCallMV_e7, vCallS_e7, vCallSV_e7, vBad_e, vStrVal_e, vStrCod_e, vForm_e, vCallT_e0, vCallT_e1, vCallT_e2, vCopy_e, rf_0_0, rf_0_1, rf_0_2, rf_0_3, rf_0_4, rf_0_7, rf_0_10, rf_0_11, rf_0_12, rf_0_13, rf_0_14, rf_0_15, rf_0_16, rf_1_0, rf_3_0, rf_3_1, rf_6_0, rf_6_1, rf_9_0, rf_9_1, rf_9_3, rf_13_0, rf_13_1, rf_13_2, rf_16_0, rf_16_1, rf_16_2, rf_16_3, rf_21_0, rf_21_1, rf_21_2, rf_21_3, rf_26_0, rf_26_1, rf_26_2, rf_26_3, rf_26_4, rf_26_5, rf_26_6, rf_31_0, rf_31_2, rf_31_5, rf_31_6, rf_36_0, rf_36_1, rf_36_2, rf_36_3, rf_39_0, rf_39_1, rf_39_2, rf_41_0, rf_41_1, rf_41_2, rf_41_3, rf_5000_1, rf_5000_2, rf_5000_3, rf_5000_4, rf_5000_5, rf_5000_15, rf_5000_16, rf_5000_18, rf_5000_19, rf_5000_20, rf_5000_21, rf_5000_22, rf_5000_23, rf_5000_24, rf_5000_25, rf_5000_26, rf_5000_27, rf_5000_36, rf_5000_37, rf_5000_40, rf_5000_41, rf_5000_42, rf_5000_43, rf_5000_44, rf_5000_45, rf_5000_47, rf_5000_52, rf_5000_54, rf_5000_55, rf_100_0, rf_100_1, rf_103_0, rf_103_1, rf_106_0, rf_106_1, rf_109_0, rf_109_1, al_2, al_4, al_5, al_7, al_8, al_10, al_11, al_12, al_14, al_15, al_17, al_18, al_19, al_20, al_22, al_23, al_24, al_25, al_27, al_28, al_29, al_30, al_32, al_33, al_34, al_35, al_37, al_38, al_40, al_42, al_5001, al_5002, al_5003, al_5004, al_5005, al_5006, al_5007, al_5008, al_5009, al_5010, al_5011, al_5012, al_5013, al_5014, al_5015, al_5016, al_5017, al_5018, al_5019, al_5020, al_5021, al_5022, al_5023, al_5024, al_5025, al_5026, al_9000, al_101, al_102, al_104, al_105, al_107, al_108, al_110, al_111, vcs_e, lg_c0, lg_cs, lg_nil, set_c0, set_cs, okst_0, okst_s, acok_n, acok_c, List.contains_nil, List.contains_cons, Bool.or_false, Bool.false_or, Bool.false_eq_true, if_false, if_true, ite_self, ne_eq, true_and, and_true, not_false_eq_true, not_true_eq_false, false_imp_iff, true_imp_iff, Nat.ble_eq, Bool.and_eq_true, reduceCtorEq, or_false, false_or, or_true, true_or, false_and, and_false, and_self, Int.reduceLE, Int.reduceAdd, Int.reduceSub, Int.reduceMul, Int.reduceNeg, Int.reduceLT, Int.reduceEq, Int.reduceNe, Nat.reduceBEq, Nat.reduceBNe, Nat.reduceEqDiff, amCmp_in, amCmp_lt, amCmp_le, amCmp_gt, amCmp_ge, amCmp_eq, amCmp_ne, Nat.reduceLeDiff, Nat.reduceSub, Bool.and_true, Bool.true_and, Bool.and_self, Bool.or_true, Bool.true_or, isRf_3, isRf_4, isRf_5, isRf_8, isRf_9, isRf_10, isRf_11, isRf_15, isRf_16, isRf_17, isRf_18, isRf_19, isRf_20, isRf_21, isRf_22, isRf_23, isRf_24, isRf_25, isRf_26, isRf_27, isRf_28, k_X8_rowOf_0, k_X8_rowOf_1, k_X8_rowOf_4, k_X8_rowOf_7, k_X8_rowOf_8, w_J9_floorMod_f86c9_e]
  have e := l2i_in (x := x % 1000000) (by omega)
  rw [e]
  repeat' (first | assumption | apply And.intro | intro _)
  all_goals first | omega | exact absurd trivial (by assumption) | exact h
theorem wd_260 : Cond.fieldLink RX8 18 "ArmchairHouse$Seating" "plan" "LArmchairHouse$Plan;" ∈ TBL := tb_tab (List.mem_of_getElem? (i := 260) (by decide +kernel)) rfl
theorem fl_X8_18 : amFl RX8 8 0 18 RX8 TX8 4 := ⟨rfl, inT_8, by decide, wd_260⟩
theorem wd_1002 : Cond.methodLink RX8 55 yX6_many ∈ TBL := tb_tab (List.mem_of_getElem? (i := 1002) (by decide +kernel)) rfl
theorem lk_X8_55 : amLk RX8 55 yX6_many cX6_many 2 (some .int) 1 := ⟨wd_1002, wd_3, wd_559, by decide +kernel, by decide +kernel, by decide⟩
theorem wd_1016 : Cond.constantLong RX8 100 10 ∈ TBL := tb_tab (List.mem_of_getElem? (i := 1016) (by decide +kernel)) rfl
def a_X8_rowPart : AC := [(0, vL 0 1), (1, vLstore 3 2), (2, vI 0 3), (3, vIstore 5 5), (5, vIload 5 7), (7, vAload 0 8), (8, vGetR TT 24 0 22 11), (11, vI 2 12), (12, vCallM w_X6_many 22 1 15), (15, vIcGe 46 18), (18, vL 10 21), (21, vLload 3 22), (22, vLmul 23), (23, vIload 2 24), (24, vIload 5 26), (26, vIshr 27), (27, vI 1 28), (28, vIand 29), (29, vIfEq 36 32), (32, vIload 1 33), (33, vGoto 37), (36, vI 0 37), (37, vI2l 38), (38, vLadd 39), (39, vLstore 3 40), (40, vIinc 5 1 43), (43, vGoto 5), (46, vLload 3 47), (47, vLret)]
theorem k_X8_rowPart_0 : look a_X8_rowPart 0 = vL 0 1 := rfl
theorem k_X8_rowPart_1 : look a_X8_rowPart 1 = vLstore 3 2 := rfl
theorem k_X8_rowPart_2 : look a_X8_rowPart 2 = vI 0 3 := rfl
theorem k_X8_rowPart_3 : look a_X8_rowPart 3 = vIstore 5 5 := rfl
theorem k_X8_rowPart_5 : look a_X8_rowPart 5 = vIload 5 7 := rfl
theorem k_X8_rowPart_7 : look a_X8_rowPart 7 = vAload 0 8 := rfl
theorem k_X8_rowPart_8 : look a_X8_rowPart 8 = vGetR TT 24 0 22 11 := rfl
theorem k_X8_rowPart_11 : look a_X8_rowPart 11 = vI 2 12 := rfl
theorem k_X8_rowPart_12 : look a_X8_rowPart 12 = vCallM w_X6_many 22 1 15 := rfl
theorem k_X8_rowPart_15 : look a_X8_rowPart 15 = vIcGe 46 18 := rfl
theorem k_X8_rowPart_18 : look a_X8_rowPart 18 = vL 10 21 := rfl
theorem k_X8_rowPart_21 : look a_X8_rowPart 21 = vLload 3 22 := rfl
theorem k_X8_rowPart_22 : look a_X8_rowPart 22 = vLmul 23 := rfl
theorem k_X8_rowPart_23 : look a_X8_rowPart 23 = vIload 2 24 := rfl
theorem k_X8_rowPart_24 : look a_X8_rowPart 24 = vIload 5 26 := rfl
theorem k_X8_rowPart_26 : look a_X8_rowPart 26 = vIshr 27 := rfl
theorem k_X8_rowPart_27 : look a_X8_rowPart 27 = vI 1 28 := rfl
theorem k_X8_rowPart_28 : look a_X8_rowPart 28 = vIand 29 := rfl
theorem k_X8_rowPart_29 : look a_X8_rowPart 29 = vIfEq 36 32 := rfl
theorem k_X8_rowPart_32 : look a_X8_rowPart 32 = vIload 1 33 := rfl
theorem k_X8_rowPart_33 : look a_X8_rowPart 33 = vGoto 37 := rfl
theorem k_X8_rowPart_36 : look a_X8_rowPart 36 = vI 0 37 := rfl
theorem k_X8_rowPart_37 : look a_X8_rowPart 37 = vI2l 38 := rfl
theorem k_X8_rowPart_38 : look a_X8_rowPart 38 = vLadd 39 := rfl
theorem k_X8_rowPart_39 : look a_X8_rowPart 39 = vLstore 3 40 := rfl
theorem k_X8_rowPart_40 : look a_X8_rowPart 40 = vIinc 5 1 43 := rfl
theorem k_X8_rowPart_43 : look a_X8_rowPart 43 = vGoto 5 := rfl
theorem k_X8_rowPart_46 : look a_X8_rowPart 46 = vLload 3 47 := rfl
theorem k_X8_rowPart_47 : look a_X8_rowPart 47 = vLret := rfl
theorem o_X8_rowPart {X : amX} (e1 : XT X = TT) (e2 : XD X = 2) (hB : amB X RX8 cX8_rowPart (some .long) 6) : ∀ pc, amOK X pc (look a_X8_rowPart pc) := by
  have hT : amTok (XT X) := e1 ▸ TT_ok
  refine look_ok ?_
  unfold a_X8_rowPart
  refine fc (ok_lconst hB (z := 0) (by decide) dX8_rowPart_0) ?_
  refine fc (ok_lstore_n hB (by decide) dX8_rowPart_1) ?_
  refine fc (ok_iconst hB dX8_rowPart_2) ?_
  refine fc (ok_istore hB (by decide) dX8_rowPart_3) ?_
  refine fc (ok_iload hB dX8_rowPart_5) ?_
  refine fc (ok_aload_n hB dX8_rowPart_7) ?_
  refine fc (okt_getR e1 hB hT fl_X8_18 rfl af_8_0 at_8_0 (by decide) dX8_rowPart_8) ?_
  refine fc (ok_iconst hB dX8_rowPart_11) ?_
  refine fc (ok_callM hB hT (e1 ▸ s_X6_many) lk_X8_55 (by rw [e2]; decide) (c := 6) rfl rfl rfl wd_557 wd_558 dX8_rowPart_12) ?_
  refine fc (ok_icmp_ge hB (t := 46) (by decide) dX8_rowPart_15) ?_
  refine fc (ok_ldc2 hB wd_1016 rfl dX8_rowPart_18) ?_
  refine fc (ok_lload_n hB dX8_rowPart_21) ?_
  refine fc (ok_lmul hB dX8_rowPart_22) ?_
  refine fc (ok_iload_n hB dX8_rowPart_23) ?_
  refine fc (ok_iload hB dX8_rowPart_24) ?_
  refine fc (ok_ishr hB dX8_rowPart_26) ?_
  refine fc (ok_iconst hB dX8_rowPart_27) ?_
  refine fc (ok_iand hB dX8_rowPart_28) ?_
  refine fc (ok_if_eq hB (t := 36) (by decide) dX8_rowPart_29) ?_
  refine fc (ok_iload_n hB dX8_rowPart_32) ?_
  refine fc (ok_goto hB (t := 37) (by decide) dX8_rowPart_33) ?_
  refine fc (ok_iconst hB dX8_rowPart_36) ?_
  refine fc (ok_i2l hB dX8_rowPart_37) ?_
  refine fc (ok_ladd hB dX8_rowPart_38) ?_
  refine fc (ok_lstore_n hB (by decide) dX8_rowPart_39) ?_
  refine fc (ok_iinc hB (by decide) dX8_rowPart_40) ?_
  refine fc (ok_goto hB (t := 5) (by decide) dX8_rowPart_43) ?_
  refine fc (ok_lload_n hB dX8_rowPart_46) ?_
  refine fc (ok_lret hB dX8_rowPart_47) ?_
  exact fn
def rpF (t S : Int) : Nat → Int
  | 0 => 0
  | i + 1 => 10 * rpF t S i + if bt S i = 1 then t else 0
def inv_rp (σ : Mem) (t S : Int) (n pc : Nat) (ls st : List AV) (σ' : Mem) : Prop := pc = 5 ∧ st = [] ∧ σ' = σ ∧ ∃ k : Nat, ls = [(24, 36), (0, t), (0, S), (1, rpF t S k), (7, 0), (0, (k : Int))] ∧ (k : Int) + n = pcnt σ 6 2
def w_X8_rowPart : WP := fun av σ Q => ∃ (t : Int) (S : Int), av = [(24, 36), (0, t), (0, S)] ∧ (0 ≤ S ∧ S < 64 ∧ InR t ∧ 0 ≤ pcnt σ 6 2 ∧ pcnt σ 6 2 ≤ 6 ∧ Q (1, rpF t S (pcnt σ 6 2).toNat) σ)
theorem w_X8_rowPart_e (t : Int) (S : Int) (σ : Mem) (Q : AV → Mem → Prop) : w_X8_rowPart [(24, 36), (0, t), (0, S)] σ Q = (0 ≤ S ∧ S < 64 ∧ InR t ∧ 0 ≤ pcnt σ 6 2 ∧ pcnt σ 6 2 ≤ 6 ∧ Q (1, rpF t S (pcnt σ 6 2).toNat) σ) := by
  apply propext; constructor
  · rintro ⟨t', S', h9, hb9⟩; cases h9; exact hb9
  · intro hb9; exact ⟨t, S, rfl, hb9⟩

set_option maxRecDepth 100000 in
set_option maxHeartbeats 4000000 in
theorem s_X8_rowPart : ∀ av σ Q, w_X8_rowPart av σ Q → amCall 2 0 0 TT yX8_rowPart cX8_rowPart 6 (some .long) av σ Q := by
  rintro av σ Q ⟨t, S, rfl, h0, h1, ht, c0, c1, h⟩
  refine am_m [5] (inv_rp σ t S) (own := RX8) (A := look a_X8_rowPart) (fun X e1 e2 hB => o_X8_rowPart e1 e2 hB) rfl (by decide +kernel) rfl rfl ?_ ⟨60, ?_⟩ (w := 6)
  · rintro n pc ls st σ' ⟨rfl, rfl, rfl, k, rfl, hk⟩
    refine ⟨60, ?_⟩
    by_cases hlt : (k : Int) < pcnt σ' 6 2
    · have hbk := bt_e (x := S) (i := k) ⟨by omega, by omega⟩ (by omega) (by omega)
      have b01 := bt_b S k
      simp only [↓reduceIte, inR_0, inR_1, inR_m, vSw2_e, swP_n, swP_c, vI_e, vL_e, vNull_e, vIload_e, vLload_e, vAload_e, vIstore_e, vLstore_e, vAstore_e, vIinc_e, vIadd_e, vIsub_e, vImul_e, vIand_e, vIor_e, vIxor_e, vIshl_e, vIshr_e, vIushr_e, vIdiv_e, vIrem_e, vLadd_e, vLsub_e, vLmul_e, vLand_e, vLor_e, vLxor_e, vLdiv_e, vLrem_e, vLushr_e, vLshl_e, vLcmp_e, vIneg_e, vI2l_e, vL2i_e, vI2b_e, vI2c_e, vDup_e, vPop_e, vDup2_e, vGoto_e, vIcEq_e, vIfEq_e, vIcNe_e, vIfNe_e, vIcLt_e, vIfLt_e, vIcGe_e, vIfGe_e, vIcGt_e, vIfGt_e, vIcLe_e, vIfLe_e, vNonnull_e, vSw_e, vGetI_e, vGetL_e, vGetR_e, vPutI_e, vPutZ_e, vPutL_e, vPutR_e, vIald_e, vIald_s, vLald_e, vBald_e, vBald_s, vAald_e, vIast_e, vLast_e, vBast_e, vAast_e, vAlen_e8, vAlen_e9, vAlen_e10, vAlen_e11, vAlen_e5, vAlen_e3, vGets_e, vCompact_e, vLdcS_e, vIret_e, vZret_e, vCret_e, vBret_e, vLret_e, vVret_e, vAret_e, vCallM_e0, vCallMV_e0, vCallS_e0, vCallSV_e0, vCallM_e1, vCallMV_e1, vCallS_e1, vCallSV_e1, vCallM_e2, vCallMV_e2, vCallS_e2, vCallSV_e2, vCallM_e3, vCallMV_e3, vCallS_e3, vCallSV_e3, vCallM_e4, vCallMV_e4, vCallS_e4, vCallSV_e4, vCallM_e5, vCallMV_e5, vCallS_e5, vCallSV_e5, vCallM_e6, vCallMV_e6, vCallS_e6, vCallSV_e6, vCallM_e7, vCallMV_e7, vCallS_e7, vCallSV_e7, vBad_e, vStrVal_e, vStrCod_e, vForm_e, vCallT_e0, vCallT_e1, vCallT_e2, vCopy_e, rf_0_0, rf_0_1, rf_0_2, rf_0_3, rf_0_4, rf_0_7, rf_0_10, rf_0_11, rf_0_12, rf_0_13, rf_0_14, rf_0_15, rf_0_16, rf_1_0, rf_3_0, rf_3_1, rf_6_0, rf_6_1, rf_9_0, rf_9_1, rf_9_3, rf_13_0, rf_13_1, rf_13_2, rf_16_0, rf_16_1, rf_16_2, rf_16_3, rf_21_0, rf_21_1, rf_21_2, rf_21_3, rf_26_0, rf_26_1, rf_26_2, rf_26_3, rf_26_4, rf_26_5, rf_26_6, rf_31_0, rf_31_2, rf_31_5, rf_31_6, rf_36_0, rf_36_1, rf_36_2, rf_36_3, rf_39_0, rf_39_1, rf_39_2, rf_41_0, rf_41_1, rf_41_2, rf_41_3, rf_5000_1, rf_5000_2, rf_5000_3, rf_5000_4, rf_5000_5, rf_5000_15, rf_5000_16, rf_5000_18, rf_5000_19, rf_5000_20, rf_5000_21, rf_5000_22, rf_5000_23, rf_5000_24, rf_5000_25, rf_5000_26, rf_5000_27, rf_5000_36, rf_5000_37, rf_5000_40, rf_5000_41, rf_5000_42, rf_5000_43, rf_5000_44, rf_5000_45, rf_5000_47, rf_5000_52, rf_5000_54, rf_5000_55, rf_100_0, rf_100_1, rf_103_0, rf_103_1, rf_106_0, rf_106_1, rf_109_0, rf_109_1, al_2, al_4, al_5, al_7, al_8, al_10, al_11, al_12, al_14, al_15, al_17, al_18, al_19, al_20, al_22, al_23, al_24, al_25, al_27, al_28, al_29, al_30, al_32, al_33, al_34, al_35, al_37, al_38, al_40, al_42, al_5001, al_5002, al_5003, al_5004, al_5005, al_5006, al_5007, al_5008, al_5009, al_5010, al_5011, al_5012, al_5013, al_5014, al_5015, al_5016, al_5017, al_5018, al_5019, al_5020, al_5021, al_5022, al_5023, al_5024, al_5025, al_5026, al_9000, al_101, al_102, al_104, al_105, al_107, al_108, al_110, al_111, vcs_e, lg_c0, lg_cs, lg_nil, set_c0, set_cs, okst_0, okst_s, acok_n, acok_c, List.contains_nil, List.contains_cons, Bool.or_false, Bool.false_or, Bool.false_eq_true, if_false, if_true, ite_self, ne_eq, true_and, and_true, not_false_eq_true, not_true_eq_false, false_imp_iff, true_imp_iff, Nat.ble_eq, Bool.and_eq_true, reduceCtorEq, or_false, false_or, or_true, true_or, false_and, and_false, and_self, Int.reduceLE, Int.reduceAdd, Int.reduceSub, Int.reduceMul, Int.reduceNeg, Int.reduceLT, Int.reduceEq, Int.reduceNe, Nat.reduceBEq, Nat.reduceBNe, Nat.reduceEqDiff, amCmp_in, amCmp_lt, amCmp_le, amCmp_gt, amCmp_ge, amCmp_eq, amCmp_ne, Nat.reduceLeDiff, Nat.reduceSub, Bool.and_true, Bool.true_and, Bool.and_self, Bool.or_true, Bool.true_or, isRf_3, isRf_4, isRf_5, isRf_8, isRf_9, isRf_10, isRf_11, isRf_15, isRf_16, isRf_17, isRf_18, isRf_19, isRf_20, isRf_21, isRf_22, isRf_23, isRf_24, isRf_25, isRf_26, isRf_27, isRf_28, k_X8_rowPart_0, k_X8_rowPart_1, k_X8_rowPart_2, k_X8_rowPart_3, k_X8_rowPart_5, k_X8_rowPart_7, k_X8_rowPart_8, k_X8_rowPart_11, k_X8_rowPart_12, k_X8_rowPart_15, k_X8_rowPart_18, k_X8_rowPart_21, k_X8_rowPart_22, k_X8_rowPart_23, k_X8_rowPart_24, k_X8_rowPart_26, k_X8_rowPart_27, k_X8_rowPart_28, k_X8_rowPart_29, k_X8_rowPart_32, k_X8_rowPart_33, k_X8_rowPart_36, k_X8_rowPart_37, k_X8_rowPart_38, k_X8_rowPart_39, k_X8_rowPart_40, k_X8_rowPart_43, k_X8_rowPart_46, k_X8_rowPart_47, w_X6_many_e, hbk]
      have nx : ∀ v, v = rpF t S (k + 1) → ∃ k', k' < n ∧ inv_rp σ' t S k' 5 [(24, 36), (0, t), (0, S), (1, v), (7, 0), (0, (k : Int) + 1)] [] σ' := fun v hv => ⟨n - 1, by omega, rfl, rfl, rfl, k + 1, by rw [hv]; rfl, by omega⟩
      have e : rpF t S (k + 1) = 10 * rpF t S k + if bt S k = 1 then t else 0 := rfl
      by_cases c : bt S k = 1
      · rw [if_pos c] at e
        have i9 := nx _ e.symm
        repeat' (first | assumption | apply And.intro | intro _)
        all_goals first | omega | exact absurd trivial (by assumption) | exact Or.inr rfl | exact i9
      · rw [if_neg c] at e
        have i9 := nx _ e.symm
        repeat' (first | assumption | apply And.intro | intro _)
        all_goals first | omega | exact absurd trivial (by assumption) | exact Or.inr rfl | exact i9
    · rw [show (pcnt σ' 6 2).toNat = k by omega] at h
      simp only [↓reduceIte, inR_0, inR_1, inR_m, vSw2_e, swP_n, swP_c, vI_e, vL_e, vNull_e, vIload_e, vLload_e, vAload_e, vIstore_e, vLstore_e, vAstore_e, vIinc_e, vIadd_e, vIsub_e, vImul_e, vIand_e, vIor_e, vIxor_e, vIshl_e, vIshr_e, vIushr_e, vIdiv_e, vIrem_e, vLadd_e, vLsub_e, vLmul_e, vLand_e, vLor_e, vLxor_e, vLdiv_e, vLrem_e, vLushr_e, vLshl_e, vLcmp_e, vIneg_e, vI2l_e, vL2i_e, vI2b_e, vI2c_e, vDup_e, vPop_e, vDup2_e, vGoto_e, vIcEq_e, vIfEq_e, vIcNe_e, vIfNe_e, vIcLt_e, vIfLt_e, vIcGe_e, vIfGe_e, vIcGt_e, vIfGt_e, vIcLe_e, vIfLe_e, vNonnull_e, vSw_e, vGetI_e, vGetL_e, vGetR_e, vPutI_e, vPutZ_e, vPutL_e, vPutR_e, vIald_e, vIald_s, vLald_e, vBald_e, vBald_s, vAald_e, vIast_e, vLast_e, vBast_e, vAast_e, vAlen_e8, vAlen_e9, vAlen_e10, vAlen_e11, vAlen_e5, vAlen_e3, vGets_e, vCompact_e, vLdcS_e, vIret_e, vZret_e, vCret_e, vBret_e, vLret_e, vVret_e, vAret_e, vCallM_e0, vCallMV_e0, vCallS_e0, vCallSV_e0, vCallM_e1, vCallMV_e1, vCallS_e1, vCallSV_e1, vCallM_e2, vCallMV_e2, vCallS_e2, vCallSV_e2, vCallM_e3, vCallMV_e3, vCallS_e3, vCallSV_e3, vCallM_e4, vCallMV_e4, vCallS_e4, vCallSV_e4, vCallM_e5, vCallMV_e5, vCallS_e5, vCallSV_e5, vCallM_e6, vCallMV_e6, vCallS_e6, vCallSV_e6, vCallM_e7, vCallMV_e7, vCallS_e7, vCallSV_e7, vBad_e, vStrVal_e, vStrCod_e, vForm_e, vCallT_e0, vCallT_e1, vCallT_e2, vCopy_e, rf_0_0, rf_0_1, rf_0_2, rf_0_3, rf_0_4, rf_0_7, rf_0_10, rf_0_11, rf_0_12, rf_0_13, rf_0_14, rf_0_15, rf_0_16, rf_1_0, rf_3_0, rf_3_1, rf_6_0, rf_6_1, rf_9_0, rf_9_1, rf_9_3, rf_13_0, rf_13_1, rf_13_2, rf_16_0, rf_16_1, rf_16_2, rf_16_3, rf_21_0, rf_21_1, rf_21_2, rf_21_3, rf_26_0, rf_26_1, rf_26_2, rf_26_3, rf_26_4, rf_26_5, rf_26_6, rf_31_0, rf_31_2, rf_31_5, rf_31_6, rf_36_0, rf_36_1, rf_36_2, rf_36_3, rf_39_0, rf_39_1, rf_39_2, rf_41_0, rf_41_1, rf_41_2, rf_41_3, rf_5000_1, rf_5000_2, rf_5000_3, rf_5000_4, rf_5000_5, rf_5000_15, rf_5000_16, rf_5000_18, rf_5000_19, rf_5000_20, rf_5000_21, rf_5000_22, rf_5000_23, rf_5000_24, rf_5000_25, rf_5000_26, rf_5000_27, rf_5000_36, rf_5000_37, rf_5000_40, rf_5000_41, rf_5000_42, rf_5000_43, rf_5000_44, rf_5000_45, rf_5000_47, rf_5000_52, rf_5000_54, rf_5000_55, rf_100_0, rf_100_1, rf_103_0, rf_103_1, rf_106_0, rf_106_1, rf_109_0, rf_109_1, al_2, al_4, al_5, al_7, al_8, al_10, al_11, al_12, al_14, al_15, al_17, al_18, al_19, al_20, al_22, al_23, al_24, al_25, al_27, al_28, al_29, al_30, al_32, al_33, al_34, al_35, al_37, al_38, al_40, al_42, al_5001, al_5002, al_5003, al_5004, al_5005, al_5006, al_5007, al_5008, al_5009, al_5010, al_5011, al_5012, al_5013, al_5014, al_5015, al_5016, al_5017, al_5018, al_5019, al_5020, al_5021, al_5022, al_5023, al_5024, al_5025, al_5026, al_9000, al_101, al_102, al_104, al_105, al_107, al_108, al_110, al_111, vcs_e, lg_c0, lg_cs, lg_nil, set_c0, set_cs, okst_0, okst_s, acok_n, acok_c, List.contains_nil, List.contains_cons, Bool.or_false, Bool.false_or, Bool.false_eq_true, if_false, if_true, ite_self, ne_eq, true_and, and_true, not_false_eq_true, not_true_eq_false, false_imp_iff, true_imp_iff, Nat.ble_eq, Bool.and_eq_true, reduceCtorEq, or_false, false_or, or_true, true_or, false_and, and_false, and_self, Int.reduceLE, Int.reduceAdd, Int.reduceSub, Int.reduceMul, Int.reduceNeg, Int.reduceLT, Int.reduceEq, Int.reduceNe, Nat.reduceBEq, Nat.reduceBNe, Nat.reduceEqDiff, amCmp_in, amCmp_lt, amCmp_le, amCmp_gt, amCmp_ge, amCmp_eq, amCmp_ne, Nat.reduceLeDiff, Nat.reduceSub, Bool.and_true, Bool.true_and, Bool.and_self, Bool.or_true, Bool.true_or, isRf_3, isRf_4, isRf_5, isRf_8, isRf_9, isRf_10, isRf_11, isRf_15, isRf_16, isRf_17, isRf_18, isRf_19, isRf_20, isRf_21, isRf_22, isRf_23, isRf_24, isRf_25, isRf_26, isRf_27, isRf_28, k_X8_rowPart_0, k_X8_rowPart_1, k_X8_rowPart_2, k_X8_rowPart_3, k_X8_rowPart_5, k_X8_rowPart_7, k_X8_rowPart_8, k_X8_rowPart_11, k_X8_rowPart_12, k_X8_rowPart_15, k_X8_rowPart_18, k_X8_rowPart_21, k_X8_rowPart_22, k_X8_rowPart_23, k_X8_rowPart_24, k_X8_rowPart_26, k_X8_rowPart_27, k_X8_rowPart_28, k_X8_rowPart_29, k_X8_rowPart_32, k_X8_rowPart_33, k_X8_rowPart_36, k_X8_rowPart_37, k_X8_rowPart_38, k_X8_rowPart_39, k_X8_rowPart_40, k_X8_rowPart_43, k_X8_rowPart_46, k_X8_rowPart_47, w_X6_many_e]
      repeat' (first | assumption | apply And.intro | intro _)
      all_goals first | omega | exact absurd trivial (by assumption) | exact Or.inr rfl | exact h
  · change vcs _ _ _ _ 60 0 [(24, 36), (0, t), (0, S), (6, 0), (6, 0), (6, 0)] [] σ
    simp only [↓reduceIte, inR_0, inR_1, inR_m, vI_e, vL_e, vNull_e, vIload_e, vLload_e, vAload_e, vIstore_e, vLstore_e, vAstore_e, vIinc_e, vIadd_e, vIsub_e, vImul_e, vIand_e, vIor_e, vIxor_e, vIshl_e, vIshr_e, vIushr_e, vIdiv_e, vIrem_e, vLadd_e, vLsub_e, vLmul_e, vLand_e, vLor_e, vLxor_e, vLdiv_e, vLrem_e, vLushr_e, vLshl_e, vLcmp_e, vIneg_e, vI2l_e, vL2i_e, vI2b_e, vI2c_e, vDup_e, vPop_e, vDup2_e, vGoto_e, vIcEq_e, vIfEq_e, vIcNe_e, vIfNe_e, vIcLt_e, vIfLt_e, vIcGe_e, vIfGe_e, vIcGt_e, vIfGt_e, vIcLe_e, vIfLe_e, vNonnull_e, vSw_e, vGetI_e, vGetL_e, vGetR_e, vPutI_e, vPutZ_e, vPutL_e, vPutR_e, vIald_e, vIald_s, vLald_e, vBald_e, vBald_s, vAald_e, vIast_e, vLast_e, vBast_e, vAast_e, vAlen_e8, vAlen_e9, vAlen_e10, vAlen_e11, vAlen_e5, vAlen_e3, vGets_e, vCompact_e, vLdcS_e, vIret_e, vZret_e, vCret_e, vBret_e, vLret_e, vVret_e, vAret_e, vCallM_e0, vCallMV_e0, vCallS_e0, vCallSV_e0, vCallM_e1, vCallMV_e1, vCallS_e1, vCallSV_e1, vCallM_e2, vCallMV_e2, vCallS_e2, vCallSV_e2, vCallM_e3, vCallMV_e3, vCallS_e3, vCallSV_e3, vCallM_e4, vCallMV_e4, vCallS_e4, vCallSV_e4, vCallM_e5, vCallMV_e5, vCallS_e5, vCallSV_e5, vCallM_e6, vCallMV_e6, vCallS_e6, vCallSV_e6, vCallM_e7, vCallMV_e7, vCallS_e7, vCallSV_e7, vBad_e, vStrVal_e, vStrCod_e, vForm_e, vCallT_e0, vCallT_e1, vCallT_e2, vCopy_e, rf_0_0, rf_0_1, rf_0_2, rf_0_3, rf_0_4, rf_0_7, rf_0_10, rf_0_11, rf_0_12, rf_0_13, rf_0_14, rf_0_15, rf_0_16, rf_1_0, rf_3_0, rf_3_1, rf_6_0, rf_6_1, rf_9_0, rf_9_1, rf_9_3, rf_13_0, rf_13_1, rf_13_2, rf_16_0, rf_16_1, rf_16_2, rf_16_3, rf_21_0, rf_21_1, rf_21_2, rf_21_3, rf_26_0, rf_26_1, rf_26_2, rf_26_3, rf_26_4, rf_26_5, rf_26_6, rf_31_0, rf_31_2, rf_31_5, rf_31_6, rf_36_0, rf_36_1, rf_36_2, rf_36_3, rf_39_0, rf_39_1, rf_39_2, rf_41_0, rf_41_1, rf_41_2, rf_41_3, rf_5000_1, rf_5000_2, rf_5000_3, rf_5000_4, rf_5000_5, rf_5000_15, rf_5000_16, rf_5000_18, rf_5000_19, rf_5000_20, rf_5000_21, rf_5000_22, rf_5000_23, rf_5000_24, rf_5000_25, rf_5000_26, rf_5000_27, rf_5000_36, rf_5000_37, rf_5000_40, rf_5000_41, rf_5000_42, rf_5000_43, rf_5000_44, rf_5000_45, rf_5000_47, rf_5000_52, rf_5000_54, rf_5000_55, rf_100_0, rf_100_1, rf_103_0, rf_103_1, rf_106_0, rf_106_1, rf_109_0, rf_109_1, al_2, al_4, al_5, al_7, al_8, al_10, al_11, al_12, al_14, al_15, al_17, al_18, al_19, al_20, al_22, al_23, al_24, al_25, al_27, al_28, al_29, al_30, al_32, al_33, al_34, al_35, al_37, al_38, al_40, al_42, al_5001, al_5002, al_5003, al_5004, al_5005, al_5006, al_5007, al_5008, al_5009, al_5010, al_5011, al_5012, al_5013, al_5014, al_5015, al_5016, al_5017, al_5018, al_5019, al_5020, al_5021, al_5022, al_5023, al_5024, al_5025, al_5026, al_9000, al_101, al_102, al_104, al_105, al_107, al_108, al_110, al_111, vcs_e, lg_c0, lg_cs, lg_nil, set_c0, set_cs, okst_0, okst_s, acok_n, acok_c, List.contains_nil, List.contains_cons, Bool.or_false, Bool.false_or, Bool.false_eq_true, if_false, if_true, ite_self, ne_eq, true_and, and_true, not_false_eq_true, not_true_eq_false, false_imp_iff, true_imp_iff, Nat.ble_eq, Bool.and_eq_true, reduceCtorEq, or_false, false_or, or_true, true_or, false_and, and_false, and_self, Int.reduceLE, Int.reduceAdd, Int.reduceSub, Int.reduceMul, Int.reduceNeg, Int.reduceLT, Int.reduceEq, Int.reduceNe, Nat.reduceBEq, Nat.reduceBNe, Nat.reduceEqDiff, amCmp_in, amCmp_lt, amCmp_le, amCmp_gt, amCmp_ge, amCmp_eq, amCmp_ne, Nat.reduceLeDiff, Nat.reduceSub, Bool.and_true, Bool.true_and, Bool.and_self, Bool.or_true, Bool.true_or, isRf_3, isRf_4, isRf_5, isRf_8, isRf_9, isRf_10, isRf_11, isRf_15, isRf_16, isRf_17, isRf_18, isRf_19, isRf_20, isRf_21, isRf_22, isRf_23, isRf_24, isRf_25, isRf_26, isRf_27, isRf_28, k_X8_rowPart_0, k_X8_rowPart_1, k_X8_rowPart_2, k_X8_rowPart_3, k_X8_rowPart_5, k_X8_rowPart_7, k_X8_rowPart_8, k_X8_rowPart_11, k_X8_rowPart_12, k_X8_rowPart_15, k_X8_rowPart_18, k_X8_rowPart_21, k_X8_rowPart_22, k_X8_rowPart_23, k_X8_rowPart_24, k_X8_rowPart_26, k_X8_rowPart_27, k_X8_rowPart_28, k_X8_rowPart_29, k_X8_rowPart_32, k_X8_rowPart_33, k_X8_rowPart_36, k_X8_rowPart_37, k_X8_rowPart_38, k_X8_rowPart_39, k_X8_rowPart_40, k_X8_rowPart_43, k_X8_rowPart_46, k_X8_rowPart_47]
    exact ⟨(pcnt σ 6 2).toNat, rfl, rfl, rfl, 0, rfl, by omega⟩
theorem wd_261 : Cond.fieldLink RX8 22 "ArmchairHouse$Seating" "stage" "LArmchairHouse$Stage;" ∈ TBL := tb_tab (List.mem_of_getElem? (i := 261) (by decide +kernel)) rfl
theorem fl_X8_22 : amFl RX8 8 1 22 RX8 TX8 4 := ⟨rfl, inT_8, by decide, wd_261⟩
theorem wd_191 : Cond.fieldLink RX8 71 "ArmchairHouse$Stage" "felt" "[I" ∈ TBL := tb_tab (List.mem_of_getElem? (i := 191) (by decide +kernel)) rfl
theorem fl_X8_71 : amFl RX8 9 4 71 RX9 TX9 9 := ⟨rfl, inT_9, by decide, wd_191⟩
theorem wd_195 : Cond.fieldLink RX8 92 "ArmchairHouse$Stage" "ledOut" "[I" ∈ TBL := tb_tab (List.mem_of_getElem? (i := 195) (by decide +kernel)) rfl
theorem fl_X8_92 : amFl RX8 9 5 92 RX9 TX9 9 := ⟨rfl, inT_9, by decide, wd_195⟩
theorem wd_998 : Cond.constantLong RX8 47 1152921504606846976 ∈ TBL := tb_tab (List.mem_of_getElem? (i := 998) (by decide +kernel)) rfl
theorem wd_147 : Cond.fieldLink RX8 95 "ArmchairHouse$Audience" "seats" "[I" ∈ TBL := tb_tab (List.mem_of_getElem? (i := 147) (by decide +kernel)) rfl
theorem fl_X8_95 : amFl RX8 0 1 95 RX0 TX0 7 := ⟨rfl, inT_0, by decide, wd_147⟩
def a_X8_changes : AC := [(0, vL 0 1), (1, vLstore 5 3), (3, vI 0 4), (4, vIstore 7 6), (6, vIload 7 8), (8, vI 6 10), (10, vIcGe 84 13), (13, vIload 3 14), (14, vIload 7 16), (16, vIshr 17), (17, vI 1 18), (18, vIand 19), (19, vIfEq 78 22), (22, vAload 0 23), (23, vGetR TT 24 1 25 26), (26, vGetR TT 25 4 8 29), (29, vIload 7 31), (31, vIald TT 32), (32, vIload 4 34), (34, vIcLt 51 37), (37, vAload 0 38), (38, vGetR TT 24 1 25 41), (41, vGetR TT 25 5 8 44), (44, vIload 7 46), (46, vIald TT 47), (47, vI (-1) 48), (48, vIcEq 55 51), (51, vL 1152921504606846976 54), (54, vLret), (55, vLload 5 57), (57, vAload 1 58), (58, vGetR TT 16 1 8 61), (61, vIload 7 63), (63, vIald TT 64), (64, vIload 2 65), (65, vIcNe 72 68), (68, vL 0 69), (69, vGoto 75), (72, vL 1000000 75), (75, vLadd 76), (76, vLstore 5 78), (78, vIinc 7 1 81), (81, vGoto 6), (84, vLload 5 86), (86, vLret)]
theorem k_X8_changes_0 : look a_X8_changes 0 = vL 0 1 := rfl
theorem k_X8_changes_1 : look a_X8_changes 1 = vLstore 5 3 := rfl
theorem k_X8_changes_3 : look a_X8_changes 3 = vI 0 4 := rfl
theorem k_X8_changes_4 : look a_X8_changes 4 = vIstore 7 6 := rfl
theorem k_X8_changes_6 : look a_X8_changes 6 = vIload 7 8 := rfl
theorem k_X8_changes_8 : look a_X8_changes 8 = vI 6 10 := rfl
theorem k_X8_changes_10 : look a_X8_changes 10 = vIcGe 84 13 := rfl
theorem k_X8_changes_13 : look a_X8_changes 13 = vIload 3 14 := rfl
theorem k_X8_changes_14 : look a_X8_changes 14 = vIload 7 16 := rfl
theorem k_X8_changes_16 : look a_X8_changes 16 = vIshr 17 := rfl
theorem k_X8_changes_17 : look a_X8_changes 17 = vI 1 18 := rfl
theorem k_X8_changes_18 : look a_X8_changes 18 = vIand 19 := rfl
theorem k_X8_changes_19 : look a_X8_changes 19 = vIfEq 78 22 := rfl
theorem k_X8_changes_22 : look a_X8_changes 22 = vAload 0 23 := rfl
theorem k_X8_changes_23 : look a_X8_changes 23 = vGetR TT 24 1 25 26 := rfl
theorem k_X8_changes_26 : look a_X8_changes 26 = vGetR TT 25 4 8 29 := rfl
theorem k_X8_changes_29 : look a_X8_changes 29 = vIload 7 31 := rfl
theorem k_X8_changes_31 : look a_X8_changes 31 = vIald TT 32 := rfl
theorem k_X8_changes_32 : look a_X8_changes 32 = vIload 4 34 := rfl
theorem k_X8_changes_34 : look a_X8_changes 34 = vIcLt 51 37 := rfl
theorem k_X8_changes_37 : look a_X8_changes 37 = vAload 0 38 := rfl
theorem k_X8_changes_38 : look a_X8_changes 38 = vGetR TT 24 1 25 41 := rfl
theorem k_X8_changes_41 : look a_X8_changes 41 = vGetR TT 25 5 8 44 := rfl
theorem k_X8_changes_44 : look a_X8_changes 44 = vIload 7 46 := rfl
theorem k_X8_changes_46 : look a_X8_changes 46 = vIald TT 47 := rfl
theorem k_X8_changes_47 : look a_X8_changes 47 = vI (-1) 48 := rfl
theorem k_X8_changes_48 : look a_X8_changes 48 = vIcEq 55 51 := rfl
theorem k_X8_changes_51 : look a_X8_changes 51 = vL 1152921504606846976 54 := rfl
theorem k_X8_changes_54 : look a_X8_changes 54 = vLret := rfl
theorem k_X8_changes_55 : look a_X8_changes 55 = vLload 5 57 := rfl
theorem k_X8_changes_57 : look a_X8_changes 57 = vAload 1 58 := rfl
theorem k_X8_changes_58 : look a_X8_changes 58 = vGetR TT 16 1 8 61 := rfl
theorem k_X8_changes_61 : look a_X8_changes 61 = vIload 7 63 := rfl
theorem k_X8_changes_63 : look a_X8_changes 63 = vIald TT 64 := rfl
theorem k_X8_changes_64 : look a_X8_changes 64 = vIload 2 65 := rfl
theorem k_X8_changes_65 : look a_X8_changes 65 = vIcNe 72 68 := rfl
theorem k_X8_changes_68 : look a_X8_changes 68 = vL 0 69 := rfl
theorem k_X8_changes_69 : look a_X8_changes 69 = vGoto 75 := rfl
theorem k_X8_changes_72 : look a_X8_changes 72 = vL 1000000 75 := rfl
theorem k_X8_changes_75 : look a_X8_changes 75 = vLadd 76 := rfl
theorem k_X8_changes_76 : look a_X8_changes 76 = vLstore 5 78 := rfl
theorem k_X8_changes_78 : look a_X8_changes 78 = vIinc 7 1 81 := rfl
theorem k_X8_changes_81 : look a_X8_changes 81 = vGoto 6 := rfl
theorem k_X8_changes_84 : look a_X8_changes 84 = vLload 5 86 := rfl
theorem k_X8_changes_86 : look a_X8_changes 86 = vLret := rfl
theorem o_X8_changes {X : amX} (e1 : XT X = TT) (e2 : XD X = 0) (hB : amB X RX8 cX8_changes (some .long) 8) : ∀ pc, amOK X pc (look a_X8_changes pc) := by
  have hT : amTok (XT X) := e1 ▸ TT_ok
  refine look_ok ?_
  unfold a_X8_changes
  refine fc (ok_lconst hB (z := 0) (by decide) dX8_changes_0) ?_
  refine fc (ok_lstore hB (by decide) dX8_changes_1) ?_
  refine fc (ok_iconst hB dX8_changes_3) ?_
  refine fc (ok_istore hB (by decide) dX8_changes_4) ?_
  refine fc (ok_iload hB dX8_changes_6) ?_
  refine fc (ok_bipush hB dX8_changes_8 (by decide)) ?_
  refine fc (ok_icmp_ge hB (t := 84) (by decide) dX8_changes_10) ?_
  refine fc (ok_iload_n hB dX8_changes_13) ?_
  refine fc (ok_iload hB dX8_changes_14) ?_
  refine fc (ok_ishr hB dX8_changes_16) ?_
  refine fc (ok_iconst hB dX8_changes_17) ?_
  refine fc (ok_iand hB dX8_changes_18) ?_
  refine fc (ok_if_eq hB (t := 78) (by decide) dX8_changes_19) ?_
  refine fc (ok_aload_n hB dX8_changes_22) ?_
  refine fc (okt_getR e1 hB hT fl_X8_22 rfl af_8_1 at_8_1 (by decide) dX8_changes_23) ?_
  refine fc (okt_getR e1 hB hT fl_X8_71 rfl af_9_4 at_9_4 (by decide) dX8_changes_26) ?_
  refine fc (ok_iload hB dX8_changes_29) ?_
  refine fc (okt_iaload e1 hB dX8_changes_31) ?_
  refine fc (ok_iload hB dX8_changes_32) ?_
  refine fc (ok_icmp_lt hB (t := 51) (by decide) dX8_changes_34) ?_
  refine fc (ok_aload_n hB dX8_changes_37) ?_
  refine fc (okt_getR e1 hB hT fl_X8_22 rfl af_8_1 at_8_1 (by decide) dX8_changes_38) ?_
  refine fc (okt_getR e1 hB hT fl_X8_92 rfl af_9_5 at_9_5 (by decide) dX8_changes_41) ?_
  refine fc (ok_iload hB dX8_changes_44) ?_
  refine fc (okt_iaload e1 hB dX8_changes_46) ?_
  refine fc (ok_iconst hB dX8_changes_47) ?_
  refine fc (ok_icmp_eq hB (t := 55) (by decide) dX8_changes_48) ?_
  refine fc (ok_ldc2 hB wd_998 rfl dX8_changes_51) ?_
  refine fc (ok_lret hB dX8_changes_54) ?_
  refine fc (ok_lload hB dX8_changes_55) ?_
  refine fc (ok_aload_n hB dX8_changes_57) ?_
  refine fc (okt_getR e1 hB hT fl_X8_95 rfl af_0_1 at_0_1 (by decide) dX8_changes_58) ?_
  refine fc (ok_iload hB dX8_changes_61) ?_
  refine fc (okt_iaload e1 hB dX8_changes_63) ?_
  refine fc (ok_iload_n hB dX8_changes_64) ?_
  refine fc (ok_icmp_ne hB (t := 72) (by decide) dX8_changes_65) ?_
  refine fc (ok_lconst hB (z := 0) (by decide) dX8_changes_68) ?_
  refine fc (ok_goto hB (t := 75) (by decide) dX8_changes_69) ?_
  refine fc (ok_ldc2 hB wd_1011 rfl dX8_changes_72) ?_
  refine fc (ok_ladd hB dX8_changes_75) ?_
  refine fc (ok_lstore hB (by decide) dX8_changes_76) ?_
  refine fc (ok_iinc hB (by decide) dX8_changes_78) ?_
  refine fc (ok_goto hB (t := 6) (by decide) dX8_changes_81) ?_
  refine fc (ok_lload hB dX8_changes_84) ?_
  refine fc (ok_lret hB dX8_changes_86) ?_
  exact fn
def csF (s : Int → Int) (t S : Int) : Nat → Int
  | 0 => 0
  | i + 1 => csF s t S i + if bt S i = 1 then (if s i = t then 0 else 1000000) else 0
/-- some CHAIR of the set isn't moved enough, or is led out -/
def badP (f o : Int → Int) (w S n : Int) : Prop := ∃ i : Int, 0 ≤ i ∧ i < n ∧ bt S i = 1 ∧ (f i < w ∨ o i ≠ -1)
noncomputable def chF (f o s : Int → Int) (t S w : Int) : Int := @ite Int (badP f o w S 6) (Classical.propDecidable _) 1152921504606846976 (csF s t S 6)
theorem chF_t {f o s : Int → Int} {t S w : Int} (h : badP f o w S 6) : chF f o s t S w = 1152921504606846976 := by unfold chF; exact if_pos h
theorem chF_f {f o s : Int → Int} {t S w : Int} (h : ¬ badP f o w S 6) : chF f o s t S w = csF s t S 6 := by unfold chF; exact if_neg h
def inv_chg (σ : Mem) (t S w : Int) (n pc : Nat) (ls st : List AV) (σ' : Mem) : Prop := pc = 6 ∧ st = [] ∧ σ' = σ ∧ ∃ k : Nat, ls = [(24, 36), (16, 16), (0, t), (0, S), (0, w), (1, csF (σ 18) t S k), (7, 0), (0, (k : Int))] ∧ k + n = 6 ∧ ¬ badP (σ 29) (σ 30) w S k
def w_X8_changes : WP := fun av σ Q => ∃ (a : Int) (t : Int) (S : Int) (w : Int), av = [(24, 36), (16, a), (0, t), (0, S), (0, w)] ∧ (a = 16 ∧ 0 ≤ S ∧ S < 64 ∧ InR t ∧ InR w ∧ (∀ i, 0 ≤ i → i < 6 → InR (σ 18 i)) ∧ (∀ i, 0 ≤ i → i < 6 → bt S i = 1 → InR (σ 29 i) ∧ InR (σ 30 i)) ∧ Q (1, chF (σ 29) (σ 30) (σ 18) t S w) σ)
theorem w_X8_changes_e (a : Int) (t : Int) (S : Int) (w : Int) (σ : Mem) (Q : AV → Mem → Prop) : w_X8_changes [(24, 36), (16, a), (0, t), (0, S), (0, w)] σ Q = (a = 16 ∧ 0 ≤ S ∧ S < 64 ∧ InR t ∧ InR w ∧ (∀ i, 0 ≤ i → i < 6 → InR (σ 18 i)) ∧ (∀ i, 0 ≤ i → i < 6 → bt S i = 1 → InR (σ 29 i) ∧ InR (σ 30 i)) ∧ Q (1, chF (σ 29) (σ 30) (σ 18) t S w) σ) := by
  apply propext; constructor
  · rintro ⟨a', t', S', w', h9, hb9⟩; cases h9; exact hb9
  · intro hb9; exact ⟨a, t, S, w, rfl, hb9⟩

set_option maxRecDepth 100000 in
set_option maxHeartbeats 4000000 in
theorem s_X8_changes : ∀ av σ Q, w_X8_changes av σ Q → amCall 0 0 0 TT yX8_changes cX8_changes 8 (some .long) av σ Q := by
  rintro av σ Q ⟨a, t, S, w, rfl, rfl, h0, h1, ht, hw, hse, hr, h⟩
  refine am_m [6] (inv_chg σ t S w) (own := RX8) (A := look a_X8_changes) (fun X e1 e2 hB => o_X8_changes e1 e2 hB) rfl (by decide +kernel) rfl rfl ?_ ⟨60, ?_⟩ (w := 8)
  · rintro n pc ls st σ' ⟨rfl, rfl, rfl, k, rfl, hk, hnb⟩
    refine ⟨60, ?_⟩
    by_cases hlt : k < 6
    · have hbk := bt_e (x := S) (i := k) ⟨by omega, by omega⟩ (by omega) (by omega)
      have b01 := bt_b S k
      have hsk := hse k (by omega) (by omega)
      have hrk := hr k (by omega) (by omega)
      simp only [↓reduceIte, inR_0, inR_1, inR_m, vSw2_e, swP_n, swP_c, vI_e, vL_e, vNull_e, vIload_e, vLload_e, vAload_e, vIstore_e, vLstore_e, vAstore_e, vIinc_e, vIadd_e, vIsub_e, vImul_e, vIand_e, vIor_e, vIxor_e, vIshl_e, vIshr_e, vIushr_e, vIdiv_e, vIrem_e, vLadd_e, vLsub_e, vLmul_e, vLand_e, vLor_e, vLxor_e, vLdiv_e, vLrem_e, vLushr_e, vLshl_e, vLcmp_e, vIneg_e, vI2l_e, vL2i_e, vI2b_e, vI2c_e, vDup_e, vPop_e, vDup2_e, vGoto_e, vIcEq_e, vIfEq_e, vIcNe_e, vIfNe_e, vIcLt_e, vIfLt_e, vIcGe_e, vIfGe_e, vIcGt_e, vIfGt_e, vIcLe_e, vIfLe_e, vNonnull_e, vSw_e, vGetI_e, vGetL_e, vGetR_e, vPutI_e, vPutZ_e, vPutL_e, vPutR_e, vIald_e, vIald_s, vLald_e, vBald_e, vBald_s, vAald_e, vIast_e, vLast_e, vBast_e, vAast_e, vAlen_e8, vAlen_e9, vAlen_e10, vAlen_e11, vAlen_e5, vAlen_e3, vGets_e, vCompact_e, vLdcS_e, vIret_e, vZret_e, vCret_e, vBret_e, vLret_e, vVret_e, vAret_e, vCallM_e0, vCallMV_e0, vCallS_e0, vCallSV_e0, vCallM_e1, vCallMV_e1, vCallS_e1, vCallSV_e1, vCallM_e2, vCallMV_e2, vCallS_e2, vCallSV_e2, vCallM_e3, vCallMV_e3, vCallS_e3, vCallSV_e3, vCallM_e4, vCallMV_e4, vCallS_e4, vCallSV_e4, vCallM_e5, vCallMV_e5, vCallS_e5, vCallSV_e5, vCallM_e6, vCallMV_e6, vCallS_e6, vCallSV_e6, vCallM_e7, vCallMV_e7, vCallS_e7, vCallSV_e7, vBad_e, vStrVal_e, vStrCod_e, vForm_e, vCallT_e0, vCallT_e1, vCallT_e2, vCopy_e, rf_0_0, rf_0_1, rf_0_2, rf_0_3, rf_0_4, rf_0_7, rf_0_10, rf_0_11, rf_0_12, rf_0_13, rf_0_14, rf_0_15, rf_0_16, rf_1_0, rf_3_0, rf_3_1, rf_6_0, rf_6_1, rf_9_0, rf_9_1, rf_9_3, rf_13_0, rf_13_1, rf_13_2, rf_16_0, rf_16_1, rf_16_2, rf_16_3, rf_21_0, rf_21_1, rf_21_2, rf_21_3, rf_26_0, rf_26_1, rf_26_2, rf_26_3, rf_26_4, rf_26_5, rf_26_6, rf_31_0, rf_31_2, rf_31_5, rf_31_6, rf_36_0, rf_36_1, rf_36_2, rf_36_3, rf_39_0, rf_39_1, rf_39_2, rf_41_0, rf_41_1, rf_41_2, rf_41_3, rf_5000_1, rf_5000_2, rf_5000_3, rf_5000_4, rf_5000_5, rf_5000_15, rf_5000_16, rf_5000_18, rf_5000_19, rf_5000_20, rf_5000_21, rf_5000_22, rf_5000_23, rf_5000_24, rf_5000_25, rf_5000_26, rf_5000_27, rf_5000_36, rf_5000_37, rf_5000_40, rf_5000_41, rf_5000_42, rf_5000_43, rf_5000_44, rf_5000_45, rf_5000_47, rf_5000_52, rf_5000_54, rf_5000_55, rf_100_0, rf_100_1, rf_103_0, rf_103_1, rf_106_0, rf_106_1, rf_109_0, rf_109_1, al_2, al_4, al_5, al_7, al_8, al_10, al_11, al_12, al_14, al_15, al_17, al_18, al_19, al_20, al_22, al_23, al_24, al_25, al_27, al_28, al_29, al_30, al_32, al_33, al_34, al_35, al_37, al_38, al_40, al_42, al_5001, al_5002, al_5003, al_5004, al_5005, al_5006, al_5007, al_5008, al_5009, al_5010, al_5011, al_5012, al_5013, al_5014, al_5015, al_5016, al_5017, al_5018, al_5019, al_5020, al_5021, al_5022, al_5023, al_5024, al_5025, al_5026, al_9000, al_101, al_102, al_104, al_105, al_107, al_108, al_110, al_111, vcs_e, lg_c0, lg_cs, lg_nil, set_c0, set_cs, okst_0, okst_s, acok_n, acok_c, List.contains_nil, List.contains_cons, Bool.or_false, Bool.false_or, Bool.false_eq_true, if_false, if_true, ite_self, ne_eq, true_and, and_true, not_false_eq_true, not_true_eq_false, false_imp_iff, true_imp_iff, Nat.ble_eq, Bool.and_eq_true, reduceCtorEq, or_false, false_or, or_true, true_or, false_and, and_false, and_self, Int.reduceLE, Int.reduceAdd, Int.reduceSub, Int.reduceMul, Int.reduceNeg, Int.reduceLT, Int.reduceEq, Int.reduceNe, Nat.reduceBEq, Nat.reduceBNe, Nat.reduceEqDiff, amCmp_in, amCmp_lt, amCmp_le, amCmp_gt, amCmp_ge, amCmp_eq, amCmp_ne, Nat.reduceLeDiff, Nat.reduceSub, Bool.and_true, Bool.true_and, Bool.and_self, Bool.or_true, Bool.true_or, isRf_3, isRf_4, isRf_5, isRf_8, isRf_9, isRf_10, isRf_11, isRf_15, isRf_16, isRf_17, isRf_18, isRf_19, isRf_20, isRf_21, isRf_22, isRf_23, isRf_24, isRf_25, isRf_26, isRf_27, isRf_28, k_X8_changes_0, k_X8_changes_1, k_X8_changes_3, k_X8_changes_4, k_X8_changes_6, k_X8_changes_8, k_X8_changes_10, k_X8_changes_13, k_X8_changes_14, k_X8_changes_16, k_X8_changes_17, k_X8_changes_18, k_X8_changes_19, k_X8_changes_22, k_X8_changes_23, k_X8_changes_26, k_X8_changes_29, k_X8_changes_31, k_X8_changes_32, k_X8_changes_34, k_X8_changes_37, k_X8_changes_38, k_X8_changes_41, k_X8_changes_44, k_X8_changes_46, k_X8_changes_47, k_X8_changes_48, k_X8_changes_51, k_X8_changes_54, k_X8_changes_55, k_X8_changes_57, k_X8_changes_58, k_X8_changes_61, k_X8_changes_63, k_X8_changes_64, k_X8_changes_65, k_X8_changes_68, k_X8_changes_69, k_X8_changes_72, k_X8_changes_75, k_X8_changes_76, k_X8_changes_78, k_X8_changes_81, k_X8_changes_84, k_X8_changes_86, hbk]
      have nx : ∀ v, v = csF (σ' 18) t S (k + 1) → ¬ (bt S k = 1 ∧ (σ' 29 k < w ∨ σ' 30 k ≠ -1)) → ∃ k', k' < n ∧ inv_chg σ' t S w k' 6 [(24, 36), (16, 16), (0, t), (0, S), (0, w), (1, v), (7, 0), (0, (k : Int) + 1)] [] σ' := fun v hv hn => ⟨n - 1, by omega, rfl, rfl, rfl, k + 1, by rw [hv]; rfl, by omega, fun ⟨i, i0, i1, i2, i3⟩ => by
        by_cases e : i = k
        · rw [e] at i2 i3; exact hn ⟨i2, i3⟩
        · exact hnb ⟨i, i0, by omega, i2, i3⟩⟩
      have e : csF (σ' 18) t S (k + 1) = csF (σ' 18) t S k + if bt S k = 1 then (if σ' 18 k = t then 0 else 1000000) else 0 := rfl
      by_cases c : bt S k = 1
      · obtain ⟨r1, r2⟩ := hrk c
        rw [if_pos c] at e
        by_cases cb : σ' 29 k < w ∨ σ' 30 k ≠ -1
        · rw [chF_t ⟨k, by omega, by omega, c, cb⟩] at h
          repeat' (first | assumption | apply And.intro | intro _)
          all_goals first | omega | exact absurd trivial (by assumption) | exact h
        · by_cases cs : σ' 18 k = t
          · rw [if_pos cs] at e
            have i9 := nx _ e.symm (fun q => cb q.2)
            repeat' (first | assumption | apply And.intro | intro _)
            all_goals first | omega | exact absurd trivial (by assumption) | exact i9
          · rw [if_neg cs] at e
            have i9 := nx _ e.symm (fun q => cb q.2)
            repeat' (first | assumption | apply And.intro | intro _)
            all_goals first | omega | exact absurd trivial (by assumption) | exact i9
      · rw [if_neg c, Int.add_zero] at e
        have i9 := nx _ e.symm (fun q => c q.1)
        repeat' (first | assumption | apply And.intro | intro _)
        all_goals first | omega | exact absurd trivial (by assumption) | exact i9
    · have e6 : k = 6 := by omega
      subst e6
      rw [chF_f hnb] at h
      simp only [↓reduceIte, inR_0, inR_1, inR_m, vSw2_e, swP_n, swP_c, vI_e, vL_e, vNull_e, vIload_e, vLload_e, vAload_e, vIstore_e, vLstore_e, vAstore_e, vIinc_e, vIadd_e, vIsub_e, vImul_e, vIand_e, vIor_e, vIxor_e, vIshl_e, vIshr_e, vIushr_e, vIdiv_e, vIrem_e, vLadd_e, vLsub_e, vLmul_e, vLand_e, vLor_e, vLxor_e, vLdiv_e, vLrem_e, vLushr_e, vLshl_e, vLcmp_e, vIneg_e, vI2l_e, vL2i_e, vI2b_e, vI2c_e, vDup_e, vPop_e, vDup2_e, vGoto_e, vIcEq_e, vIfEq_e, vIcNe_e, vIfNe_e, vIcLt_e, vIfLt_e, vIcGe_e, vIfGe_e, vIcGt_e, vIfGt_e, vIcLe_e, vIfLe_e, vNonnull_e, vSw_e, vGetI_e, vGetL_e, vGetR_e, vPutI_e, vPutZ_e, vPutL_e, vPutR_e, vIald_e, vIald_s, vLald_e, vBald_e, vBald_s, vAald_e, vIast_e, vLast_e, vBast_e, vAast_e, vAlen_e8, vAlen_e9, vAlen_e10, vAlen_e11, vAlen_e5, vAlen_e3, vGets_e, vCompact_e, vLdcS_e, vIret_e, vZret_e, vCret_e, vBret_e, vLret_e, vVret_e, vAret_e, vCallM_e0, vCallMV_e0, vCallS_e0, vCallSV_e0, vCallM_e1, vCallMV_e1, vCallS_e1, vCallSV_e1, vCallM_e2, vCallMV_e2, vCallS_e2, vCallSV_e2, vCallM_e3, vCallMV_e3, vCallS_e3, vCallSV_e3, vCallM_e4, vCallMV_e4, vCallS_e4, vCallSV_e4, vCallM_e5, vCallMV_e5, vCallS_e5, vCallSV_e5, vCallM_e6, vCallMV_e6, vCallS_e6, vCallSV_e6, vCallM_e7, vCallMV_e7, vCallS_e7, vCallSV_e7, vBad_e, vStrVal_e, vStrCod_e, vForm_e, vCallT_e0, vCallT_e1, vCallT_e2, vCopy_e, rf_0_0, rf_0_1, rf_0_2, rf_0_3, rf_0_4, rf_0_7, rf_0_10, rf_0_11, rf_0_12, rf_0_13, rf_0_14, rf_0_15, rf_0_16, rf_1_0, rf_3_0, rf_3_1, rf_6_0, rf_6_1, rf_9_0, rf_9_1, rf_9_3, rf_13_0, rf_13_1, rf_13_2, rf_16_0, rf_16_1, rf_16_2, rf_16_3, rf_21_0, rf_21_1, rf_21_2, rf_21_3, rf_26_0, rf_26_1, rf_26_2, rf_26_3, rf_26_4, rf_26_5, rf_26_6, rf_31_0, rf_31_2, rf_31_5, rf_31_6, rf_36_0, rf_36_1, rf_36_2, rf_36_3, rf_39_0, rf_39_1, rf_39_2, rf_41_0, rf_41_1, rf_41_2, rf_41_3, rf_5000_1, rf_5000_2, rf_5000_3, rf_5000_4, rf_5000_5, rf_5000_15, rf_5000_16, rf_5000_18, rf_5000_19, rf_5000_20, rf_5000_21, rf_5000_22, rf_5000_23, rf_5000_24, rf_5000_25, rf_5000_26, rf_5000_27, rf_5000_36, rf_5000_37, rf_5000_40, rf_5000_41, rf_5000_42, rf_5000_43, rf_5000_44, rf_5000_45, rf_5000_47, rf_5000_52, rf_5000_54, rf_5000_55, rf_100_0, rf_100_1, rf_103_0, rf_103_1, rf_106_0, rf_106_1, rf_109_0, rf_109_1, al_2, al_4, al_5, al_7, al_8, al_10, al_11, al_12, al_14, al_15, al_17, al_18, al_19, al_20, al_22, al_23, al_24, al_25, al_27, al_28, al_29, al_30, al_32, al_33, al_34, al_35, al_37, al_38, al_40, al_42, al_5001, al_5002, al_5003, al_5004, al_5005, al_5006, al_5007, al_5008, al_5009, al_5010, al_5011, al_5012, al_5013, al_5014, al_5015, al_5016, al_5017, al_5018, al_5019, al_5020, al_5021, al_5022, al_5023, al_5024, al_5025, al_5026, al_9000, al_101, al_102, al_104, al_105, al_107, al_108, al_110, al_111, vcs_e, lg_c0, lg_cs, lg_nil, set_c0, set_cs, okst_0, okst_s, acok_n, acok_c, List.contains_nil, List.contains_cons, Bool.or_false, Bool.false_or, Bool.false_eq_true, if_false, if_true, ite_self, ne_eq, true_and, and_true, not_false_eq_true, not_true_eq_false, false_imp_iff, true_imp_iff, Nat.ble_eq, Bool.and_eq_true, reduceCtorEq, or_false, false_or, or_true, true_or, false_and, and_false, and_self, Int.reduceLE, Int.reduceAdd, Int.reduceSub, Int.reduceMul, Int.reduceNeg, Int.reduceLT, Int.reduceEq, Int.reduceNe, Nat.reduceBEq, Nat.reduceBNe, Nat.reduceEqDiff, amCmp_in, amCmp_lt, amCmp_le, amCmp_gt, amCmp_ge, amCmp_eq, amCmp_ne, Nat.reduceLeDiff, Nat.reduceSub, Bool.and_true, Bool.true_and, Bool.and_self, Bool.or_true, Bool.true_or, isRf_3, isRf_4, isRf_5, isRf_8, isRf_9, isRf_10, isRf_11, isRf_15, isRf_16, isRf_17, isRf_18, isRf_19, isRf_20, isRf_21, isRf_22, isRf_23, isRf_24, isRf_25, isRf_26, isRf_27, isRf_28, k_X8_changes_0, k_X8_changes_1, k_X8_changes_3, k_X8_changes_4, k_X8_changes_6, k_X8_changes_8, k_X8_changes_10, k_X8_changes_13, k_X8_changes_14, k_X8_changes_16, k_X8_changes_17, k_X8_changes_18, k_X8_changes_19, k_X8_changes_22, k_X8_changes_23, k_X8_changes_26, k_X8_changes_29, k_X8_changes_31, k_X8_changes_32, k_X8_changes_34, k_X8_changes_37, k_X8_changes_38, k_X8_changes_41, k_X8_changes_44, k_X8_changes_46, k_X8_changes_47, k_X8_changes_48, k_X8_changes_51, k_X8_changes_54, k_X8_changes_55, k_X8_changes_57, k_X8_changes_58, k_X8_changes_61, k_X8_changes_63, k_X8_changes_64, k_X8_changes_65, k_X8_changes_68, k_X8_changes_69, k_X8_changes_72, k_X8_changes_75, k_X8_changes_76, k_X8_changes_78, k_X8_changes_81, k_X8_changes_84, k_X8_changes_86]
      repeat' (first | assumption | apply And.intro | intro _)
      all_goals first | omega | exact absurd trivial (by assumption) | exact h
  · change vcs _ _ _ _ 60 0 [(24, 36), (16, 16), (0, t), (0, S), (0, w), (6, 0), (6, 0), (6, 0)] [] σ
    simp only [↓reduceIte, inR_0, inR_1, inR_m, vI_e, vL_e, vNull_e, vIload_e, vLload_e, vAload_e, vIstore_e, vLstore_e, vAstore_e, vIinc_e, vIadd_e, vIsub_e, vImul_e, vIand_e, vIor_e, vIxor_e, vIshl_e, vIshr_e, vIushr_e, vIdiv_e, vIrem_e, vLadd_e, vLsub_e, vLmul_e, vLand_e, vLor_e, vLxor_e, vLdiv_e, vLrem_e, vLushr_e, vLshl_e, vLcmp_e, vIneg_e, vI2l_e, vL2i_e, vI2b_e, vI2c_e, vDup_e, vPop_e, vDup2_e, vGoto_e, vIcEq_e, vIfEq_e, vIcNe_e, vIfNe_e, vIcLt_e, vIfLt_e, vIcGe_e, vIfGe_e, vIcGt_e, vIfGt_e, vIcLe_e, vIfLe_e, vNonnull_e, vSw_e, vGetI_e, vGetL_e, vGetR_e, vPutI_e, vPutZ_e, vPutL_e, vPutR_e, vIald_e, vIald_s, vLald_e, vBald_e, vBald_s, vAald_e, vIast_e, vLast_e, vBast_e, vAast_e, vAlen_e8, vAlen_e9, vAlen_e10, vAlen_e11, vAlen_e5, vAlen_e3, vGets_e, vCompact_e, vLdcS_e, vIret_e, vZret_e, vCret_e, vBret_e, vLret_e, vVret_e, vAret_e, vCallM_e0, vCallMV_e0, vCallS_e0, vCallSV_e0, vCallM_e1, vCallMV_e1, vCallS_e1, vCallSV_e1, vCallM_e2, vCallMV_e2, vCallS_e2, vCallSV_e2, vCallM_e3, vCallMV_e3, vCallS_e3, vCallSV_e3, vCallM_e4, vCallMV_e4, vCallS_e4, vCallSV_e4, vCallM_e5, vCallMV_e5, vCallS_e5, vCallSV_e5, vCallM_e6, vCallMV_e6, vCallS_e6, vCallSV_e6, vCallM_e7, vCallMV_e7, vCallS_e7, vCallSV_e7, vBad_e, vStrVal_e, vStrCod_e, vForm_e, vCallT_e0, vCallT_e1, vCallT_e2, vCopy_e, rf_0_0, rf_0_1, rf_0_2, rf_0_3, rf_0_4, rf_0_7, rf_0_10, rf_0_11, rf_0_12, rf_0_13, rf_0_14, rf_0_15, rf_0_16, rf_1_0, rf_3_0, rf_3_1, rf_6_0, rf_6_1, rf_9_0, rf_9_1, rf_9_3, rf_13_0, rf_13_1, rf_13_2, rf_16_0, rf_16_1, rf_16_2, rf_16_3, rf_21_0, rf_21_1, rf_21_2, rf_21_3, rf_26_0, rf_26_1, rf_26_2, rf_26_3, rf_26_4, rf_26_5, rf_26_6, rf_31_0, rf_31_2, rf_31_5, rf_31_6, rf_36_0, rf_36_1, rf_36_2, rf_36_3, rf_39_0, rf_39_1, rf_39_2, rf_41_0, rf_41_1, rf_41_2, rf_41_3, rf_5000_1, rf_5000_2, rf_5000_3, rf_5000_4, rf_5000_5, rf_5000_15, rf_5000_16, rf_5000_18, rf_5000_19, rf_5000_20, rf_5000_21, rf_5000_22, rf_5000_23, rf_5000_24, rf_5000_25, rf_5000_26, rf_5000_27, rf_5000_36, rf_5000_37, rf_5000_40, rf_5000_41, rf_5000_42, rf_5000_43, rf_5000_44, rf_5000_45, rf_5000_47, rf_5000_52, rf_5000_54, rf_5000_55, rf_100_0, rf_100_1, rf_103_0, rf_103_1, rf_106_0, rf_106_1, rf_109_0, rf_109_1, al_2, al_4, al_5, al_7, al_8, al_10, al_11, al_12, al_14, al_15, al_17, al_18, al_19, al_20, al_22, al_23, al_24, al_25, al_27, al_28, al_29, al_30, al_32, al_33, al_34, al_35, al_37, al_38, al_40, al_42, al_5001, al_5002, al_5003, al_5004, al_5005, al_5006, al_5007, al_5008, al_5009, al_5010, al_5011, al_5012, al_5013, al_5014, al_5015, al_5016, al_5017, al_5018, al_5019, al_5020, al_5021, al_5022, al_5023, al_5024, al_5025, al_5026, al_9000, al_101, al_102, al_104, al_105, al_107, al_108, al_110, al_111, vcs_e, lg_c0, lg_cs, lg_nil, set_c0, set_cs, okst_0, okst_s, acok_n, acok_c, List.contains_nil, List.contains_cons, Bool.or_false, Bool.false_or, Bool.false_eq_true, if_false, if_true, ite_self, ne_eq, true_and, and_true, not_false_eq_true, not_true_eq_false, false_imp_iff, true_imp_iff, Nat.ble_eq, Bool.and_eq_true, reduceCtorEq, or_false, false_or, or_true, true_or, false_and, and_false, and_self, Int.reduceLE, Int.reduceAdd, Int.reduceSub, Int.reduceMul, Int.reduceNeg, Int.reduceLT, Int.reduceEq, Int.reduceNe, Nat.reduceBEq, Nat.reduceBNe, Nat.reduceEqDiff, amCmp_in, amCmp_lt, amCmp_le, amCmp_gt, amCmp_ge, amCmp_eq, amCmp_ne, Nat.reduceLeDiff, Nat.reduceSub, Bool.and_true, Bool.true_and, Bool.and_self, Bool.or_true, Bool.true_or, isRf_3, isRf_4, isRf_5, isRf_8, isRf_9, isRf_10, isRf_11, isRf_15, isRf_16, isRf_17, isRf_18, isRf_19, isRf_20, isRf_21, isRf_22, isRf_23, isRf_24, isRf_25, isRf_26, isRf_27, isRf_28, k_X8_changes_0, k_X8_changes_1, k_X8_changes_3, k_X8_changes_4, k_X8_changes_6, k_X8_changes_8, k_X8_changes_10, k_X8_changes_13, k_X8_changes_14, k_X8_changes_16, k_X8_changes_17, k_X8_changes_18, k_X8_changes_19, k_X8_changes_22, k_X8_changes_23, k_X8_changes_26, k_X8_changes_29, k_X8_changes_31, k_X8_changes_32, k_X8_changes_34, k_X8_changes_37, k_X8_changes_38, k_X8_changes_41, k_X8_changes_44, k_X8_changes_46, k_X8_changes_47, k_X8_changes_48, k_X8_changes_51, k_X8_changes_54, k_X8_changes_55, k_X8_changes_57, k_X8_changes_58, k_X8_changes_61, k_X8_changes_63, k_X8_changes_64, k_X8_changes_65, k_X8_changes_68, k_X8_changes_69, k_X8_changes_72, k_X8_changes_75, k_X8_changes_76, k_X8_changes_78, k_X8_changes_81, k_X8_changes_84, k_X8_changes_86]
    exact ⟨6, rfl, rfl, rfl, 0, rfl, rfl, fun ⟨i, i0, i1, i2, i3⟩ => by omega⟩
