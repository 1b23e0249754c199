/-! the reference: cell 5000 -/

theorem wd_1305 : Cond.fieldLink RX12 111 "ArmchairHouseModel" "thrown" "I" ∈ TBL := tb_tab (List.mem_of_getElem? (i := 1305) (by decide +kernel)) rfl
theorem fl_X12_111 : amFl RX12 12 0 111 RX12 TX12 57 := ⟨rfl, inT_12, by decide, wd_1305⟩
def a_X12_thrown : AC := [(0, vAload 0 1), (1, vGetI 28 0 4), (4, vIret)]
theorem k_X12_thrown_0 : look a_X12_thrown 0 = vAload 0 1 := rfl
theorem k_X12_thrown_1 : look a_X12_thrown 1 = vGetI 28 0 4 := rfl
theorem k_X12_thrown_4 : look a_X12_thrown 4 = vIret := rfl
theorem o_X12_thrown {X : amX} (e1 : XT X = TT) (e2 : XD X = 0) (hB : amB X RX12 cX12_thrown (some .int) 1) : ∀ pc, amOK X pc (look a_X12_thrown pc) := by
  have hT : amTok (XT X) := e1 ▸ TT_ok
  refine look_ok ?_
  unfold a_X12_thrown
  refine fc (ok_aload_n hB dX12_thrown_0) ?_
  refine fc (ok_getI hB hT fl_X12_111 rfl rfl (Or.inl af_12_0) dX12_thrown_1) ?_
  refine fc (ok_iret hB dX12_thrown_4) ?_
  exact fn

def w_X12_thrown : WP := fun av σ Q => av = [(28, 5000)] ∧ (Q (0, σ 5000 0) σ)
theorem w_X12_thrown_e  (σ : Mem) (Q : AV → Mem → Prop) : w_X12_thrown [(28, 5000)] σ Q = (Q (0, σ 5000 0) σ) := by
  apply propext; constructor
  · rintro ⟨h9, hb9⟩; cases h9; exact hb9
  · intro hb9; exact ⟨rfl, hb9⟩

set_option maxRecDepth 100000 in
set_option maxHeartbeats 4000000 in
theorem s_X12_thrown : ∀ av σ Q, w_X12_thrown av σ Q → amCall 0 0 0 TT yX12_thrown cX12_thrown 1 (some .int) av σ Q := by
  rintro av σ Q ⟨rfl, h⟩
  refine am_m0 (own := RX12) (A := look a_X12_thrown) (fun X e1 e2 hB => o_X12_thrown e1 e2 hB) rfl (by decide +kernel) rfl rfl 190 (w := 1) ?_
  change vcs _ _ _ _ 190 0 [(28, 5000)] [] σ
  simp only [↓reduceIte, inR_0, inR_1, inR_m, vSw2_e, swP_n, swP_c, vI_e, vL_e, vNull_e, vIload_e, vLload_e, vAload_e, vIstore_e, vLstore_e, vAstore_e, vIinc_e, vIadd_e, vIsub_e, vImul_e, vIand_e, vIor_e, vIxor_e, vIshl_e, vIshr_e, vIushr_e, vIdiv_e, vIrem_e, vLadd_e, vLsub_e, vLmul_e, vLand_e, vLor_e, vLxor_e, vLdiv_e, vLrem_e, vLushr_e, vLshl_e, vLcmp_e, vIneg_e, vI2l_e, vL2i_e, vI2b_e, vI2c_e, vDup_e, vPop_e, vDup2_e, vGoto_e, vIcEq_e, vIfEq_e, vIcNe_e, vIfNe_e, vIcLt_e, vIfLt_e, vIcGe_e, vIfGe_e, vIcGt_e, vIfGt_e, vIcLe_e, vIfLe_e, vNonnull_e, vSw_e, vGetI_e, vGetL_e, vGetR_e, vPutI_e, vPutZ_e, vPutL_e, vPutR_e, vIald_e, vIald_s, vLald_e, vBald_e, vBald_s, vAald_e, vIast_e, vLast_e, vBast_e, vAast_e, vAlen_e8, vAlen_e9, vAlen_e10, vAlen_e11, vAlen_e5, vAlen_e3, vGets_e, vCompact_e, vLdcS_e, vIret_e, vZret_e, vCret_e, vBret_e, vLret_e, vVret_e, vAret_e, vCallM_e0, vCallMV_e0, vCallS_e0, vCallSV_e0, vCallM_e1, vCallMV_e1, vCallS_e1, vCallSV_e1, vCallM_e2, vCallMV_e2, vCallS_e2, vCallSV_e2, vCallM_e3, vCallMV_e3, vCallS_e3, vCallSV_e3, vCallM_e4, vCallMV_e4, vCallS_e4, vCallSV_e4, vCallM_e5, vCallMV_e5, vCallS_e5, vCallSV_e5, vCallM_e6, vCallMV_e6, vCallS_e6, vCallSV_e6, vCallM_e7, vCallMV_e7, vCallS_e7, vCallSV_e7, vBad_e, vStrVal_e, vStrCod_e, vForm_e, vCallT_e0, vCallT_e1, vCallT_e2, vCopy_e, rf_0_0, rf_0_1, rf_0_2, rf_0_3, rf_0_4, rf_0_7, rf_0_10, rf_0_11, rf_0_12, rf_0_13, rf_0_14, rf_0_15, rf_0_16, rf_1_0, rf_3_0, rf_3_1, rf_6_0, rf_6_1, rf_9_0, rf_9_1, rf_9_3, rf_13_0, rf_13_1, rf_13_2, rf_16_0, rf_16_1, rf_16_2, rf_16_3, rf_21_0, rf_21_1, rf_21_2, rf_21_3, rf_26_0, rf_26_1, rf_26_2, rf_26_3, rf_26_4, rf_26_5, rf_26_6, rf_31_0, rf_31_2, rf_31_5, rf_31_6, rf_36_0, rf_36_1, rf_36_2, rf_36_3, rf_39_0, rf_39_1, rf_39_2, rf_41_0, rf_41_1, rf_41_2, rf_41_3, rf_5000_1, rf_5000_2, rf_5000_3, rf_5000_4, rf_5000_5, rf_5000_15, rf_5000_16, rf_5000_18, rf_5000_19, rf_5000_20, rf_5000_21, rf_5000_22, rf_5000_23, rf_5000_24, rf_5000_25, rf_5000_26, rf_5000_27, rf_5000_36, rf_5000_37, rf_5000_40, rf_5000_41, rf_5000_42, rf_5000_43, rf_5000_44, rf_5000_45, rf_5000_47, rf_5000_52, rf_5000_54, rf_5000_55, rf_100_0, rf_100_1, rf_103_0, rf_103_1, rf_106_0, rf_106_1, rf_109_0, rf_109_1, al_2, al_4, al_5, al_7, al_8, al_10, al_11, al_12, al_14, al_15, al_17, al_18, al_19, al_20, al_22, al_23, al_24, al_25, al_27, al_28, al_29, al_30, al_32, al_33, al_34, al_35, al_37, al_38, al_40, al_42, al_5001, al_5002, al_5003, al_5004, al_5005, al_5006, al_5007, al_5008, al_5009, al_5010, al_5011, al_5012, al_5013, al_5014, al_5015, al_5016, al_5017, al_5018, al_5019, al_5020, al_5021, al_5022, al_5023, al_5024, al_5025, al_5026, al_9000, al_101, al_102, al_104, al_105, al_107, al_108, al_110, al_111, vcs_e, lg_c0, lg_cs, lg_nil, set_c0, set_cs, okst_0, okst_s, acok_n, acok_c, List.contains_nil, List.contains_cons, Bool.or_false, Bool.false_or, Bool.false_eq_true, if_false, if_true, ite_self, ne_eq, true_and, and_true, not_false_eq_true, not_true_eq_false, false_imp_iff, true_imp_iff, Nat.ble_eq, Bool.and_eq_true, reduceCtorEq, or_false, false_or, or_true, true_or, false_and, and_false, and_self, Int.reduceLE, Int.reduceAdd, Int.reduceSub, Int.reduceMul, Int.reduceNeg, Int.reduceLT, Int.reduceEq, Int.reduceNe, Nat.reduceBEq, Nat.reduceBNe, Nat.reduceEqDiff, amCmp_in, amCmp_lt, amCmp_le, amCmp_gt, amCmp_ge, amCmp_eq, amCmp_ne, Nat.reduceLeDiff, Nat.reduceSub, Bool.and_true, Bool.true_and, Bool.and_self, Bool.or_true, Bool.true_or, isRf_3, isRf_4, isRf_5, isRf_8, isRf_9, isRf_10, isRf_11, isRf_15, isRf_16, isRf_17, isRf_18, isRf_19, isRf_20, isRf_21, isRf_22, isRf_23, isRf_24, isRf_25, isRf_26, isRf_27, isRf_28, k_X12_thrown_0, k_X12_thrown_1, k_X12_thrown_4, up_s, up_nj, up_na, up_up, savR_o, cpy_o, fillm_o, setAud_o, setv_o, setv_s, Int.reduceNe, Int.reduceEq, Int.reduceLT, Int.reduceAdd, not_false_eq_true, ne_eq, or_true, true_or]
  repeat' (first | assumption | apply And.intro | intro _)
  all_goals first | omega | exact absurd trivial (by assumption) | exact h
def a_X12_isIn : AC := [(0, vLload 0 1), (1, vLload 2 2), (2, vLcmp 3), (3, vIfLt 17 6), (6, vLload 0 7), (7, vLload 4 9), (9, vLcmp 10), (10, vIfGt 17 13), (13, vI 1 14), (14, vGoto 18), (17, vI 0 18), (18, vZret)]
theorem k_X12_isIn_0 : look a_X12_isIn 0 = vLload 0 1 := rfl
theorem k_X12_isIn_1 : look a_X12_isIn 1 = vLload 2 2 := rfl
theorem k_X12_isIn_2 : look a_X12_isIn 2 = vLcmp 3 := rfl
theorem k_X12_isIn_3 : look a_X12_isIn 3 = vIfLt 17 6 := rfl
theorem k_X12_isIn_6 : look a_X12_isIn 6 = vLload 0 7 := rfl
theorem k_X12_isIn_7 : look a_X12_isIn 7 = vLload 4 9 := rfl
theorem k_X12_isIn_9 : look a_X12_isIn 9 = vLcmp 10 := rfl
theorem k_X12_isIn_10 : look a_X12_isIn 10 = vIfGt 17 13 := rfl
theorem k_X12_isIn_13 : look a_X12_isIn 13 = vI 1 14 := rfl
theorem k_X12_isIn_14 : look a_X12_isIn 14 = vGoto 18 := rfl
theorem k_X12_isIn_17 : look a_X12_isIn 17 = vI 0 18 := rfl
theorem k_X12_isIn_18 : look a_X12_isIn 18 = vZret := rfl
theorem o_X12_isIn {X : amX} (e1 : XT X = TT) (e2 : XD X = 0) (hB : amB X RX12 cX12_isIn (some .boolean) 6) : ∀ pc, amOK X pc (look a_X12_isIn pc) := by
  have hT : amTok (XT X) := e1 ▸ TT_ok
  refine look_ok ?_
  unfold a_X12_isIn
  refine fc (ok_lload_n hB dX12_isIn_0) ?_
  refine fc (ok_lload_n hB dX12_isIn_1) ?_
  refine fc (ok_lcmp hB dX12_isIn_2) ?_
  refine fc (ok_if_lt hB (t := 17) (by decide) dX12_isIn_3) ?_
  refine fc (ok_lload_n hB dX12_isIn_6) ?_
  refine fc (ok_lload hB dX12_isIn_7) ?_
  refine fc (ok_lcmp hB dX12_isIn_9) ?_
  refine fc (ok_if_gt hB (t := 17) (by decide) dX12_isIn_10) ?_
  refine fc (ok_iconst hB dX12_isIn_13) ?_
  refine fc (ok_goto hB (t := 18) (by decide) dX12_isIn_14) ?_
  refine fc (ok_iconst hB dX12_isIn_17) ?_
  refine fc (ok_zret hB dX12_isIn_18) ?_
  exact fn

def w_X12_isIn : WP := fun av σ Q => ∃ (v : Int) (a : Int) (b : Int), av = [(1, v), (1, a), (1, b)] ∧ (InL v ∧ InL a ∧ InL b ∧ Q (0, if a ≤ v ∧ v ≤ b then 1 else 0) σ)
theorem w_X12_isIn_e (v : Int) (a : Int) (b : Int) (σ : Mem) (Q : AV → Mem → Prop) : w_X12_isIn [(1, v), (1, a), (1, b)] σ Q = (InL v ∧ InL a ∧ InL b ∧ Q (0, if a ≤ v ∧ v ≤ b then 1 else 0) σ) := by
  apply propext; constructor
  · rintro ⟨v', a', b', h9, hb9⟩; cases h9; exact hb9
  · intro hb9; exact ⟨v, a, b, rfl, hb9⟩

set_option maxRecDepth 100000 in
set_option maxHeartbeats 4000000 in
theorem s_X12_isIn : ∀ av σ Q, w_X12_isIn av σ Q → amCall 0 0 0 TT yX12_isIn cX12_isIn 6 (some .boolean) av σ Q := by
  rintro av σ Q ⟨v, a, b, rfl, hv, ha, hb, h⟩
  refine am_m0 (own := RX12) (A := look a_X12_isIn) (fun X e1 e2 hB => o_X12_isIn e1 e2 hB) rfl (by decide +kernel) rfl rfl 190 (w := 6) ?_
  change vcs _ _ _ _ 190 0 [(1, v), (7, 0), (1, a), (7, 0), (1, b), (7, 0)] [] σ
  simp only [↓reduceIte, inR_0, inR_1, inR_m, vSw2_e, swP_n, swP_c, vI_e, vL_e, vNull_e, vIload_e, vLload_e, vAload_e, vIstore_e, vLstore_e, vAstore_e, vIinc_e, vIadd_e, vIsub_e, vImul_e, vIand_e, vIor_e, vIxor_e, vIshl_e, vIshr_e, vIushr_e, vIdiv_e, vIrem_e, vLadd_e, vLsub_e, vLmul_e, vLand_e, vLor_e, vLxor_e, vLdiv_e, vLrem_e, vLushr_e, vLshl_e, vLcmp_e, vIneg_e, vI2l_e, vL2i_e, vI2b_e, vI2c_e, vDup_e, vPop_e, vDup2_e, vGoto_e, vIcEq_e, vIfEq_e, vIcNe_e, vIfNe_e, vIcLt_e, vIfLt_e, vIcGe_e, vIfGe_e, vIcGt_e, vIfGt_e, vIcLe_e, vIfLe_e, vNonnull_e, vSw_e, vGetI_e, vGetL_e, vGetR_e, vPutI_e, vPutZ_e, vPutL_e, vPutR_e, vIald_e, vIald_s, vLald_e, vBald_e, vBald_s, vAald_e, vIast_e, vLast_e, vBast_e, vAast_e, vAlen_e8, vAlen_e9, vAlen_e10, vAlen_e11, vAlen_e5, vAlen_e3, vGets_e, vCompact_e, vLdcS_e, vIret_e, vZret_e, vCret_e, vBret_e, vLret_e, vVret_e, vAret_e, vCallM_e0, vCallMV_e0, vCallS_e0, vCallSV_e0, vCallM_e1, vCallMV_e1, vCallS_e1, vCallSV_e1, vCallM_e2, vCallMV_e2, vCallS_e2, vCallSV_e2, vCallM_e3, vCallMV_e3, vCallS_e3, vCallSV_e3, vCallM_e4, vCallMV_e4, vCallS_e4, vCallSV_e4, vCallM_e5, vCallMV_e5, vCallS_e5, vCallSV_e5, vCallM_e6, vCallMV_e6, vCallS_e6, vCallSV_e6, vCallM_e7, vCallMV_e7, vCallS_e7, vCallSV_e7, vBad_e, vStrVal_e, vStrCod_e, vForm_e, vCallT_e0, vCallT_e1, vCallT_e2, vCopy_e, rf_0_0, rf_0_1, rf_0_2, rf_0_3, rf_0_4, rf_0_7, rf_0_10, rf_0_11, rf_0_12, rf_0_13, rf_0_14, rf_0_15, rf_0_16, rf_1_0, rf_3_0, rf_3_1, rf_6_0, rf_6_1, rf_9_0, rf_9_1, rf_9_3, rf_13_0, rf_13_1, rf_13_2, rf_16_0, rf_16_1, rf_16_2, rf_16_3, rf_21_0, rf_21_1, rf_21_2, rf_21_3, rf_26_0, rf_26_1, rf_26_2, rf_26_3, rf_26_4, rf_26_5, rf_26_6, rf_31_0, rf_31_2, rf_31_5, rf_31_6, rf_36_0, rf_36_1, rf_36_2, rf_36_3, rf_39_0, rf_39_1, rf_39_2, rf_41_0, rf_41_1, rf_41_2, rf_41_3, rf_5000_1, rf_5000_2, rf_5000_3, rf_5000_4, rf_5000_5, rf_5000_15, rf_5000_16, rf_5000_18, rf_5000_19, rf_5000_20, rf_5000_21, rf_5000_22, rf_5000_23, rf_5000_24, rf_5000_25, rf_5000_26, rf_5000_27, rf_5000_36, rf_5000_37, rf_5000_40, rf_5000_41, rf_5000_42, rf_5000_43, rf_5000_44, rf_5000_45, rf_5000_47, rf_5000_52, rf_5000_54, rf_5000_55, rf_100_0, rf_100_1, rf_103_0, rf_103_1, rf_106_0, rf_106_1, rf_109_0, rf_109_1, al_2, al_4, al_5, al_7, al_8, al_10, al_11, al_12, al_14, al_15, al_17, al_18, al_19, al_20, al_22, al_23, al_24, al_25, al_27, al_28, al_29, al_30, al_32, al_33, al_34, al_35, al_37, al_38, al_40, al_42, al_5001, al_5002, al_5003, al_5004, al_5005, al_5006, al_5007, al_5008, al_5009, al_5010, al_5011, al_5012, al_5013, al_5014, al_5015, al_5016, al_5017, al_5018, al_5019, al_5020, al_5021, al_5022, al_5023, al_5024, al_5025, al_5026, al_9000, al_101, al_102, al_104, al_105, al_107, al_108, al_110, al_111, vcs_e, lg_c0, lg_cs, lg_nil, set_c0, set_cs, okst_0, okst_s, acok_n, acok_c, List.contains_nil, List.contains_cons, Bool.or_false, Bool.false_or, Bool.false_eq_true, if_false, if_true, ite_self, ne_eq, true_and, and_true, not_false_eq_true, not_true_eq_false, false_imp_iff, true_imp_iff, Nat.ble_eq, Bool.and_eq_true, reduceCtorEq, or_false, false_or, or_true, true_or, false_and, and_false, and_self, Int.reduceLE, Int.reduceAdd, Int.reduceSub, Int.reduceMul, Int.reduceNeg, Int.reduceLT, Int.reduceEq, Int.reduceNe, Nat.reduceBEq, Nat.reduceBNe, Nat.reduceEqDiff, amCmp_in, amCmp_lt, amCmp_le, amCmp_gt, amCmp_ge, amCmp_eq, amCmp_ne, Nat.reduceLeDiff, Nat.reduceSub, Bool.and_true, Bool.true_and, Bool.and_self, Bool.or_true, Bool.true_or, isRf_3, isRf_4, isRf_5, isRf_8, isRf_9, isRf_10, isRf_11, isRf_15, isRf_16, isRf_17, isRf_18, isRf_19, isRf_20, isRf_21, isRf_22, isRf_23, isRf_24, isRf_25, isRf_26, isRf_27, isRf_28, k_X12_isIn_0, k_X12_isIn_1, k_X12_isIn_2, k_X12_isIn_3, k_X12_isIn_6, k_X12_isIn_7, k_X12_isIn_9, k_X12_isIn_10, k_X12_isIn_13, k_X12_isIn_14, k_X12_isIn_17, k_X12_isIn_18, up_s, up_nj, up_na, up_up, savR_o, cpy_o, fillm_o, setAud_o, setv_o, setv_s, Int.reduceNe, Int.reduceEq, Int.reduceLT, Int.reduceAdd, not_false_eq_true, ne_eq, or_true, true_or]
  by_cases c : a ≤ v ∧ v ≤ b
  · rw [if_pos c] at h
    repeat' (first | assumption | apply And.intro | intro _)
    all_goals first | omega | exact absurd trivial (by assumption) | exact h
  · rw [if_neg c] at h
    repeat' (first | assumption | apply And.intro | intro _)
    all_goals first | omega | exact absurd trivial (by assumption) | exact h
def a_X12_has : AC := [(0, vIload 0 1), (1, vIload 1 2), (2, vIshr 3), (3, vI 1 4), (4, vIand 5), (5, vI 1 6), (6, vIcNe 13 9), (9, vI 1 10), (10, vGoto 14), (13, vI 0 14), (14, vZret)]
theorem k_X12_has_0 : look a_X12_has 0 = vIload 0 1 := rfl
theorem k_X12_has_1 : look a_X12_has 1 = vIload 1 2 := rfl
theorem k_X12_has_2 : look a_X12_has 2 = vIshr 3 := rfl
theorem k_X12_has_3 : look a_X12_has 3 = vI 1 4 := rfl
theorem k_X12_has_4 : look a_X12_has 4 = vIand 5 := rfl
theorem k_X12_has_5 : look a_X12_has 5 = vI 1 6 := rfl
theorem k_X12_has_6 : look a_X12_has 6 = vIcNe 13 9 := rfl
theorem k_X12_has_9 : look a_X12_has 9 = vI 1 10 := rfl
theorem k_X12_has_10 : look a_X12_has 10 = vGoto 14 := rfl
theorem k_X12_has_13 : look a_X12_has 13 = vI 0 14 := rfl
theorem k_X12_has_14 : look a_X12_has 14 = vZret := rfl
theorem o_X12_has {X : amX} (e1 : XT X = TT) (e2 : XD X = 0) (hB : amB X RX12 cX12_has (some .boolean) 2) : ∀ pc, amOK X pc (look a_X12_has pc) := by
  have hT : amTok (XT X) := e1 ▸ TT_ok
  refine look_ok ?_
  unfold a_X12_has
  refine fc (ok_iload_n hB dX12_has_0) ?_
  refine fc (ok_iload_n hB dX12_has_1) ?_
  refine fc (ok_ishr hB dX12_has_2) ?_
  refine fc (ok_iconst hB dX12_has_3) ?_
  refine fc (ok_iand hB dX12_has_4) ?_
  refine fc (ok_iconst hB dX12_has_5) ?_
  refine fc (ok_icmp_ne hB (t := 13) (by decide) dX12_has_6) ?_
  refine fc (ok_iconst hB dX12_has_9) ?_
  refine fc (ok_goto hB (t := 14) (by decide) dX12_has_10) ?_
  refine fc (ok_iconst hB dX12_has_13) ?_
  refine fc (ok_zret hB dX12_has_14) ?_
  exact fn

def w_X12_has : WP := fun av σ Q => ∃ (x : Int) (k : Int), av = [(0, x), (0, k)] ∧ (InR x ∧ 0 ≤ k ∧ k < 32 ∧ Q (0, bt x k) σ)
theorem w_X12_has_e (x : Int) (k : Int) (σ : Mem) (Q : AV → Mem → Prop) : w_X12_has [(0, x), (0, k)] σ Q = (InR x ∧ 0 ≤ k ∧ k < 32 ∧ Q (0, bt x k) σ) := by
  apply propext; constructor
  · rintro ⟨x', k', h9, hb9⟩; cases h9; exact hb9
  · intro hb9; exact ⟨x, k, rfl, hb9⟩

set_option maxRecDepth 100000 in
set_option maxHeartbeats 4000000 in
theorem s_X12_has : ∀ av σ Q, w_X12_has av σ Q → amCall 0 0 0 TT yX12_has cX12_has 2 (some .boolean) av σ Q := by
  rintro av σ Q ⟨x, k, rfl, hx, h0, h1, h⟩
  have e := bt_e hx h0 h1
  have b01 := bt_b x k
  refine am_m0 (own := RX12) (A := look a_X12_has) (fun X e1 e2 hB => o_X12_has e1 e2 hB) rfl (by decide +kernel) rfl rfl 190 (w := 2) ?_
  change vcs _ _ _ _ 190 0 [(0, x), (0, k)] [] σ
  simp only [↓reduceIte, inR_0, inR_1, inR_m, vSw2_e, swP_n, swP_c, vI_e, vL_e, vNull_e, vIload_e, vLload_e, vAload_e, vIstore_e, vLstore_e, vAstore_e, vIinc_e, vIadd_e, vIsub_e, vImul_e, vIand_e, vIor_e, vIxor_e, vIshl_e, vIshr_e, vIushr_e, vIdiv_e, vIrem_e, vLadd_e, vLsub_e, vLmul_e, vLand_e, vLor_e, vLxor_e, vLdiv_e, vLrem_e, vLushr_e, vLshl_e, vLcmp_e, vIneg_e, vI2l_e, vL2i_e, vI2b_e, vI2c_e, vDup_e, vPop_e, vDup2_e, vGoto_e, vIcEq_e, vIfEq_e, vIcNe_e, vIfNe_e, vIcLt_e, vIfLt_e, vIcGe_e, vIfGe_e, vIcGt_e, vIfGt_e, vIcLe_e, vIfLe_e, vNonnull_e, vSw_e, vGetI_e, vGetL_e, vGetR_e, vPutI_e, vPutZ_e, vPutL_e, vPutR_e, vIald_e, vIald_s, vLald_e, vBald_e, vBald_s, vAald_e, vIast_e, vLast_e, vBast_e, vAast_e, vAlen_e8, vAlen_e9, vAlen_e10, vAlen_e11, vAlen_e5, vAlen_e3, vGets_e, vCompact_e, vLdcS_e, vIret_e, vZret_e, vCret_e, vBret_e, vLret_e, vVret_e, vAret_e, vCallM_e0, vCallMV_e0, vCallS_e0, vCallSV_e0, vCallM_e1, vCallMV_e1, vCallS_e1, vCallSV_e1, vCallM_e2, vCallMV_e2, vCallS_e2, vCallSV_e2, vCallM_e3, vCallMV_e3, vCallS_e3, vCallSV_e3, vCallM_e4, vCallMV_e4, vCallS_e4, vCallSV_e4, vCallM_e5, vCallMV_e5, vCallS_e5, vCallSV_e5, vCallM_e6, vCallMV_e6, vCallS_e6, vCallSV_e6, vCallM_e7, vCallMV_e7, vCallS_e7, vCallSV_e7, vBad_e, vStrVal_e, vStrCod_e, vForm_e, vCallT_e0, vCallT_e1, vCallT_e2, vCopy_e, rf_0_0, rf_0_1, rf_0_2, rf_0_3, rf_0_4, rf_0_7, rf_0_10, rf_0_11, rf_0_12, rf_0_13, rf_0_14, rf_0_15, rf_0_16, rf_1_0, rf_3_0, rf_3_1, rf_6_0, rf_6_1, rf_9_0, rf_9_1, rf_9_3, rf_13_0, rf_13_1, rf_13_2, rf_16_0, rf_16_1, rf_16_2, rf_16_3, rf_21_0, rf_21_1, rf_21_2, rf_21_3, rf_26_0, rf_26_1, rf_26_2, rf_26_3, rf_26_4, rf_26_5, rf_26_6, rf_31_0, rf_31_2, rf_31_5, rf_31_6, rf_36_0, rf_36_1, rf_36_2, rf_36_3, rf_39_0, rf_39_1, rf_39_2, rf_41_0, rf_41_1, rf_41_2, rf_41_3, rf_5000_1, rf_5000_2, rf_5000_3, rf_5000_4, rf_5000_5, rf_5000_15, rf_5000_16, rf_5000_18, rf_5000_19, rf_5000_20, rf_5000_21, rf_5000_22, rf_5000_23, rf_5000_24, rf_5000_25, rf_5000_26, rf_5000_27, rf_5000_36, rf_5000_37, rf_5000_40, rf_5000_41, rf_5000_42, rf_5000_43, rf_5000_44, rf_5000_45, rf_5000_47, rf_5000_52, rf_5000_54, rf_5000_55, rf_100_0, rf_100_1, rf_103_0, rf_103_1, rf_106_0, rf_106_1, rf_109_0, rf_109_1, al_2, al_4, al_5, al_7, al_8, al_10, al_11, al_12, al_14, al_15, al_17, al_18, al_19, al_20, al_22, al_23, al_24, al_25, al_27, al_28, al_29, al_30, al_32, al_33, al_34, al_35, al_37, al_38, al_40, al_42, al_5001, al_5002, al_5003, al_5004, al_5005, al_5006, al_5007, al_5008, al_5009, al_5010, al_5011, al_5012, al_5013, al_5014, al_5015, al_5016, al_5017, al_5018, al_5019, al_5020, al_5021, al_5022, al_5023, al_5024, al_5025, al_5026, al_9000, al_101, al_102, al_104, al_105, al_107, al_108, al_110, al_111, vcs_e, lg_c0, lg_cs, lg_nil, set_c0, set_cs, okst_0, okst_s, acok_n, acok_c, List.contains_nil, List.contains_cons, Bool.or_false, Bool.false_or, Bool.false_eq_true, if_false, if_true, ite_self, ne_eq, true_and, and_true, not_false_eq_true, not_true_eq_false, false_imp_iff, true_imp_iff, Nat.ble_eq, Bool.and_eq_true, reduceCtorEq, or_false, false_or, or_true, true_or, false_and, and_false, and_self, Int.reduceLE, Int.reduceAdd, Int.reduceSub, Int.reduceMul, Int.reduceNeg, Int.reduceLT, Int.reduceEq, Int.reduceNe, Nat.reduceBEq, Nat.reduceBNe, Nat.reduceEqDiff, amCmp_in, amCmp_lt, amCmp_le, amCmp_gt, amCmp_ge, amCmp_eq, amCmp_ne, Nat.reduceLeDiff, Nat.reduceSub, Bool.and_true, Bool.true_and, Bool.and_self, Bool.or_true, Bool.true_or, isRf_3, isRf_4, isRf_5, isRf_8, isRf_9, isRf_10, isRf_11, isRf_15, isRf_16, isRf_17, isRf_18, isRf_19, isRf_20, isRf_21, isRf_22, isRf_23, isRf_24, isRf_25, isRf_26, isRf_27, isRf_28, k_X12_has_0, k_X12_has_1, k_X12_has_2, k_X12_has_3, k_X12_has_4, k_X12_has_5, k_X12_has_6, k_X12_has_9, k_X12_has_10, k_X12_has_13, k_X12_has_14, up_s, up_nj, up_na, up_up, savR_o, cpy_o, fillm_o, setAud_o, setv_o, setv_s, Int.reduceNe, Int.reduceEq, Int.reduceLT, Int.reduceAdd, not_false_eq_true, ne_eq, or_true, true_or, e]
  by_cases c : bt x k = 1
  · rw [c] at h
    repeat' (first | assumption | apply And.intro | intro _)
    all_goals first | omega | exact absurd trivial (by assumption) | exact h
  · rw [show bt x k = 0 by omega] at h
    repeat' (first | assumption | apply And.intro | intro _)
    all_goals first | omega | exact absurd trivial (by assumption) | exact h
theorem wd_1333 : Cond.fieldLink RX12 314 "ArmchairHouseModel" "plays" "I" ∈ TBL := tb_tab (List.mem_of_getElem? (i := 1333) (by decide +kernel)) rfl
theorem fl_X12_314 : amFl RX12 12 28 314 RX12 TX12 57 := ⟨rfl, inT_12, by decide, wd_1333⟩
def a_X12_isPlay : AC := [(0, vIload 1 1), (1, vIfLt 16 4), (4, vIload 1 5), (5, vAload 0 6), (6, vGetI 28 28 9), (9, vIcGe 16 12), (12, vI 1 13), (13, vGoto 17), (16, vI 0 17), (17, vZret)]
theorem k_X12_isPlay_0 : look a_X12_isPlay 0 = vIload 1 1 := rfl
theorem k_X12_isPlay_1 : look a_X12_isPlay 1 = vIfLt 16 4 := rfl
theorem k_X12_isPlay_4 : look a_X12_isPlay 4 = vIload 1 5 := rfl
theorem k_X12_isPlay_5 : look a_X12_isPlay 5 = vAload 0 6 := rfl
theorem k_X12_isPlay_6 : look a_X12_isPlay 6 = vGetI 28 28 9 := rfl
theorem k_X12_isPlay_9 : look a_X12_isPlay 9 = vIcGe 16 12 := rfl
theorem k_X12_isPlay_12 : look a_X12_isPlay 12 = vI 1 13 := rfl
theorem k_X12_isPlay_13 : look a_X12_isPlay 13 = vGoto 17 := rfl
theorem k_X12_isPlay_16 : look a_X12_isPlay 16 = vI 0 17 := rfl
theorem k_X12_isPlay_17 : look a_X12_isPlay 17 = vZret := rfl
theorem o_X12_isPlay {X : amX} (e1 : XT X = TT) (e2 : XD X = 0) (hB : amB X RX12 cX12_isPlay (some .boolean) 2) : ∀ pc, amOK X pc (look a_X12_isPlay pc) := by
  have hT : amTok (XT X) := e1 ▸ TT_ok
  refine look_ok ?_
  unfold a_X12_isPlay
  refine fc (ok_iload_n hB dX12_isPlay_0) ?_
  refine fc (ok_if_lt hB (t := 16) (by decide) dX12_isPlay_1) ?_
  refine fc (ok_iload_n hB dX12_isPlay_4) ?_
  refine fc (ok_aload_n hB dX12_isPlay_5) ?_
  refine fc (ok_getI hB hT fl_X12_314 rfl rfl (Or.inl af_12_28) dX12_isPlay_6) ?_
  refine fc (ok_icmp_ge hB (t := 16) (by decide) dX12_isPlay_9) ?_
  refine fc (ok_iconst hB dX12_isPlay_12) ?_
  refine fc (ok_goto hB (t := 17) (by decide) dX12_isPlay_13) ?_
  refine fc (ok_iconst hB dX12_isPlay_16) ?_
  refine fc (ok_zret hB dX12_isPlay_17) ?_
  exact fn

def w_X12_isPlay : WP := fun av σ Q => ∃ (p : Int), av = [(28, 5000), (0, p)] ∧ (InR p ∧ InR (σ 5000 28) ∧ Q (0, if 0 ≤ p ∧ p < σ 5000 28 then 1 else 0) σ)
theorem w_X12_isPlay_e (p : Int) (σ : Mem) (Q : AV → Mem → Prop) : w_X12_isPlay [(28, 5000), (0, p)] σ Q = (InR p ∧ InR (σ 5000 28) ∧ Q (0, if 0 ≤ p ∧ p < σ 5000 28 then 1 else 0) σ) := by
  apply propext; constructor
  · rintro ⟨p', h9, hb9⟩; cases h9; exact hb9
  · intro hb9; exact ⟨p, rfl, hb9⟩

set_option maxRecDepth 100000 in
set_option maxHeartbeats 4000000 in
theorem s_X12_isPlay : ∀ av σ Q, w_X12_isPlay av σ Q → amCall 0 0 0 TT yX12_isPlay cX12_isPlay 2 (some .boolean) av σ Q := by
  rintro av σ Q ⟨p, rfl, hp, hc, h⟩
  refine am_m0 (own := RX12) (A := look a_X12_isPlay) (fun X e1 e2 hB => o_X12_isPlay e1 e2 hB) rfl (by decide +kernel) rfl rfl 190 (w := 2) ?_
  change vcs _ _ _ _ 190 0 [(28, 5000), (0, p)] [] σ
  simp only [↓reduceIte, inR_0, inR_1, inR_m, vSw2_e, swP_n, swP_c, vI_e, vL_e, vNull_e, vIload_e, vLload_e, vAload_e, vIstore_e, vLstore_e, vAstore_e, vIinc_e, vIadd_e, vIsub_e, vImul_e, vIand_e, vIor_e, vIxor_e, vIshl_e, vIshr_e, vIushr_e, vIdiv_e, vIrem_e, vLadd_e, vLsub_e, vLmul_e, vLand_e, vLor_e, vLxor_e, vLdiv_e, vLrem_e, vLushr_e, vLshl_e, vLcmp_e, vIneg_e, vI2l_e, vL2i_e, vI2b_e, vI2c_e, vDup_e, vPop_e, vDup2_e, vGoto_e, vIcEq_e, vIfEq_e, vIcNe_e, vIfNe_e, vIcLt_e, vIfLt_e, vIcGe_e, vIfGe_e, vIcGt_e, vIfGt_e, vIcLe_e, vIfLe_e, vNonnull_e, vSw_e, vGetI_e, vGetL_e, vGetR_e, vPutI_e, vPutZ_e, vPutL_e, vPutR_e, vIald_e, vIald_s, vLald_e, vBald_e, vBald_s, vAald_e, vIast_e, vLast_e, vBast_e, vAast_e, vAlen_e8, vAlen_e9, vAlen_e10, vAlen_e11, vAlen_e5, vAlen_e3, vGets_e, vCompact_e, vLdcS_e, vIret_e, vZret_e, vCret_e, vBret_e, vLret_e, vVret_e, vAret_e, vCallM_e0, vCallMV_e0, vCallS_e0, vCallSV_e0, vCallM_e1, vCallMV_e1, vCallS_e1, vCallSV_e1, vCallM_e2, vCallMV_e2, vCallS_e2, vCallSV_e2, vCallM_e3, vCallMV_e3, vCallS_e3, vCallSV_e3, vCallM_e4, vCallMV_e4, vCallS_e4, vCallSV_e4, vCallM_e5, vCallMV_e5, vCallS_e5, vCallSV_e5, vCallM_e6, vCallMV_e6, vCallS_e6, vCallSV_e6, vCallM_e7, vCallMV_e7, vCallS_e7, vCallSV_e7, vBad_e, vStrVal_e, vStrCod_e, vForm_e, vCallT_e0, vCallT_e1, vCallT_e2, vCopy_e, rf_0_0, rf_0_1, rf_0_2, rf_0_3, rf_0_4, rf_0_7, rf_0_10, rf_0_11, rf_0_12, rf_0_13, rf_0_14, rf_0_15, rf_0_16, rf_1_0, rf_3_0, rf_3_1, rf_6_0, rf_6_1, rf_9_0, rf_9_1, rf_9_3, rf_13_0, rf_13_1, rf_13_2, rf_16_0, rf_16_1, rf_16_2, rf_16_3, rf_21_0, rf_21_1, rf_21_2, rf_21_3, rf_26_0, rf_26_1, rf_26_2, rf_26_3, rf_26_4, rf_26_5, rf_26_6, rf_31_0, rf_31_2, rf_31_5, rf_31_6, rf_36_0, rf_36_1, rf_36_2, rf_36_3, rf_39_0, rf_39_1, rf_39_2, rf_41_0, rf_41_1, rf_41_2, rf_41_3, rf_5000_1, rf_5000_2, rf_5000_3, rf_5000_4, rf_5000_5, rf_5000_15, rf_5000_16, rf_5000_18, rf_5000_19, rf_5000_20, rf_5000_21, rf_5000_22, rf_5000_23, rf_5000_24, rf_5000_25, rf_5000_26, rf_5000_27, rf_5000_36, rf_5000_37, rf_5000_40, rf_5000_41, rf_5000_42, rf_5000_43, rf_5000_44, rf_5000_45, rf_5000_47, rf_5000_52, rf_5000_54, rf_5000_55, rf_100_0, rf_100_1, rf_103_0, rf_103_1, rf_106_0, rf_106_1, rf_109_0, rf_109_1, al_2, al_4, al_5, al_7, al_8, al_10, al_11, al_12, al_14, al_15, al_17, al_18, al_19, al_20, al_22, al_23, al_24, al_25, al_27, al_28, al_29, al_30, al_32, al_33, al_34, al_35, al_37, al_38, al_40, al_42, al_5001, al_5002, al_5003, al_5004, al_5005, al_5006, al_5007, al_5008, al_5009, al_5010, al_5011, al_5012, al_5013, al_5014, al_5015, al_5016, al_5017, al_5018, al_5019, al_5020, al_5021, al_5022, al_5023, al_5024, al_5025, al_5026, al_9000, al_101, al_102, al_104, al_105, al_107, al_108, al_110, al_111, vcs_e, lg_c0, lg_cs, lg_nil, set_c0, set_cs, okst_0, okst_s, acok_n, acok_c, List.contains_nil, List.contains_cons, Bool.or_false, Bool.false_or, Bool.false_eq_true, if_false, if_true, ite_self, ne_eq, true_and, and_true, not_false_eq_true, not_true_eq_false, false_imp_iff, true_imp_iff, Nat.ble_eq, Bool.and_eq_true, reduceCtorEq, or_false, false_or, or_true, true_or, false_and, and_false, and_self, Int.reduceLE, Int.reduceAdd, Int.reduceSub, Int.reduceMul, Int.reduceNeg, Int.reduceLT, Int.reduceEq, Int.reduceNe, Nat.reduceBEq, Nat.reduceBNe, Nat.reduceEqDiff, amCmp_in, amCmp_lt, amCmp_le, amCmp_gt, amCmp_ge, amCmp_eq, amCmp_ne, Nat.reduceLeDiff, Nat.reduceSub, Bool.and_true, Bool.true_and, Bool.and_self, Bool.or_true, Bool.true_or, isRf_3, isRf_4, isRf_5, isRf_8, isRf_9, isRf_10, isRf_11, isRf_15, isRf_16, isRf_17, isRf_18, isRf_19, isRf_20, isRf_21, isRf_22, isRf_23, isRf_24, isRf_25, isRf_26, isRf_27, isRf_28, k_X12_isPlay_0, k_X12_isPlay_1, k_X12_isPlay_4, k_X12_isPlay_5, k_X12_isPlay_6, k_X12_isPlay_9, k_X12_isPlay_12, k_X12_isPlay_13, k_X12_isPlay_16, k_X12_isPlay_17, up_s, up_nj, up_na, up_up, savR_o, cpy_o, fillm_o, setAud_o, setv_o, setv_s, Int.reduceNe, Int.reduceEq, Int.reduceLT, Int.reduceAdd, not_false_eq_true, ne_eq, or_true, true_or]
  by_cases c : 0 ≤ p ∧ p < σ 5000 28
  · rw [if_pos c] at h
    repeat' (first | assumption | apply And.intro | intro _)
    all_goals first | omega | exact absurd trivial (by assumption) | exact h
  · rw [if_neg c] at h
    repeat' (first | assumption | apply And.intro | intro _)
    all_goals first | omega | exact absurd trivial (by assumption) | exact h
theorem wd_1334 : Cond.fieldLink RX12 317 "ArmchairHouseModel" "chairs" "I" ∈ TBL := tb_tab (List.mem_of_getElem? (i := 1334) (by decide +kernel)) rfl
theorem fl_X12_317 : amFl RX12 12 29 317 RX12 TX12 57 := ⟨rfl, inT_12, by decide, wd_1334⟩
def a_X12_isChair : AC := [(0, vIload 1 1), (1, vIfLt 16 4), (4, vIload 1 5), (5, vAload 0 6), (6, vGetI 28 29 9), (9, vIcGe 16 12), (12, vI 1 13), (13, vGoto 17), (16, vI 0 17), (17, vZret)]
theorem k_X12_isChair_0 : look a_X12_isChair 0 = vIload 1 1 := rfl
theorem k_X12_isChair_1 : look a_X12_isChair 1 = vIfLt 16 4 := rfl
theorem k_X12_isChair_4 : look a_X12_isChair 4 = vIload 1 5 := rfl
theorem k_X12_isChair_5 : look a_X12_isChair 5 = vAload 0 6 := rfl
theorem k_X12_isChair_6 : look a_X12_isChair 6 = vGetI 28 29 9 := rfl
theorem k_X12_isChair_9 : look a_X12_isChair 9 = vIcGe 16 12 := rfl
theorem k_X12_isChair_12 : look a_X12_isChair 12 = vI 1 13 := rfl
theorem k_X12_isChair_13 : look a_X12_isChair 13 = vGoto 17 := rfl
theorem k_X12_isChair_16 : look a_X12_isChair 16 = vI 0 17 := rfl
theorem k_X12_isChair_17 : look a_X12_isChair 17 = vZret := rfl
theorem o_X12_isChair {X : amX} (e1 : XT X = TT) (e2 : XD X = 0) (hB : amB X RX12 cX12_isChair (some .boolean) 2) : ∀ pc, amOK X pc (look a_X12_isChair pc) := by
  have hT : amTok (XT X) := e1 ▸ TT_ok
  refine look_ok ?_
  unfold a_X12_isChair
  refine fc (ok_iload_n hB dX12_isChair_0) ?_
  refine fc (ok_if_lt hB (t := 16) (by decide) dX12_isChair_1) ?_
  refine fc (ok_iload_n hB dX12_isChair_4) ?_
  refine fc (ok_aload_n hB dX12_isChair_5) ?_
  refine fc (ok_getI hB hT fl_X12_317 rfl rfl (Or.inl af_12_29) dX12_isChair_6) ?_
  refine fc (ok_icmp_ge hB (t := 16) (by decide) dX12_isChair_9) ?_
  refine fc (ok_iconst hB dX12_isChair_12) ?_
  refine fc (ok_goto hB (t := 17) (by decide) dX12_isChair_13) ?_
  refine fc (ok_iconst hB dX12_isChair_16) ?_
  refine fc (ok_zret hB dX12_isChair_17) ?_
  exact fn

def w_X12_isChair : WP := fun av σ Q => ∃ (p : Int), av = [(28, 5000), (0, p)] ∧ (InR p ∧ InR (σ 5000 29) ∧ Q (0, if 0 ≤ p ∧ p < σ 5000 29 then 1 else 0) σ)
theorem w_X12_isChair_e (p : Int) (σ : Mem) (Q : AV → Mem → Prop) : w_X12_isChair [(28, 5000), (0, p)] σ Q = (InR p ∧ InR (σ 5000 29) ∧ Q (0, if 0 ≤ p ∧ p < σ 5000 29 then 1 else 0) σ) := by
  apply propext; constructor
  · rintro ⟨p', h9, hb9⟩; cases h9; exact hb9
  · intro hb9; exact ⟨p, rfl, hb9⟩

set_option maxRecDepth 100000 in
set_option maxHeartbeats 4000000 in
theorem s_X12_isChair : ∀ av σ Q, w_X12_isChair av σ Q → amCall 0 0 0 TT yX12_isChair cX12_isChair 2 (some .boolean) av σ Q := by
  rintro av σ Q ⟨p, rfl, hp, hc, h⟩
  refine am_m0 (own := RX12) (A := look a_X12_isChair) (fun X e1 e2 hB => o_X12_isChair e1 e2 hB) rfl (by decide +kernel) rfl rfl 190 (w := 2) ?_
  change vcs _ _ _ _ 190 0 [(28, 5000), (0, p)] [] σ
  simp only [↓reduceIte, inR_0, inR_1, inR_m, vSw2_e, swP_n, swP_c, vI_e, vL_e, vNull_e, vIload_e, vLload_e, vAload_e, vIstore_e, vLstore_e, vAstore_e, vIinc_e, vIadd_e, vIsub_e, vImul_e, vIand_e, vIor_e, vIxor_e, vIshl_e, vIshr_e, vIushr_e, vIdiv_e, vIrem_e, vLadd_e, vLsub_e, vLmul_e, vLand_e, vLor_e, vLxor_e, vLdiv_e, vLrem_e, vLushr_e, vLshl_e, vLcmp_e, vIneg_e, vI2l_e, vL2i_e, vI2b_e, vI2c_e, vDup_e, vPop_e, vDup2_e, vGoto_e, vIcEq_e, vIfEq_e, vIcNe_e, vIfNe_e, vIcLt_e, vIfLt_e, vIcGe_e, vIfGe_e, vIcGt_e, vIfGt_e, vIcLe_e, vIfLe_e, vNonnull_e, vSw_e, vGetI_e, vGetL_e, vGetR_e, vPutI_e, vPutZ_e, vPutL_e, vPutR_e, vIald_e, vIald_s, vLald_e, vBald_e, vBald_s, vAald_e, vIast_e, vLast_e, vBast_e, vAast_e, vAlen_e8, vAlen_e9, vAlen_e10, vAlen_e11, vAlen_e5, vAlen_e3, vGets_e, vCompact_e, vLdcS_e, vIret_e, vZret_e, vCret_e, vBret_e, vLret_e, vVret_e, vAret_e, vCallM_e0, vCallMV_e0, vCallS_e0, vCallSV_e0, vCallM_e1, vCallMV_e1, vCallS_e1, vCallSV_e1, vCallM_e2, vCallMV_e2, vCallS_e2, vCallSV_e2, vCallM_e3, vCallMV_e3, vCallS_e3, vCallSV_e3, vCallM_e4, vCallMV_e4, vCallS_e4, vCallSV_e4, vCallM_e5, vCallMV_e5, vCallS_e5, vCallSV_e5, vCallM_e6, vCallMV_e6, vCallS_e6, vCallSV_e6, vCallM_e7, vCallMV_e7, vCallS_e7, vCallSV_e7, vBad_e, vStrVal_e, vStrCod_e, vForm_e, vCallT_e0, vCallT_e1, vCallT_e2, vCopy_e, rf_0_0, rf_0_1, rf_0_2, rf_0_3, rf_0_4, rf_0_7, rf_0_10, rf_0_11, rf_0_12, rf_0_13, rf_0_14, rf_0_15, rf_0_16, rf_1_0, rf_3_0, rf_3_1, rf_6_0, rf_6_1, rf_9_0, rf_9_1, rf_9_3, rf_13_0, rf_13_1, rf_13_2, rf_16_0, rf_16_1, rf_16_2, rf_16_3, rf_21_0, rf_21_1, rf_21_2, rf_21_3, rf_26_0, rf_26_1, rf_26_2, rf_26_3, rf_26_4, rf_26_5, rf_26_6, rf_31_0, rf_31_2, rf_31_5, rf_31_6, rf_36_0, rf_36_1, rf_36_2, rf_36_3, rf_39_0, rf_39_1, rf_39_2, rf_41_0, rf_41_1, rf_41_2, rf_41_3, rf_5000_1, rf_5000_2, rf_5000_3, rf_5000_4, rf_5000_5, rf_5000_15, rf_5000_16, rf_5000_18, rf_5000_19, rf_5000_20, rf_5000_21, rf_5000_22, rf_5000_23, rf_5000_24, rf_5000_25, rf_5000_26, rf_5000_27, rf_5000_36, rf_5000_37, rf_5000_40, rf_5000_41, rf_5000_42, rf_5000_43, rf_5000_44, rf_5000_45, rf_5000_47, rf_5000_52, rf_5000_54, rf_5000_55, rf_100_0, rf_100_1, rf_103_0, rf_103_1, rf_106_0, rf_106_1, rf_109_0, rf_109_1, al_2, al_4, al_5, al_7, al_8, al_10, al_11, al_12, al_14, al_15, al_17, al_18, al_19, al_20, al_22, al_23, al_24, al_25, al_27, al_28, al_29, al_30, al_32, al_33, al_34, al_35, al_37, al_38, al_40, al_42, al_5001, al_5002, al_5003, al_5004, al_5005, al_5006, al_5007, al_5008, al_5009, al_5010, al_5011, al_5012, al_5013, al_5014, al_5015, al_5016, al_5017, al_5018, al_5019, al_5020, al_5021, al_5022, al_5023, al_5024, al_5025, al_5026, al_9000, al_101, al_102, al_104, al_105, al_107, al_108, al_110, al_111, vcs_e, lg_c0, lg_cs, lg_nil, set_c0, set_cs, okst_0, okst_s, acok_n, acok_c, List.contains_nil, List.contains_cons, Bool.or_false, Bool.false_or, Bool.false_eq_true, if_false, if_true, ite_self, ne_eq, true_and, and_true, not_false_eq_true, not_true_eq_false, false_imp_iff, true_imp_iff, Nat.ble_eq, Bool.and_eq_true, reduceCtorEq, or_false, false_or, or_true, true_or, false_and, and_false, and_self, Int.reduceLE, Int.reduceAdd, Int.reduceSub, Int.reduceMul, Int.reduceNeg, Int.reduceLT, Int.reduceEq, Int.reduceNe, Nat.reduceBEq, Nat.reduceBNe, Nat.reduceEqDiff, amCmp_in, amCmp_lt, amCmp_le, amCmp_gt, amCmp_ge, amCmp_eq, amCmp_ne, Nat.reduceLeDiff, Nat.reduceSub, Bool.and_true, Bool.true_and, Bool.and_self, Bool.or_true, Bool.true_or, isRf_3, isRf_4, isRf_5, isRf_8, isRf_9, isRf_10, isRf_11, isRf_15, isRf_16, isRf_17, isRf_18, isRf_19, isRf_20, isRf_21, isRf_22, isRf_23, isRf_24, isRf_25, isRf_26, isRf_27, isRf_28, k_X12_isChair_0, k_X12_isChair_1, k_X12_isChair_4, k_X12_isChair_5, k_X12_isChair_6, k_X12_isChair_9, k_X12_isChair_12, k_X12_isChair_13, k_X12_isChair_16, k_X12_isChair_17, up_s, up_nj, up_na, up_up, savR_o, cpy_o, fillm_o, setAud_o, setv_o, setv_s, Int.reduceNe, Int.reduceEq, Int.reduceLT, Int.reduceAdd, not_false_eq_true, ne_eq, or_true, true_or]
  by_cases c : 0 ≤ p ∧ p < σ 5000 29
  · rw [if_pos c] at h
    repeat' (first | assumption | apply And.intro | intro _)
    all_goals first | omega | exact absurd trivial (by assumption) | exact h
  · rw [if_neg c] at h
    repeat' (first | assumption | apply And.intro | intro _)
    all_goals first | omega | exact absurd trivial (by assumption) | exact h
theorem wd_1335 : Cond.fieldLink RX12 320 "ArmchairHouseModel" "sitters" "I" ∈ TBL := tb_tab (List.mem_of_getElem? (i := 1335) (by decide +kernel)) rfl
theorem fl_X12_320 : amFl RX12 12 30 320 RX12 TX12 57 := ⟨rfl, inT_12, by decide, wd_1335⟩
def a_X12_isSitter : AC := [(0, vIload 1 1), (1, vIfLt 16 4), (4, vIload 1 5), (5, vAload 0 6), (6, vGetI 28 30 9), (9, vIcGe 16 12), (12, vI 1 13), (13, vGoto 17), (16, vI 0 17), (17, vZret)]
theorem k_X12_isSitter_0 : look a_X12_isSitter 0 = vIload 1 1 := rfl
theorem k_X12_isSitter_1 : look a_X12_isSitter 1 = vIfLt 16 4 := rfl
theorem k_X12_isSitter_4 : look a_X12_isSitter 4 = vIload 1 5 := rfl
theorem k_X12_isSitter_5 : look a_X12_isSitter 5 = vAload 0 6 := rfl
theorem k_X12_isSitter_6 : look a_X12_isSitter 6 = vGetI 28 30 9 := rfl
theorem k_X12_isSitter_9 : look a_X12_isSitter 9 = vIcGe 16 12 := rfl
theorem k_X12_isSitter_12 : look a_X12_isSitter 12 = vI 1 13 := rfl
theorem k_X12_isSitter_13 : look a_X12_isSitter 13 = vGoto 17 := rfl
theorem k_X12_isSitter_16 : look a_X12_isSitter 16 = vI 0 17 := rfl
theorem k_X12_isSitter_17 : look a_X12_isSitter 17 = vZret := rfl
theorem o_X12_isSitter {X : amX} (e1 : XT X = TT) (e2 : XD X = 0) (hB : amB X RX12 cX12_isSitter (some .boolean) 2) : ∀ pc, amOK X pc (look a_X12_isSitter pc) := by
  have hT : amTok (XT X) := e1 ▸ TT_ok
  refine look_ok ?_
  unfold a_X12_isSitter
  refine fc (ok_iload_n hB dX12_isSitter_0) ?_
  refine fc (ok_if_lt hB (t := 16) (by decide) dX12_isSitter_1) ?_
  refine fc (ok_iload_n hB dX12_isSitter_4) ?_
  refine fc (ok_aload_n hB dX12_isSitter_5) ?_
  refine fc (ok_getI hB hT fl_X12_320 rfl rfl (Or.inl af_12_30) dX12_isSitter_6) ?_
  refine fc (ok_icmp_ge hB (t := 16) (by decide) dX12_isSitter_9) ?_
  refine fc (ok_iconst hB dX12_isSitter_12) ?_
  refine fc (ok_goto hB (t := 17) (by decide) dX12_isSitter_13) ?_
  refine fc (ok_iconst hB dX12_isSitter_16) ?_
  refine fc (ok_zret hB dX12_isSitter_17) ?_
  exact fn

def w_X12_isSitter : WP := fun av σ Q => ∃ (p : Int), av = [(28, 5000), (0, p)] ∧ (InR p ∧ InR (σ 5000 30) ∧ Q (0, if 0 ≤ p ∧ p < σ 5000 30 then 1 else 0) σ)
theorem w_X12_isSitter_e (p : Int) (σ : Mem) (Q : AV → Mem → Prop) : w_X12_isSitter [(28, 5000), (0, p)] σ Q = (InR p ∧ InR (σ 5000 30) ∧ Q (0, if 0 ≤ p ∧ p < σ 5000 30 then 1 else 0) σ) := by
  apply propext; constructor
  · rintro ⟨p', h9, hb9⟩; cases h9; exact hb9
  · intro hb9; exact ⟨p, rfl, hb9⟩

set_option maxRecDepth 100000 in
set_option maxHeartbeats 4000000 in
theorem s_X12_isSitter : ∀ av σ Q, w_X12_isSitter av σ Q → amCall 0 0 0 TT yX12_isSitter cX12_isSitter 2 (some .boolean) av σ Q := by
  rintro av σ Q ⟨p, rfl, hp, hc, h⟩
  refine am_m0 (own := RX12) (A := look a_X12_isSitter) (fun X e1 e2 hB => o_X12_isSitter e1 e2 hB) rfl (by decide +kernel) rfl rfl 190 (w := 2) ?_
  change vcs _ _ _ _ 190 0 [(28, 5000), (0, p)] [] σ
  simp only [↓reduceIte, inR_0, inR_1, inR_m, vSw2_e, swP_n, swP_c, vI_e, vL_e, vNull_e, vIload_e, vLload_e, vAload_e, vIstore_e, vLstore_e, vAstore_e, vIinc_e, vIadd_e, vIsub_e, vImul_e, vIand_e, vIor_e, vIxor_e, vIshl_e, vIshr_e, vIushr_e, vIdiv_e, vIrem_e, vLadd_e, vLsub_e, vLmul_e, vLand_e, vLor_e, vLxor_e, vLdiv_e, vLrem_e, vLushr_e, vLshl_e, vLcmp_e, vIneg_e, vI2l_e, vL2i_e, vI2b_e, vI2c_e, vDup_e, vPop_e, vDup2_e, vGoto_e, vIcEq_e, vIfEq_e, vIcNe_e, vIfNe_e, vIcLt_e, vIfLt_e, vIcGe_e, vIfGe_e, vIcGt_e, vIfGt_e, vIcLe_e, vIfLe_e, vNonnull_e, vSw_e, vGetI_e, vGetL_e, vGetR_e, vPutI_e, vPutZ_e, vPutL_e, vPutR_e, vIald_e, vIald_s, vLald_e, vBald_e, vBald_s, vAald_e, vIast_e, vLast_e, vBast_e, vAast_e, vAlen_e8, vAlen_e9, vAlen_e10, vAlen_e11, vAlen_e5, vAlen_e3, vGets_e, vCompact_e, vLdcS_e, vIret_e, vZret_e, vCret_e, vBret_e, vLret_e, vVret_e, vAret_e, vCallM_e0, vCallMV_e0, vCallS_e0, vCallSV_e0, vCallM_e1, vCallMV_e1, vCallS_e1, vCallSV_e1, vCallM_e2, vCallMV_e2, vCallS_e2, vCallSV_e2, vCallM_e3, vCallMV_e3, vCallS_e3, vCallSV_e3, vCallM_e4, vCallMV_e4, vCallS_e4, vCallSV_e4, vCallM_e5, vCallMV_e5, vCallS_e5, vCallSV_e5, vCallM_e6, vCallMV_e6, vCallS_e6, vCallSV_e6, vCallM_e7, vCallMV_e7, vCallS_e7, vCallSV_e7, vBad_e, vStrVal_e, vStrCod_e, vForm_e, vCallT_e0, vCallT_e1, vCallT_e2, vCopy_e, rf_0_0, rf_0_1, rf_0_2, rf_0_3, rf_0_4, rf_0_7, rf_0_10, rf_0_11, rf_0_12, rf_0_13, rf_0_14, rf_0_15, rf_0_16, rf_1_0, rf_3_0, rf_3_1, rf_6_0, rf_6_1, rf_9_0, rf_9_1, rf_9_3, rf_13_0, rf_13_1, rf_13_2, rf_16_0, rf_16_1, rf_16_2, rf_16_3, rf_21_0, rf_21_1, rf_21_2, rf_21_3, rf_26_0, rf_26_1, rf_26_2, rf_26_3, rf_26_4, rf_26_5, rf_26_6, rf_31_0, rf_31_2, rf_31_5, rf_31_6, rf_36_0, rf_36_1, rf_36_2, rf_36_3, rf_39_0, rf_39_1, rf_39_2, rf_41_0, rf_41_1, rf_41_2, rf_41_3, rf_5000_1, rf_5000_2, rf_5000_3, rf_5000_4, rf_5000_5, rf_5000_15, rf_5000_16, rf_5000_18, rf_5000_19, rf_5000_20, rf_5000_21, rf_5000_22, rf_5000_23, rf_5000_24, rf_5000_25, rf_5000_26, rf_5000_27, rf_5000_36, rf_5000_37, rf_5000_40, rf_5000_41, rf_5000_42, rf_5000_43, rf_5000_44, rf_5000_45, rf_5000_47, rf_5000_52, rf_5000_54, rf_5000_55, rf_100_0, rf_100_1, rf_103_0, rf_103_1, rf_106_0, rf_106_1, rf_109_0, rf_109_1, al_2, al_4, al_5, al_7, al_8, al_10, al_11, al_12, al_14, al_15, al_17, al_18, al_19, al_20, al_22, al_23, al_24, al_25, al_27, al_28, al_29, al_30, al_32, al_33, al_34, al_35, al_37, al_38, al_40, al_42, al_5001, al_5002, al_5003, al_5004, al_5005, al_5006, al_5007, al_5008, al_5009, al_5010, al_5011, al_5012, al_5013, al_5014, al_5015, al_5016, al_5017, al_5018, al_5019, al_5020, al_5021, al_5022, al_5023, al_5024, al_5025, al_5026, al_9000, al_101, al_102, al_104, al_105, al_107, al_108, al_110, al_111, vcs_e, lg_c0, lg_cs, lg_nil, set_c0, set_cs, okst_0, okst_s, acok_n, acok_c, List.contains_nil, List.contains_cons, Bool.or_false, Bool.false_or, Bool.false_eq_true, if_false, if_true, ite_self, ne_eq, true_and, and_true, not_false_eq_true, not_true_eq_false, false_imp_iff, true_imp_iff, Nat.ble_eq, Bool.and_eq_true, reduceCtorEq, or_false, false_or, or_true, true_or, false_and, and_false, and_self, Int.reduceLE, Int.reduceAdd, Int.reduceSub, Int.reduceMul, Int.reduceNeg, Int.reduceLT, Int.reduceEq, Int.reduceNe, Nat.reduceBEq, Nat.reduceBNe, Nat.reduceEqDiff, amCmp_in, amCmp_lt, amCmp_le, amCmp_gt, amCmp_ge, amCmp_eq, amCmp_ne, Nat.reduceLeDiff, Nat.reduceSub, Bool.and_true, Bool.true_and, Bool.and_self, Bool.or_true, Bool.true_or, isRf_3, isRf_4, isRf_5, isRf_8, isRf_9, isRf_10, isRf_11, isRf_15, isRf_16, isRf_17, isRf_18, isRf_19, isRf_20, isRf_21, isRf_22, isRf_23, isRf_24, isRf_25, isRf_26, isRf_27, isRf_28, k_X12_isSitter_0, k_X12_isSitter_1, k_X12_isSitter_4, k_X12_isSitter_5, k_X12_isSitter_6, k_X12_isSitter_9, k_X12_isSitter_12, k_X12_isSitter_13, k_X12_isSitter_16, k_X12_isSitter_17, up_s, up_nj, up_na, up_up, savR_o, cpy_o, fillm_o, setAud_o, setv_o, setv_s, Int.reduceNe, Int.reduceEq, Int.reduceLT, Int.reduceAdd, not_false_eq_true, ne_eq, or_true, true_or]
  by_cases c : 0 ≤ p ∧ p < σ 5000 30
  · rw [if_pos c] at h
    repeat' (first | assumption | apply And.intro | intro _)
    all_goals first | omega | exact absurd trivial (by assumption) | exact h
  · rw [if_neg c] at h
    repeat' (first | assumption | apply And.intro | intro _)
    all_goals first | omega | exact absurd trivial (by assumption) | exact h
theorem wd_1339 : Cond.fieldLink RX12 309 "ArmchairHouseModel" "seasons" "I" ∈ TBL := tb_tab (List.mem_of_getElem? (i := 1339) (by decide +kernel)) rfl
theorem fl_X12_309 : amFl RX12 12 34 309 RX12 TX12 57 := ⟨rfl, inT_12, by decide, wd_1339⟩
def a_X12_isSeason : AC := [(0, vIload 1 1), (1, vIfLt 16 4), (4, vIload 1 5), (5, vAload 0 6), (6, vGetI 28 34 9), (9, vIcGe 16 12), (12, vI 1 13), (13, vGoto 17), (16, vI 0 17), (17, vZret)]
theorem k_X12_isSeason_0 : look a_X12_isSeason 0 = vIload 1 1 := rfl
theorem k_X12_isSeason_1 : look a_X12_isSeason 1 = vIfLt 16 4 := rfl
theorem k_X12_isSeason_4 : look a_X12_isSeason 4 = vIload 1 5 := rfl
theorem k_X12_isSeason_5 : look a_X12_isSeason 5 = vAload 0 6 := rfl
theorem k_X12_isSeason_6 : look a_X12_isSeason 6 = vGetI 28 34 9 := rfl
theorem k_X12_isSeason_9 : look a_X12_isSeason 9 = vIcGe 16 12 := rfl
theorem k_X12_isSeason_12 : look a_X12_isSeason 12 = vI 1 13 := rfl
theorem k_X12_isSeason_13 : look a_X12_isSeason 13 = vGoto 17 := rfl
theorem k_X12_isSeason_16 : look a_X12_isSeason 16 = vI 0 17 := rfl
theorem k_X12_isSeason_17 : look a_X12_isSeason 17 = vZret := rfl
theorem o_X12_isSeason {X : amX} (e1 : XT X = TT) (e2 : XD X = 0) (hB : amB X RX12 cX12_isSeason (some .boolean) 2) : ∀ pc, amOK X pc (look a_X12_isSeason pc) := by
  have hT : amTok (XT X) := e1 ▸ TT_ok
  refine look_ok ?_
  unfold a_X12_isSeason
  refine fc (ok_iload_n hB dX12_isSeason_0) ?_
  refine fc (ok_if_lt hB (t := 16) (by decide) dX12_isSeason_1) ?_
  refine fc (ok_iload_n hB dX12_isSeason_4) ?_
  refine fc (ok_aload_n hB dX12_isSeason_5) ?_
  refine fc (ok_getI hB hT fl_X12_309 rfl rfl (Or.inl af_12_34) dX12_isSeason_6) ?_
  refine fc (ok_icmp_ge hB (t := 16) (by decide) dX12_isSeason_9) ?_
  refine fc (ok_iconst hB dX12_isSeason_12) ?_
  refine fc (ok_goto hB (t := 17) (by decide) dX12_isSeason_13) ?_
  refine fc (ok_iconst hB dX12_isSeason_16) ?_
  refine fc (ok_zret hB dX12_isSeason_17) ?_
  exact fn

def w_X12_isSeason : WP := fun av σ Q => ∃ (p : Int), av = [(28, 5000), (0, p)] ∧ (InR p ∧ InR (σ 5000 34) ∧ Q (0, if 0 ≤ p ∧ p < σ 5000 34 then 1 else 0) σ)
theorem w_X12_isSeason_e (p : Int) (σ : Mem) (Q : AV → Mem → Prop) : w_X12_isSeason [(28, 5000), (0, p)] σ Q = (InR p ∧ InR (σ 5000 34) ∧ Q (0, if 0 ≤ p ∧ p < σ 5000 34 then 1 else 0) σ) := by
  apply propext; constructor
  · rintro ⟨p', h9, hb9⟩; cases h9; exact hb9
  · intro hb9; exact ⟨p, rfl, hb9⟩

set_option maxRecDepth 100000 in
set_option maxHeartbeats 4000000 in
theorem s_X12_isSeason : ∀ av σ Q, w_X12_isSeason av σ Q → amCall 0 0 0 TT yX12_isSeason cX12_isSeason 2 (some .boolean) av σ Q := by
  rintro av σ Q ⟨p, rfl, hp, hc, h⟩
  refine am_m0 (own := RX12) (A := look a_X12_isSeason) (fun X e1 e2 hB => o_X12_isSeason e1 e2 hB) rfl (by decide +kernel) rfl rfl 190 (w := 2) ?_
  change vcs _ _ _ _ 190 0 [(28, 5000), (0, p)] [] σ
  simp only [↓reduceIte, inR_0, inR_1, inR_m, vSw2_e, swP_n, swP_c, vI_e, vL_e, vNull_e, vIload_e, vLload_e, vAload_e, vIstore_e, vLstore_e, vAstore_e, vIinc_e, vIadd_e, vIsub_e, vImul_e, vIand_e, vIor_e, vIxor_e, vIshl_e, vIshr_e, vIushr_e, vIdiv_e, vIrem_e, vLadd_e, vLsub_e, vLmul_e, vLand_e, vLor_e, vLxor_e, vLdiv_e, vLrem_e, vLushr_e, vLshl_e, vLcmp_e, vIneg_e, vI2l_e, vL2i_e, vI2b_e, vI2c_e, vDup_e, vPop_e, vDup2_e, vGoto_e, vIcEq_e, vIfEq_e, vIcNe_e, vIfNe_e, vIcLt_e, vIfLt_e, vIcGe_e, vIfGe_e, vIcGt_e, vIfGt_e, vIcLe_e, vIfLe_e, vNonnull_e, vSw_e, vGetI_e, vGetL_e, vGetR_e, vPutI_e, vPutZ_e, vPutL_e, vPutR_e, vIald_e, vIald_s, vLald_e, vBald_e, vBald_s, vAald_e, vIast_e, vLast_e, vBast_e, vAast_e, vAlen_e8, vAlen_e9, vAlen_e10, vAlen_e11, vAlen_e5, vAlen_e3, vGets_e, vCompact_e, vLdcS_e, vIret_e, vZret_e, vCret_e, vBret_e, vLret_e, vVret_e, vAret_e, vCallM_e0, vCallMV_e0, vCallS_e0, vCallSV_e0, vCallM_e1, vCallMV_e1, vCallS_e1, vCallSV_e1, vCallM_e2, vCallMV_e2, vCallS_e2, vCallSV_e2, vCallM_e3, vCallMV_e3, vCallS_e3, vCallSV_e3, vCallM_e4, vCallMV_e4, vCallS_e4, vCallSV_e4, vCallM_e5, vCallMV_e5, vCallS_e5, vCallSV_e5, vCallM_e6, vCallMV_e6, vCallS_e6, vCallSV_e6, vCallM_e7, vCallMV_e7, vCallS_e7, vCallSV_e7, vBad_e, vStrVal_e, vStrCod_e, vForm_e, vCallT_e0, vCallT_e1, vCallT_e2, vCopy_e, rf_0_0, rf_0_1, rf_0_2, rf_0_3, rf_0_4, rf_0_7, rf_0_10, rf_0_11, rf_0_12, rf_0_13, rf_0_14, rf_0_15, rf_0_16, rf_1_0, rf_3_0, rf_3_1, rf_6_0, rf_6_1, rf_9_0, rf_9_1, rf_9_3, rf_13_0, rf_13_1, rf_13_2, rf_16_0, rf_16_1, rf_16_2, rf_16_3, rf_21_0, rf_21_1, rf_21_2, rf_21_3, rf_26_0, rf_26_1, rf_26_2, rf_26_3, rf_26_4, rf_26_5, rf_26_6, rf_31_0, rf_31_2, rf_31_5, rf_31_6, rf_36_0, rf_36_1, rf_36_2, rf_36_3, rf_39_0, rf_39_1, rf_39_2, rf_41_0, rf_41_1, rf_41_2, rf_41_3, rf_5000_1, rf_5000_2, rf_5000_3, rf_5000_4, rf_5000_5, rf_5000_15, rf_5000_16, rf_5000_18, rf_5000_19, rf_5000_20, rf_5000_21, rf_5000_22, rf_5000_23, rf_5000_24, rf_5000_25, rf_5000_26, rf_5000_27, rf_5000_36, rf_5000_37, rf_5000_40, rf_5000_41, rf_5000_42, rf_5000_43, rf_5000_44, rf_5000_45, rf_5000_47, rf_5000_52, rf_5000_54, rf_5000_55, rf_100_0, rf_100_1, rf_103_0, rf_103_1, rf_106_0, rf_106_1, rf_109_0, rf_109_1, al_2, al_4, al_5, al_7, al_8, al_10, al_11, al_12, al_14, al_15, al_17, al_18, al_19, al_20, al_22, al_23, al_24, al_25, al_27, al_28, al_29, al_30, al_32, al_33, al_34, al_35, al_37, al_38, al_40, al_42, al_5001, al_5002, al_5003, al_5004, al_5005, al_5006, al_5007, al_5008, al_5009, al_5010, al_5011, al_5012, al_5013, al_5014, al_5015, al_5016, al_5017, al_5018, al_5019, al_5020, al_5021, al_5022, al_5023, al_5024, al_5025, al_5026, al_9000, al_101, al_102, al_104, al_105, al_107, al_108, al_110, al_111, vcs_e, lg_c0, lg_cs, lg_nil, set_c0, set_cs, okst_0, okst_s, acok_n, acok_c, List.contains_nil, List.contains_cons, Bool.or_false, Bool.false_or, Bool.false_eq_true, if_false, if_true, ite_self, ne_eq, true_and, and_true, not_false_eq_true, not_true_eq_false, false_imp_iff, true_imp_iff, Nat.ble_eq, Bool.and_eq_true, reduceCtorEq, or_false, false_or, or_true, true_or, false_and, and_false, and_self, Int.reduceLE, Int.reduceAdd, Int.reduceSub, Int.reduceMul, Int.reduceNeg, Int.reduceLT, Int.reduceEq, Int.reduceNe, Nat.reduceBEq, Nat.reduceBNe, Nat.reduceEqDiff, amCmp_in, amCmp_lt, amCmp_le, amCmp_gt, amCmp_ge, amCmp_eq, amCmp_ne, Nat.reduceLeDiff, Nat.reduceSub, Bool.and_true, Bool.true_and, Bool.and_self, Bool.or_true, Bool.true_or, isRf_3, isRf_4, isRf_5, isRf_8, isRf_9, isRf_10, isRf_11, isRf_15, isRf_16, isRf_17, isRf_18, isRf_19, isRf_20, isRf_21, isRf_22, isRf_23, isRf_24, isRf_25, isRf_26, isRf_27, isRf_28, k_X12_isSeason_0, k_X12_isSeason_1, k_X12_isSeason_4, k_X12_isSeason_5, k_X12_isSeason_6, k_X12_isSeason_9, k_X12_isSeason_12, k_X12_isSeason_13, k_X12_isSeason_16, k_X12_isSeason_17, up_s, up_nj, up_na, up_up, savR_o, cpy_o, fillm_o, setAud_o, setv_o, setv_s, Int.reduceNe, Int.reduceEq, Int.reduceLT, Int.reduceAdd, not_false_eq_true, ne_eq, or_true, true_or]
  by_cases c : 0 ≤ p ∧ p < σ 5000 34
  · rw [if_pos c] at h
    repeat' (first | assumption | apply And.intro | intro _)
    all_goals first | omega | exact absurd trivial (by assumption) | exact h
  · rw [if_neg c] at h
    repeat' (first | assumption | apply And.intro | intro _)
    all_goals first | omega | exact absurd trivial (by assumption) | exact h
theorem wd_1325 : Cond.fieldLink RX12 43 "ArmchairHouseModel" "play" "[I" ∈ TBL := tb_tab (List.mem_of_getElem? (i := 1325) (by decide +kernel)) rfl
theorem fl_X12_43 : amFl RX12 12 20 43 RX12 TX12 57 := ⟨rfl, inT_12, by decide, wd_1325⟩
def a_X12_minutes : AC := [(0, vAload 0 1), (1, vGetR TT 28 20 8 4), (4, vI 4 5), (5, vIload 1 6), (6, vImul 7), (7, vI 3 8), (8, vIadd 9), (9, vIald TT 10), (10, vIret)]
theorem k_X12_minutes_0 : look a_X12_minutes 0 = vAload 0 1 := rfl
theorem k_X12_minutes_1 : look a_X12_minutes 1 = vGetR TT 28 20 8 4 := rfl
theorem k_X12_minutes_4 : look a_X12_minutes 4 = vI 4 5 := rfl
theorem k_X12_minutes_5 : look a_X12_minutes 5 = vIload 1 6 := rfl
theorem k_X12_minutes_6 : look a_X12_minutes 6 = vImul 7 := rfl
theorem k_X12_minutes_7 : look a_X12_minutes 7 = vI 3 8 := rfl
theorem k_X12_minutes_8 : look a_X12_minutes 8 = vIadd 9 := rfl
theorem k_X12_minutes_9 : look a_X12_minutes 9 = vIald TT 10 := rfl
theorem k_X12_minutes_10 : look a_X12_minutes 10 = vIret := rfl
theorem o_X12_minutes {X : amX} (e1 : XT X = TT) (e2 : XD X = 0) (hB : amB X RX12 cX12_minutes (some .int) 2) : ∀ pc, amOK X pc (look a_X12_minutes pc) := by
  have hT : amTok (XT X) := e1 ▸ TT_ok
  refine look_ok ?_
  unfold a_X12_minutes
  refine fc (ok_aload_n hB dX12_minutes_0) ?_
  refine fc (okt_getR e1 hB hT fl_X12_43 rfl af_12_20 at_12_20 (by decide) dX12_minutes_1) ?_
  refine fc (ok_iconst hB dX12_minutes_4) ?_
  refine fc (ok_iload_n hB dX12_minutes_5) ?_
  refine fc (ok_imul hB dX12_minutes_6) ?_
  refine fc (ok_iconst hB dX12_minutes_7) ?_
  refine fc (ok_iadd hB dX12_minutes_8) ?_
  refine fc (okt_iaload e1 hB dX12_minutes_9) ?_
  refine fc (ok_iret hB dX12_minutes_10) ?_
  exact fn

def w_X12_minutes : WP := fun av σ Q => ∃ (p : Int), av = [(28, 5000), (0, p)] ∧ (0 ≤ p ∧ p < 4 ∧ Q (0, σ 5007 (4 * p + 3)) σ)
theorem w_X12_minutes_e (p : Int) (σ : Mem) (Q : AV → Mem → Prop) : w_X12_minutes [(28, 5000), (0, p)] σ Q = (0 ≤ p ∧ p < 4 ∧ Q (0, σ 5007 (4 * p + 3)) σ) := by
  apply propext; constructor
  · rintro ⟨p', h9, hb9⟩; cases h9; exact hb9
  · intro hb9; exact ⟨p, rfl, hb9⟩

set_option maxRecDepth 100000 in
set_option maxHeartbeats 4000000 in
theorem s_X12_minutes : ∀ av σ Q, w_X12_minutes av σ Q → amCall 0 0 0 TT yX12_minutes cX12_minutes 2 (some .int) av σ Q := by
  rintro av σ Q ⟨p, rfl, h0, h1, h⟩
  refine am_m0 (own := RX12) (A := look a_X12_minutes) (fun X e1 e2 hB => o_X12_minutes e1 e2 hB) rfl (by decide +kernel) rfl rfl 190 (w := 2) ?_
  change vcs _ _ _ _ 190 0 [(28, 5000), (0, p)] [] σ
  simp only [↓reduceIte, inR_0, inR_1, inR_m, vSw2_e, swP_n, swP_c, vI_e, vL_e, vNull_e, vIload_e, vLload_e, vAload_e, vIstore_e, vLstore_e, vAstore_e, vIinc_e, vIadd_e, vIsub_e, vImul_e, vIand_e, vIor_e, vIxor_e, vIshl_e, vIshr_e, vIushr_e, vIdiv_e, vIrem_e, vLadd_e, vLsub_e, vLmul_e, vLand_e, vLor_e, vLxor_e, vLdiv_e, vLrem_e, vLushr_e, vLshl_e, vLcmp_e, vIneg_e, vI2l_e, vL2i_e, vI2b_e, vI2c_e, vDup_e, vPop_e, vDup2_e, vGoto_e, vIcEq_e, vIfEq_e, vIcNe_e, vIfNe_e, vIcLt_e, vIfLt_e, vIcGe_e, vIfGe_e, vIcGt_e, vIfGt_e, vIcLe_e, vIfLe_e, vNonnull_e, vSw_e, vGetI_e, vGetL_e, vGetR_e, vPutI_e, vPutZ_e, vPutL_e, vPutR_e, vIald_e, vIald_s, vLald_e, vBald_e, vBald_s, vAald_e, vIast_e, vLast_e, vBast_e, vAast_e, vAlen_e8, vAlen_e9, vAlen_e10, vAlen_e11, vAlen_e5, vAlen_e3, vGets_e, vCompact_e, vLdcS_e, vIret_e, vZret_e, vCret_e, vBret_e, vLret_e, vVret_e, vAret_e, vCallM_e0, vCallMV_e0, vCallS_e0, vCallSV_e0, vCallM_e1, vCallMV_e1, vCallS_e1, vCallSV_e1, vCallM_e2, vCallMV_e2, vCallS_e2, vCallSV_e2, vCallM_e3, vCallMV_e3, vCallS_e3, vCallSV_e3, vCallM_e4, vCallMV_e4, vCallS_e4, vCallSV_e4, vCallM_e5, vCallMV_e5, vCallS_e5, vCallSV_e5, vCallM_e6, vCallMV_e6, vCallS_e6, vCallSV_e6, vCallM_e7, vCallMV_e7, vCallS_e7, vCallSV_e7, vBad_e, vStrVal_e, vStrCod_e, vForm_e, vCallT_e0, vCallT_e1, vCallT_e2, vCopy_e, rf_0_0, rf_0_1, rf_0_2, rf_0_3, rf_0_4, rf_0_7, rf_0_10, rf_0_11, rf_0_12, rf_0_13, rf_0_14, rf_0_15, rf_0_16, rf_1_0, rf_3_0, rf_3_1, rf_6_0, rf_6_1, rf_9_0, rf_9_1, rf_9_3, rf_13_0, rf_13_1, rf_13_2, rf_16_0, rf_16_1, rf_16_2, rf_16_3, rf_21_0, rf_21_1, rf_21_2, rf_21_3, rf_26_0, rf_26_1, rf_26_2, rf_26_3, rf_26_4, rf_26_5, rf_26_6, rf_31_0, rf_31_2, rf_31_5, rf_31_6, rf_36_0, rf_36_1, rf_36_2, rf_36_3, rf_39_0, rf_39_1, rf_39_2, rf_41_0, rf_41_1, rf_41_2, rf_41_3, rf_5000_1, rf_5000_2, rf_5000_3, rf_5000_4, rf_5000_5, rf_5000_15, rf_5000_16, rf_5000_18, rf_5000_19, rf_5000_20, rf_5000_21, rf_5000_22, rf_5000_23, rf_5000_24, rf_5000_25, rf_5000_26, rf_5000_27, rf_5000_36, rf_5000_37, rf_5000_40, rf_5000_41, rf_5000_42, rf_5000_43, rf_5000_44, rf_5000_45, rf_5000_47, rf_5000_52, rf_5000_54, rf_5000_55, rf_100_0, rf_100_1, rf_103_0, rf_103_1, rf_106_0, rf_106_1, rf_109_0, rf_109_1, al_2, al_4, al_5, al_7, al_8, al_10, al_11, al_12, al_14, al_15, al_17, al_18, al_19, al_20, al_22, al_23, al_24, al_25, al_27, al_28, al_29, al_30, al_32, al_33, al_34, al_35, al_37, al_38, al_40, al_42, al_5001, al_5002, al_5003, al_5004, al_5005, al_5006, al_5007, al_5008, al_5009, al_5010, al_5011, al_5012, al_5013, al_5014, al_5015, al_5016, al_5017, al_5018, al_5019, al_5020, al_5021, al_5022, al_5023, al_5024, al_5025, al_5026, al_9000, al_101, al_102, al_104, al_105, al_107, al_108, al_110, al_111, vcs_e, lg_c0, lg_cs, lg_nil, set_c0, set_cs, okst_0, okst_s, acok_n, acok_c, List.contains_nil, List.contains_cons, Bool.or_false, Bool.false_or, Bool.false_eq_true, if_false, if_true, ite_self, ne_eq, true_and, and_true, not_false_eq_true, not_true_eq_false, false_imp_iff, true_imp_iff, Nat.ble_eq, Bool.and_eq_true, reduceCtorEq, or_false, false_or, or_true, true_or, false_and, and_false, and_self, Int.reduceLE, Int.reduceAdd, Int.reduceSub, Int.reduceMul, Int.reduceNeg, Int.reduceLT, Int.reduceEq, Int.reduceNe, Nat.reduceBEq, Nat.reduceBNe, Nat.reduceEqDiff, amCmp_in, amCmp_lt, amCmp_le, amCmp_gt, amCmp_ge, amCmp_eq, amCmp_ne, Nat.reduceLeDiff, Nat.reduceSub, Bool.and_true, Bool.true_and, Bool.and_self, Bool.or_true, Bool.true_or, isRf_3, isRf_4, isRf_5, isRf_8, isRf_9, isRf_10, isRf_11, isRf_15, isRf_16, isRf_17, isRf_18, isRf_19, isRf_20, isRf_21, isRf_22, isRf_23, isRf_24, isRf_25, isRf_26, isRf_27, isRf_28, k_X12_minutes_0, k_X12_minutes_1, k_X12_minutes_4, k_X12_minutes_5, k_X12_minutes_6, k_X12_minutes_7, k_X12_minutes_8, k_X12_minutes_9, k_X12_minutes_10, up_s, up_nj, up_na, up_up, savR_o, cpy_o, fillm_o, setAud_o, setv_o, setv_s, Int.reduceNe, Int.reduceEq, Int.reduceLT, Int.reduceAdd, not_false_eq_true, ne_eq, or_true, true_or]
  repeat' (first | assumption | apply And.intro | intro _)
  all_goals first | omega | exact absurd trivial (by assumption) | exact h
def a_X12_feeling : AC := [(0, vAload 0 1), (1, vGetR TT 28 20 8 4), (4, vI 4 5), (5, vIload 1 6), (6, vImul 7), (7, vIload 2 8), (8, vI 3 9), (9, vIrem 10), (10, vIadd 11), (11, vIald TT 12), (12, vIret)]
theorem k_X12_feeling_0 : look a_X12_feeling 0 = vAload 0 1 := rfl
theorem k_X12_feeling_1 : look a_X12_feeling 1 = vGetR TT 28 20 8 4 := rfl
theorem k_X12_feeling_4 : look a_X12_feeling 4 = vI 4 5 := rfl
theorem k_X12_feeling_5 : look a_X12_feeling 5 = vIload 1 6 := rfl
theorem k_X12_feeling_6 : look a_X12_feeling 6 = vImul 7 := rfl
theorem k_X12_feeling_7 : look a_X12_feeling 7 = vIload 2 8 := rfl
theorem k_X12_feeling_8 : look a_X12_feeling 8 = vI 3 9 := rfl
theorem k_X12_feeling_9 : look a_X12_feeling 9 = vIrem 10 := rfl
theorem k_X12_feeling_10 : look a_X12_feeling 10 = vIadd 11 := rfl
theorem k_X12_feeling_11 : look a_X12_feeling 11 = vIald TT 12 := rfl
theorem k_X12_feeling_12 : look a_X12_feeling 12 = vIret := rfl
theorem o_X12_feeling {X : amX} (e1 : XT X = TT) (e2 : XD X = 0) (hB : amB X RX12 cX12_feeling (some .int) 3) : ∀ pc, amOK X pc (look a_X12_feeling pc) := by
  have hT : amTok (XT X) := e1 ▸ TT_ok
  refine look_ok ?_
  unfold a_X12_feeling
  refine fc (ok_aload_n hB dX12_feeling_0) ?_
  refine fc (okt_getR e1 hB hT fl_X12_43 rfl af_12_20 at_12_20 (by decide) dX12_feeling_1) ?_
  refine fc (ok_iconst hB dX12_feeling_4) ?_
  refine fc (ok_iload_n hB dX12_feeling_5) ?_
  refine fc (ok_imul hB dX12_feeling_6) ?_
  refine fc (ok_iload_n hB dX12_feeling_7) ?_
  refine fc (ok_iconst hB dX12_feeling_8) ?_
  refine fc (ok_irem hB dX12_feeling_9) ?_
  refine fc (ok_iadd hB dX12_feeling_10) ?_
  refine fc (okt_iaload e1 hB dX12_feeling_11) ?_
  refine fc (ok_iret hB dX12_feeling_12) ?_
  exact fn

def w_X12_feeling : WP := fun av σ Q => ∃ (p : Int) (k : Int), av = [(28, 5000), (0, p), (0, k)] ∧ (0 ≤ p ∧ p < 4 ∧ 0 ≤ k ∧ k ≤ 1000 ∧ Q (0, σ 5007 (4 * p + k % 3)) σ)
theorem w_X12_feeling_e (p : Int) (k : Int) (σ : Mem) (Q : AV → Mem → Prop) : w_X12_feeling [(28, 5000), (0, p), (0, k)] σ Q = (0 ≤ p ∧ p < 4 ∧ 0 ≤ k ∧ k ≤ 1000 ∧ Q (0, σ 5007 (4 * p + k % 3)) σ) := by
  apply propext; constructor
  · rintro ⟨p', k', h9, hb9⟩; cases h9; exact hb9
  · intro hb9; exact ⟨p, k, rfl, hb9⟩

set_option maxRecDepth 100000 in
set_option maxHeartbeats 4000000 in
theorem s_X12_feeling : ∀ av σ Q, w_X12_feeling av σ Q → amCall 0 0 0 TT yX12_feeling cX12_feeling 3 (some .int) av σ Q := by
  rintro av σ Q ⟨p, k, rfl, h0, h1, k0, k1, h⟩
  have km : Int.tmod k 3 = k % 3 := Int.tmod_eq_emod_of_nonneg k0
  refine am_m0 (own := RX12) (A := look a_X12_feeling) (fun X e1 e2 hB => o_X12_feeling e1 e2 hB) rfl (by decide +kernel) rfl rfl 190 (w := 3) ?_
  change vcs _ _ _ _ 190 0 [(28, 5000), (0, p), (0, k)] [] σ
  simp only [↓reduceIte, inR_0, inR_1, inR_m, vSw2_e, swP_n, swP_c, vI_e, vL_e, vNull_e, vIload_e, vLload_e, vAload_e, vIstore_e, vLstore_e, vAstore_e, vIinc_e, vIadd_e, vIsub_e, vImul_e, vIand_e, vIor_e, vIxor_e, vIshl_e, vIshr_e, vIushr_e, vIdiv_e, vIrem_e, vLadd_e, vLsub_e, vLmul_e, vLand_e, vLor_e, vLxor_e, vLdiv_e, vLrem_e, vLushr_e, vLshl_e, vLcmp_e, vIneg_e, vI2l_e, vL2i_e, vI2b_e, vI2c_e, vDup_e, vPop_e, vDup2_e, vGoto_e, vIcEq_e, vIfEq_e, vIcNe_e, vIfNe_e, vIcLt_e, vIfLt_e, vIcGe_e, vIfGe_e, vIcGt_e, vIfGt_e, vIcLe_e, vIfLe_e, vNonnull_e, vSw_e, vGetI_e, vGetL_e, vGetR_e, vPutI_e, vPutZ_e, vPutL_e, vPutR_e, vIald_e, vIald_s, vLald_e, vBald_e, vBald_s, vAald_e, vIast_e, vLast_e, vBast_e, vAast_e, vAlen_e8, vAlen_e9, vAlen_e10, vAlen_e11, vAlen_e5, vAlen_e3, vGets_e, vCompact_e, vLdcS_e, vIret_e, vZret_e, vCret_e, vBret_e, vLret_e, vVret_e, vAret_e, vCallM_e0, vCallMV_e0, vCallS_e0, vCallSV_e0, vCallM_e1, vCallMV_e1, vCallS_e1, vCallSV_e1, vCallM_e2, vCallMV_e2, vCallS_e2, vCallSV_e2, vCallM_e3, vCallMV_e3, vCallS_e3, vCallSV_e3, vCallM_e4, vCallMV_e4, vCallS_e4, vCallSV_e4, vCallM_e5, vCallMV_e5, vCallS_e5, vCallSV_e5, vCallM_e6, vCallMV_e6, vCallS_e6, vCallSV_e6, vCallM_e7, vCallMV_e7, vCallS_e7, vCallSV_e7, vBad_e, vStrVal_e, vStrCod_e, vForm_e, vCallT_e0, vCallT_e1, vCallT_e2, vCopy_e, rf_0_0, rf_0_1, rf_0_2, rf_0_3, rf_0_4, rf_0_7, rf_0_10, rf_0_11, rf_0_12, rf_0_13, rf_0_14, rf_0_15, rf_0_16, rf_1_0, rf_3_0, rf_3_1, rf_6_0, rf_6_1, rf_9_0, rf_9_1, rf_9_3, rf_13_0, rf_13_1, rf_13_2, rf_16_0, rf_16_1, rf_16_2, rf_16_3, rf_21_0, rf_21_1, rf_21_2, rf_21_3, rf_26_0, rf_26_1, rf_26_2, rf_26_3, rf_26_4, rf_26_5, rf_26_6, rf_31_0, rf_31_2, rf_31_5, rf_31_6, rf_36_0, rf_36_1, rf_36_2, rf_36_3, rf_39_0, rf_39_1, rf_39_2, rf_41_0, rf_41_1, rf_41_2, rf_41_3, rf_5000_1, rf_5000_2, rf_5000_3, rf_5000_4, rf_5000_5, rf_5000_15, rf_5000_16, rf_5000_18, rf_5000_19, rf_5000_20, rf_5000_21, rf_5000_22, rf_5000_23, rf_5000_24, rf_5000_25, rf_5000_26, rf_5000_27, rf_5000_36, rf_5000_37, rf_5000_40, rf_5000_41, rf_5000_42, rf_5000_43, rf_5000_44, rf_5000_45, rf_5000_47, rf_5000_52, rf_5000_54, rf_5000_55, rf_100_0, rf_100_1, rf_103_0, rf_103_1, rf_106_0, rf_106_1, rf_109_0, rf_109_1, al_2, al_4, al_5, al_7, al_8, al_10, al_11, al_12, al_14, al_15, al_17, al_18, al_19, al_20, al_22, al_23, al_24, al_25, al_27, al_28, al_29, al_30, al_32, al_33, al_34, al_35, al_37, al_38, al_40, al_42, al_5001, al_5002, al_5003, al_5004, al_5005, al_5006, al_5007, al_5008, al_5009, al_5010, al_5011, al_5012, al_5013, al_5014, al_5015, al_5016, al_5017, al_5018, al_5019, al_5020, al_5021, al_5022, al_5023, al_5024, al_5025, al_5026, al_9000, al_101, al_102, al_104, al_105, al_107, al_108, al_110, al_111, vcs_e, lg_c0, lg_cs, lg_nil, set_c0, set_cs, okst_0, okst_s, acok_n, acok_c, List.contains_nil, List.contains_cons, Bool.or_false, Bool.false_or, Bool.false_eq_true, if_false, if_true, ite_self, ne_eq, true_and, and_true, not_false_eq_true, not_true_eq_false, false_imp_iff, true_imp_iff, Nat.ble_eq, Bool.and_eq_true, reduceCtorEq, or_false, false_or, or_true, true_or, false_and, and_false, and_self, Int.reduceLE, Int.reduceAdd, Int.reduceSub, Int.reduceMul, Int.reduceNeg, Int.reduceLT, Int.reduceEq, Int.reduceNe, Nat.reduceBEq, Nat.reduceBNe, Nat.reduceEqDiff, amCmp_in, amCmp_lt, amCmp_le, amCmp_gt, amCmp_ge, amCmp_eq, amCmp_ne, Nat.reduceLeDiff, Nat.reduceSub, Bool.and_true, Bool.true_and, Bool.and_self, Bool.or_true, Bool.true_or, isRf_3, isRf_4, isRf_5, isRf_8, isRf_9, isRf_10, isRf_11, isRf_15, isRf_16, isRf_17, isRf_18, isRf_19, isRf_20, isRf_21, isRf_22, isRf_23, isRf_24, isRf_25, isRf_26, isRf_27, isRf_28, k_X12_feeling_0, k_X12_feeling_1, k_X12_feeling_4, k_X12_feeling_5, k_X12_feeling_6, k_X12_feeling_7, k_X12_feeling_8, k_X12_feeling_9, k_X12_feeling_10, k_X12_feeling_11, k_X12_feeling_12, up_s, up_nj, up_na, up_up, savR_o, cpy_o, fillm_o, setAud_o, setv_o, setv_s, Int.reduceNe, Int.reduceEq, Int.reduceLT, Int.reduceAdd, not_false_eq_true, ne_eq, or_true, true_or, km]
  repeat' (first | assumption | apply And.intro | intro _)
  all_goals first | omega | exact absurd trivial (by assumption) | exact h
theorem wd_1316 : Cond.fieldLink RX12 143 "ArmchairHouseModel" "fault" "I" ∈ TBL := tb_tab (List.mem_of_getElem? (i := 1316) (by decide +kernel)) rfl
theorem fl_X12_143 : amFl RX12 12 11 143 RX12 TX12 57 := ⟨rfl, inT_12, by decide, wd_1316⟩
theorem wd_1315 : Cond.fieldLink RX12 134 "ArmchairHouseModel" "at" "I" ∈ TBL := tb_tab (List.mem_of_getElem? (i := 1315) (by decide +kernel)) rfl
theorem fl_X12_134 : amFl RX12 12 10 134 RX12 TX12 57 := ⟨rfl, inT_12, by decide, wd_1315⟩
theorem fp_X12_143 : amFp RX12 12 11 143 RX12 TX12 57 tyX12 .int := ⟨fl_X12_143, tyX12_ok, nmX12, by decide +kernel⟩
def a_X12_fails : AC := [(0, vAload 0 1), (1, vGetI 28 11 4), (4, vI (-1) 5), (5, vIcNe 16 8), (8, vAload 0 9), (9, vAload 0 10), (10, vGetI 28 10 13), (13, vPutI 28 11 16), (16, vI 0 17), (17, vZret)]
theorem k_X12_fails_0 : look a_X12_fails 0 = vAload 0 1 := rfl
theorem k_X12_fails_1 : look a_X12_fails 1 = vGetI 28 11 4 := rfl
theorem k_X12_fails_4 : look a_X12_fails 4 = vI (-1) 5 := rfl
theorem k_X12_fails_5 : look a_X12_fails 5 = vIcNe 16 8 := rfl
theorem k_X12_fails_8 : look a_X12_fails 8 = vAload 0 9 := rfl
theorem k_X12_fails_9 : look a_X12_fails 9 = vAload 0 10 := rfl
theorem k_X12_fails_10 : look a_X12_fails 10 = vGetI 28 10 13 := rfl
theorem k_X12_fails_13 : look a_X12_fails 13 = vPutI 28 11 16 := rfl
theorem k_X12_fails_16 : look a_X12_fails 16 = vI 0 17 := rfl
theorem k_X12_fails_17 : look a_X12_fails 17 = vZret := rfl
theorem o_X12_fails {X : amX} (e1 : XT X = TT) (e2 : XD X = 0) (hB : amB X RX12 cX12_fails (some .boolean) 1) : ∀ pc, amOK X pc (look a_X12_fails pc) := by
  have hT : amTok (XT X) := e1 ▸ TT_ok
  refine look_ok ?_
  unfold a_X12_fails
  refine fc (ok_aload_n hB dX12_fails_0) ?_
  refine fc (ok_getI hB hT fl_X12_143 rfl rfl (Or.inl af_12_11) dX12_fails_1) ?_
  refine fc (ok_iconst hB dX12_fails_4) ?_
  refine fc (ok_icmp_ne hB (t := 16) (by decide) dX12_fails_5) ?_
  refine fc (ok_aload_n hB dX12_fails_8) ?_
  refine fc (ok_aload_n hB dX12_fails_9) ?_
  refine fc (ok_getI hB hT fl_X12_134 rfl rfl (Or.inl af_12_10) dX12_fails_10) ?_
  refine fc (ok_putI hB hT fp_X12_143 rfl rfl rfl af_12_11 dX12_fails_13) ?_
  refine fc (ok_iconst hB dX12_fails_16) ?_
  refine fc (ok_zret hB dX12_fails_17) ?_
  exact fn
def faM (σ : Mem) : Mem := if σ 5000 11 = -1 then up σ 5000 11 (σ 5000 10) else σ
def w_X12_fails : WP := fun av σ Q => av = [(28, 5000)] ∧ (InR (σ 5000 11) ∧ Q (0, 0) (faM σ))
theorem w_X12_fails_e  (σ : Mem) (Q : AV → Mem → Prop) : w_X12_fails [(28, 5000)] σ Q = (InR (σ 5000 11) ∧ Q (0, 0) (faM σ)) := by
  apply propext; constructor
  · rintro ⟨h9, hb9⟩; cases h9; exact hb9
  · intro hb9; exact ⟨rfl, hb9⟩

set_option maxRecDepth 100000 in
set_option maxHeartbeats 4000000 in
theorem s_X12_fails : ∀ av σ Q, w_X12_fails av σ Q → amCall 0 0 0 TT yX12_fails cX12_fails 1 (some .boolean) av σ Q := by
  rintro av σ Q ⟨rfl, hf, h⟩
  unfold faM at h
  refine am_m0 (own := RX12) (A := look a_X12_fails) (fun X e1 e2 hB => o_X12_fails e1 e2 hB) rfl (by decide +kernel) rfl rfl 190 (w := 1) ?_
  change vcs _ _ _ _ 190 0 [(28, 5000)] [] σ
  simp only [↓reduceIte, inR_0, inR_1, inR_m, vSw2_e, swP_n, swP_c, vI_e, vL_e, vNull_e, vIload_e, vLload_e, vAload_e, vIstore_e, vLstore_e, vAstore_e, vIinc_e, vIadd_e, vIsub_e, vImul_e, vIand_e, vIor_e, vIxor_e, vIshl_e, vIshr_e, vIushr_e, vIdiv_e, vIrem_e, vLadd_e, vLsub_e, vLmul_e, vLand_e, vLor_e, vLxor_e, vLdiv_e, vLrem_e, vLushr_e, vLshl_e, vLcmp_e, vIneg_e, vI2l_e, vL2i_e, vI2b_e, vI2c_e, vDup_e, vPop_e, vDup2_e, vGoto_e, vIcEq_e, vIfEq_e, vIcNe_e, vIfNe_e, vIcLt_e, vIfLt_e, vIcGe_e, vIfGe_e, vIcGt_e, vIfGt_e, vIcLe_e, vIfLe_e, vNonnull_e, vSw_e, vGetI_e, vGetL_e, vGetR_e, vPutI_e, vPutZ_e, vPutL_e, vPutR_e, vIald_e, vIald_s, vLald_e, vBald_e, vBald_s, vAald_e, vIast_e, vLast_e, vBast_e, vAast_e, vAlen_e8, vAlen_e9, vAlen_e10, vAlen_e11, vAlen_e5, vAlen_e3, vGets_e, vCompact_e, vLdcS_e, vIret_e, vZret_e, vCret_e, vBret_e, vLret_e, vVret_e, vAret_e, vCallM_e0, vCallMV_e0, vCallS_e0, vCallSV_e0, vCallM_e1, vCallMV_e1, vCallS_e1, vCallSV_e1, vCallM_e2, vCallMV_e2, vCallS_e2, vCallSV_e2, vCallM_e3, vCallMV_e3, vCallS_e3, vCallSV_e3, vCallM_e4, vCallMV_e4, vCallS_e4, vCallSV_e4, vCallM_e5, vCallMV_e5, vCallS_e5, vCallSV_e5, vCallM_e6, vCallMV_e6, vCallS_e6, vCallSV_e6, vCallM_e7, vCallMV_e7, vCallS_e7, vCallSV_e7, vBad_e, vStrVal_e, vStrCod_e, vForm_e, vCallT_e0, vCallT_e1, vCallT_e2, vCopy_e, rf_0_0, rf_0_1, rf_0_2, rf_0_3, rf_0_4, rf_0_7, rf_0_10, rf_0_11, rf_0_12, rf_0_13, rf_0_14, rf_0_15, rf_0_16, rf_1_0, rf_3_0, rf_3_1, rf_6_0, rf_6_1, rf_9_0, rf_9_1, rf_9_3, rf_13_0, rf_13_1, rf_13_2, rf_16_0, rf_16_1, rf_16_2, rf_16_3, rf_21_0, rf_21_1, rf_21_2, rf_21_3, rf_26_0, rf_26_1, rf_26_2, rf_26_3, rf_26_4, rf_26_5, rf_26_6, rf_31_0, rf_31_2, rf_31_5, rf_31_6, rf_36_0, rf_36_1, rf_36_2, rf_36_3, rf_39_0, rf_39_1, rf_39_2, rf_41_0, rf_41_1, rf_41_2, rf_41_3, rf_5000_1, rf_5000_2, rf_5000_3, rf_5000_4, rf_5000_5, rf_5000_15, rf_5000_16, rf_5000_18, rf_5000_19, rf_5000_20, rf_5000_21, rf_5000_22, rf_5000_23, rf_5000_24, rf_5000_25, rf_5000_26, rf_5000_27, rf_5000_36, rf_5000_37, rf_5000_40, rf_5000_41, rf_5000_42, rf_5000_43, rf_5000_44, rf_5000_45, rf_5000_47, rf_5000_52, rf_5000_54, rf_5000_55, rf_100_0, rf_100_1, rf_103_0, rf_103_1, rf_106_0, rf_106_1, rf_109_0, rf_109_1, al_2, al_4, al_5, al_7, al_8, al_10, al_11, al_12, al_14, al_15, al_17, al_18, al_19, al_20, al_22, al_23, al_24, al_25, al_27, al_28, al_29, al_30, al_32, al_33, al_34, al_35, al_37, al_38, al_40, al_42, al_5001, al_5002, al_5003, al_5004, al_5005, al_5006, al_5007, al_5008, al_5009, al_5010, al_5011, al_5012, al_5013, al_5014, al_5015, al_5016, al_5017, al_5018, al_5019, al_5020, al_5021, al_5022, al_5023, al_5024, al_5025, al_5026, al_9000, al_101, al_102, al_104, al_105, al_107, al_108, al_110, al_111, vcs_e, lg_c0, lg_cs, lg_nil, set_c0, set_cs, okst_0, okst_s, acok_n, acok_c, List.contains_nil, List.contains_cons, Bool.or_false, Bool.false_or, Bool.false_eq_true, if_false, if_true, ite_self, ne_eq, true_and, and_true, not_false_eq_true, not_true_eq_false, false_imp_iff, true_imp_iff, Nat.ble_eq, Bool.and_eq_true, reduceCtorEq, or_false, false_or, or_true, true_or, false_and, and_false, and_self, Int.reduceLE, Int.reduceAdd, Int.reduceSub, Int.reduceMul, Int.reduceNeg, Int.reduceLT, Int.reduceEq, Int.reduceNe, Nat.reduceBEq, Nat.reduceBNe, Nat.reduceEqDiff, amCmp_in, amCmp_lt, amCmp_le, amCmp_gt, amCmp_ge, amCmp_eq, amCmp_ne, Nat.reduceLeDiff, Nat.reduceSub, Bool.and_true, Bool.true_and, Bool.and_self, Bool.or_true, Bool.true_or, isRf_3, isRf_4, isRf_5, isRf_8, isRf_9, isRf_10, isRf_11, isRf_15, isRf_16, isRf_17, isRf_18, isRf_19, isRf_20, isRf_21, isRf_22, isRf_23, isRf_24, isRf_25, isRf_26, isRf_27, isRf_28, k_X12_fails_0, k_X12_fails_1, k_X12_fails_4, k_X12_fails_5, k_X12_fails_8, k_X12_fails_9, k_X12_fails_10, k_X12_fails_13, k_X12_fails_16, k_X12_fails_17, up_s, up_nj, up_na, up_up, savR_o, cpy_o, fillm_o, setAud_o, setv_o, setv_s, Int.reduceNe, Int.reduceEq, Int.reduceLT, Int.reduceAdd, not_false_eq_true, ne_eq, or_true, true_or]
  by_cases c : σ 5000 11 = -1
  · rw [if_pos c] at h
    repeat' (first | assumption | apply And.intro | intro _)
    all_goals first | omega | exact absurd trivial (by assumption) | exact h
  · rw [if_neg c] at h
    repeat' (first | assumption | apply And.intro | intro _)
    all_goals first | omega | exact absurd trivial (by assumption) | exact h
