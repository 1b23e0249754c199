/-! Seasons: cell 13 (3: count), parts 14, sizes 15 -/

theorem wd_125 : Cond.fieldLink RX7 18 "ArmchairHouse$Seasons" "count" "I" ∈ TBL := tb_tab (List.mem_of_getElem? (i := 125) (by decide +kernel)) rfl
theorem fl_X7_18 : amFl RX7 7 3 18 RX7 TX7 4 := ⟨rfl, inT_7, by decide, wd_125⟩
theorem wd_124 : Cond.fieldLink RX7 15 "ArmchairHouse$Seasons" "sizes" "[I" ∈ TBL := tb_tab (List.mem_of_getElem? (i := 124) (by decide +kernel)) rfl
theorem fl_X7_15 : amFl RX7 7 2 15 RX7 TX7 4 := ⟨rfl, inT_7, by decide, wd_124⟩
def a_X7_steps : AC := [(0, vIload 1 1), (1, vIfLt 30 4), (4, vIload 1 5), (5, vAload 0 6), (6, vGetI 23 3 9), (9, vIcGe 30 12), (12, vIload 1 13), (13, vAload 0 14), (14, vGetR TT 23 2 8 17), (17, vAlen TT 18), (18, vIcGe 30 21), (21, vAload 0 22), (22, vGetR TT 23 2 8 25), (25, vIload 1 26), (26, vIald TT 27), (27, vGoto 31), (30, vI 0 31), (31, vIret)]
theorem k_X7_steps_0 : look a_X7_steps 0 = vIload 1 1 := rfl
theorem k_X7_steps_1 : look a_X7_steps 1 = vIfLt 30 4 := rfl
theorem k_X7_steps_4 : look a_X7_steps 4 = vIload 1 5 := rfl
theorem k_X7_steps_5 : look a_X7_steps 5 = vAload 0 6 := rfl
theorem k_X7_steps_6 : look a_X7_steps 6 = vGetI 23 3 9 := rfl
theorem k_X7_steps_9 : look a_X7_steps 9 = vIcGe 30 12 := rfl
theorem k_X7_steps_12 : look a_X7_steps 12 = vIload 1 13 := rfl
theorem k_X7_steps_13 : look a_X7_steps 13 = vAload 0 14 := rfl
theorem k_X7_steps_14 : look a_X7_steps 14 = vGetR TT 23 2 8 17 := rfl
theorem k_X7_steps_17 : look a_X7_steps 17 = vAlen TT 18 := rfl
theorem k_X7_steps_18 : look a_X7_steps 18 = vIcGe 30 21 := rfl
theorem k_X7_steps_21 : look a_X7_steps 21 = vAload 0 22 := rfl
theorem k_X7_steps_22 : look a_X7_steps 22 = vGetR TT 23 2 8 25 := rfl
theorem k_X7_steps_25 : look a_X7_steps 25 = vIload 1 26 := rfl
theorem k_X7_steps_26 : look a_X7_steps 26 = vIald TT 27 := rfl
theorem k_X7_steps_27 : look a_X7_steps 27 = vGoto 31 := rfl
theorem k_X7_steps_30 : look a_X7_steps 30 = vI 0 31 := rfl
theorem k_X7_steps_31 : look a_X7_steps 31 = vIret := rfl
theorem o_X7_steps {X : amX} (e1 : XT X = TT) (e2 : XD X = 0) (hB : amB X RX7 cX7_steps (some .int) 2) : ∀ pc, amOK X pc (look a_X7_steps pc) := by
  have hT : amTok (XT X) := e1 ▸ TT_ok
  refine look_ok ?_
  unfold a_X7_steps
  refine fc (ok_iload_n hB dX7_steps_0) ?_
  refine fc (ok_if_lt hB (t := 30) (by decide) dX7_steps_1) ?_
  refine fc (ok_iload_n hB dX7_steps_4) ?_
  refine fc (ok_aload_n hB dX7_steps_5) ?_
  refine fc (ok_getI hB hT fl_X7_18 rfl rfl (Or.inl af_7_3) dX7_steps_6) ?_
  refine fc (ok_icmp_ge hB (t := 30) (by decide) dX7_steps_9) ?_
  refine fc (ok_iload_n hB dX7_steps_12) ?_
  refine fc (ok_aload_n hB dX7_steps_13) ?_
  refine fc (okt_getR e1 hB hT fl_X7_15 rfl af_7_2 at_7_2 (by decide) dX7_steps_14) ?_
  refine fc (okt_arraylength e1 hB dX7_steps_17) ?_
  refine fc (ok_icmp_ge hB (t := 30) (by decide) dX7_steps_18) ?_
  refine fc (ok_aload_n hB dX7_steps_21) ?_
  refine fc (okt_getR e1 hB hT fl_X7_15 rfl af_7_2 at_7_2 (by decide) dX7_steps_22) ?_
  refine fc (ok_iload_n hB dX7_steps_25) ?_
  refine fc (okt_iaload e1 hB dX7_steps_26) ?_
  refine fc (ok_goto hB (t := 31) (by decide) dX7_steps_27) ?_
  refine fc (ok_iconst hB dX7_steps_30) ?_
  refine fc (ok_iret hB dX7_steps_31) ?_
  exact fn

def w_X7_steps : WP := fun av σ Q => ∃ (s : Int), av = [(23, 13), (0, s)] ∧ (InR s ∧ 0 ≤ σ 13 3 ∧ σ 13 3 ≤ 4 ∧ Q (0, if 0 ≤ s ∧ s < σ 13 3 then σ 15 s else 0) σ)
theorem w_X7_steps_e (s : Int) (σ : Mem) (Q : AV → Mem → Prop) : w_X7_steps [(23, 13), (0, s)] σ Q = (InR s ∧ 0 ≤ σ 13 3 ∧ σ 13 3 ≤ 4 ∧ Q (0, if 0 ≤ s ∧ s < σ 13 3 then σ 15 s else 0) σ) := by
  apply propext; constructor
  · rintro ⟨s', h9, hb9⟩; cases h9; exact hb9
  · intro hb9; exact ⟨s, rfl, hb9⟩

set_option maxRecDepth 100000 in
set_option maxHeartbeats 4000000 in
theorem s_X7_steps : ∀ av σ Q, w_X7_steps av σ Q → amCall 0 0 0 TT yX7_steps cX7_steps 2 (some .int) av σ Q := by
  rintro av σ Q ⟨s, rfl, hs, h0, h1, h⟩
  refine am_m0 (own := RX7) (A := look a_X7_steps) (fun X e1 e2 hB => o_X7_steps e1 e2 hB) rfl (by decide +kernel) rfl rfl 80 (w := 2) ?_
  change vcs _ _ _ _ 80 0 [(23, 13), (0, s)] [] σ
  simp only [vSw2_e, swP_n, swP_c, vI_e, vL_e, vNull_e, vIload_e, vLload_e, vAload_e, vIstore_e, vLstore_e, vAstore_e, vIinc_e, vIadd_e, vIsub_e, vImul_e, vIand_e, vIor_e, vIxor_e, vIshl_e, vIshr_e, vIushr_e, vIdiv_e, vIrem_e, vLadd_e, vLsub_e, vLmul_e, vLand_e, vLor_e, vLxor_e, vLdiv_e, vLrem_e, vLushr_e, vLshl_e, vLcmp_e, vIneg_e, vI2l_e, vL2i_e, vI2b_e, vI2c_e, vDup_e, vPop_e, vDup2_e, vGoto_e, vIcEq_e, vIfEq_e, vIcNe_e, vIfNe_e, vIcLt_e, vIfLt_e, vIcGe_e, vIfGe_e, vIcGt_e, vIfGt_e, vIcLe_e, vIfLe_e, vNonnull_e, vSw_e, vGetI_e, vGetL_e, vGetR_e, vPutI_e, vPutZ_e, vPutL_e, vPutR_e, vIald_e, vIald_s, vLald_e, vBald_e, vBald_s, vAald_e, vIast_e, vLast_e, vBast_e, vAast_e, vAlen_e8, vAlen_e9, vAlen_e10, vAlen_e11, vAlen_e5, vAlen_e3, vGets_e, vCompact_e, vLdcS_e, vIret_e, vZret_e, vCret_e, vBret_e, vLret_e, vVret_e, vAret_e, vCallM_e0, vCallMV_e0, vCallS_e0, vCallSV_e0, vCallM_e1, vCallMV_e1, vCallS_e1, vCallSV_e1, vCallM_e2, vCallMV_e2, vCallS_e2, vCallSV_e2, vCallM_e3, vCallMV_e3, vCallS_e3, vCallSV_e3, vCallM_e4, vCallMV_e4, vCallS_e4, vCallSV_e4, vCallM_e5, vCallMV_e5, vCallS_e5, vCallSV_e5, vCallM_e6, vCallMV_e6, vCallS_e6, vCallSV_e6, vCallM_e7, vCallMV_e7, vCallS_e7, vCallSV_e7, vBad_e, vStrVal_e, vStrCod_e, vForm_e, vCallT_e0, vCallT_e1, vCallT_e2, vCopy_e, rf_0_0, rf_0_1, rf_0_2, rf_0_3, rf_0_4, rf_0_7, rf_0_10, rf_0_11, rf_0_12, rf_0_13, rf_0_14, rf_0_15, rf_0_16, rf_1_0, rf_3_0, rf_3_1, rf_6_0, rf_6_1, rf_9_0, rf_9_1, rf_9_3, rf_13_0, rf_13_1, rf_13_2, rf_16_0, rf_16_1, rf_16_2, rf_16_3, rf_21_0, rf_21_1, rf_21_2, rf_21_3, rf_26_0, rf_26_1, rf_26_2, rf_26_3, rf_26_4, rf_26_5, rf_26_6, rf_31_0, rf_31_2, rf_31_5, rf_31_6, rf_36_0, rf_36_1, rf_36_2, rf_36_3, rf_39_0, rf_39_1, rf_39_2, rf_41_0, rf_41_1, rf_41_2, rf_41_3, rf_5000_1, rf_5000_2, rf_5000_3, rf_5000_4, rf_5000_5, rf_5000_15, rf_5000_16, rf_5000_18, rf_5000_19, rf_5000_20, rf_5000_21, rf_5000_22, rf_5000_23, rf_5000_24, rf_5000_25, rf_5000_26, rf_5000_27, rf_5000_36, rf_5000_37, rf_5000_40, rf_5000_41, rf_5000_42, rf_5000_43, rf_5000_44, rf_5000_45, rf_5000_47, rf_5000_52, rf_5000_54, rf_5000_55, rf_100_0, rf_100_1, rf_103_0, rf_103_1, rf_106_0, rf_106_1, rf_109_0, rf_109_1, al_2, al_4, al_5, al_7, al_8, al_10, al_11, al_12, al_14, al_15, al_17, al_18, al_19, al_20, al_22, al_23, al_24, al_25, al_27, al_28, al_29, al_30, al_32, al_33, al_34, al_35, al_37, al_38, al_40, al_42, al_5001, al_5002, al_5003, al_5004, al_5005, al_5006, al_5007, al_5008, al_5009, al_5010, al_5011, al_5012, al_5013, al_5014, al_5015, al_5016, al_5017, al_5018, al_5019, al_5020, al_5021, al_5022, al_5023, al_5024, al_5025, al_5026, al_9000, al_101, al_102, al_104, al_105, al_107, al_108, al_110, al_111, vcs_e, lg_c0, lg_cs, lg_nil, set_c0, set_cs, okst_0, okst_s, acok_n, acok_c, List.contains_nil, List.contains_cons, Bool.or_false, Bool.false_or, Bool.false_eq_true, if_false, if_true, ite_self, ne_eq, true_and, and_true, not_false_eq_true, not_true_eq_false, false_imp_iff, true_imp_iff, Nat.ble_eq, Bool.and_eq_true, reduceCtorEq, or_false, false_or, or_true, true_or, false_and, and_false, and_self, Int.reduceLE, Int.reduceAdd, Int.reduceSub, Int.reduceMul, Int.reduceNeg, Int.reduceLT, Int.reduceEq, Int.reduceNe, Nat.reduceBEq, Nat.reduceBNe, Nat.reduceEqDiff, amCmp_in, amCmp_lt, amCmp_le, amCmp_gt, amCmp_ge, amCmp_eq, amCmp_ne, Nat.reduceLeDiff, Nat.reduceSub, Bool.and_true, Bool.true_and, Bool.and_self, Bool.or_true, Bool.true_or, isRf_3, isRf_4, isRf_5, isRf_8, isRf_9, isRf_10, isRf_11, isRf_15, isRf_16, isRf_17, isRf_18, isRf_19, isRf_20, isRf_21, isRf_22, isRf_23, isRf_24, isRf_25, isRf_26, isRf_27, isRf_28, k_X7_steps_0, k_X7_steps_1, k_X7_steps_4, k_X7_steps_5, k_X7_steps_6, k_X7_steps_9, k_X7_steps_12, k_X7_steps_13, k_X7_steps_14, k_X7_steps_17, k_X7_steps_18, k_X7_steps_21, k_X7_steps_22, k_X7_steps_25, k_X7_steps_26, k_X7_steps_27, k_X7_steps_30, k_X7_steps_31]
  repeat' (first | assumption | apply And.intro | intro _)
  all_goals first | omega | (split at h <;> first | exact h | omega)
theorem wd_123 : Cond.fieldLink RX7 11 "ArmchairHouse$Seasons" "parts" "[I" ∈ TBL := tb_tab (List.mem_of_getElem? (i := 123) (by decide +kernel)) rfl
theorem fl_X7_11 : amFl RX7 7 1 11 RX7 TX7 4 := ⟨rfl, inT_7, by decide, wd_123⟩
def a_X7_part : AC := [(0, vIload 1 1), (1, vI 48 3), (3, vImul 4), (4, vIload 2 5), (5, vI 3 6), (6, vImul 7), (7, vIadd 8), (8, vIload 3 9), (9, vIadd 10), (10, vIstore 4 12), (12, vIload 4 14), (14, vIfLt 37 17), (17, vIload 4 19), (19, vAload 0 20), (20, vGetR TT 23 1 8 23), (23, vAlen TT 24), (24, vIcGe 37 27), (27, vAload 0 28), (28, vGetR TT 23 1 8 31), (31, vIload 4 33), (33, vIald TT 34), (34, vGoto 38), (37, vI (-1) 38), (38, vIret)]
theorem k_X7_part_0 : look a_X7_part 0 = vIload 1 1 := rfl
theorem k_X7_part_1 : look a_X7_part 1 = vI 48 3 := rfl
theorem k_X7_part_3 : look a_X7_part 3 = vImul 4 := rfl
theorem k_X7_part_4 : look a_X7_part 4 = vIload 2 5 := rfl
theorem k_X7_part_5 : look a_X7_part 5 = vI 3 6 := rfl
theorem k_X7_part_6 : look a_X7_part 6 = vImul 7 := rfl
theorem k_X7_part_7 : look a_X7_part 7 = vIadd 8 := rfl
theorem k_X7_part_8 : look a_X7_part 8 = vIload 3 9 := rfl
theorem k_X7_part_9 : look a_X7_part 9 = vIadd 10 := rfl
theorem k_X7_part_10 : look a_X7_part 10 = vIstore 4 12 := rfl
theorem k_X7_part_12 : look a_X7_part 12 = vIload 4 14 := rfl
theorem k_X7_part_14 : look a_X7_part 14 = vIfLt 37 17 := rfl
theorem k_X7_part_17 : look a_X7_part 17 = vIload 4 19 := rfl
theorem k_X7_part_19 : look a_X7_part 19 = vAload 0 20 := rfl
theorem k_X7_part_20 : look a_X7_part 20 = vGetR TT 23 1 8 23 := rfl
theorem k_X7_part_23 : look a_X7_part 23 = vAlen TT 24 := rfl
theorem k_X7_part_24 : look a_X7_part 24 = vIcGe 37 27 := rfl
theorem k_X7_part_27 : look a_X7_part 27 = vAload 0 28 := rfl
theorem k_X7_part_28 : look a_X7_part 28 = vGetR TT 23 1 8 31 := rfl
theorem k_X7_part_31 : look a_X7_part 31 = vIload 4 33 := rfl
theorem k_X7_part_33 : look a_X7_part 33 = vIald TT 34 := rfl
theorem k_X7_part_34 : look a_X7_part 34 = vGoto 38 := rfl
theorem k_X7_part_37 : look a_X7_part 37 = vI (-1) 38 := rfl
theorem k_X7_part_38 : look a_X7_part 38 = vIret := rfl
theorem o_X7_part {X : amX} (e1 : XT X = TT) (e2 : XD X = 0) (hB : amB X RX7 cX7_part (some .int) 5) : ∀ pc, amOK X pc (look a_X7_part pc) := by
  have hT : amTok (XT X) := e1 ▸ TT_ok
  refine look_ok ?_
  unfold a_X7_part
  refine fc (ok_iload_n hB dX7_part_0) ?_
  refine fc (ok_bipush hB dX7_part_1 (by decide)) ?_
  refine fc (ok_imul hB dX7_part_3) ?_
  refine fc (ok_iload_n hB dX7_part_4) ?_
  refine fc (ok_iconst hB dX7_part_5) ?_
  refine fc (ok_imul hB dX7_part_6) ?_
  refine fc (ok_iadd hB dX7_part_7) ?_
  refine fc (ok_iload_n hB dX7_part_8) ?_
  refine fc (ok_iadd hB dX7_part_9) ?_
  refine fc (ok_istore hB (by decide) dX7_part_10) ?_
  refine fc (ok_iload hB dX7_part_12) ?_
  refine fc (ok_if_lt hB (t := 37) (by decide) dX7_part_14) ?_
  refine fc (ok_iload hB dX7_part_17) ?_
  refine fc (ok_aload_n hB dX7_part_19) ?_
  refine fc (okt_getR e1 hB hT fl_X7_11 rfl af_7_1 at_7_1 (by decide) dX7_part_20) ?_
  refine fc (okt_arraylength e1 hB dX7_part_23) ?_
  refine fc (ok_icmp_ge hB (t := 37) (by decide) dX7_part_24) ?_
  refine fc (ok_aload_n hB dX7_part_27) ?_
  refine fc (okt_getR e1 hB hT fl_X7_11 rfl af_7_1 at_7_1 (by decide) dX7_part_28) ?_
  refine fc (ok_iload hB dX7_part_31) ?_
  refine fc (okt_iaload e1 hB dX7_part_33) ?_
  refine fc (ok_goto hB (t := 38) (by decide) dX7_part_34) ?_
  refine fc (ok_iconst hB dX7_part_37) ?_
  refine fc (ok_iret hB dX7_part_38) ?_
  exact fn

def w_X7_part : WP := fun av σ Q => ∃ (s : Int) (i : Int) (w : Int), av = [(23, 13), (0, s), (0, i), (0, w)] ∧ (0 ≤ s ∧ s ≤ 4 ∧ 0 ≤ i ∧ i < 16 ∧ 0 ≤ w ∧ w < 3 ∧ Q (0, σ 14 (s * 48 + i * 3 + w)) σ)
theorem w_X7_part_e (s : Int) (i : Int) (w : Int) (σ : Mem) (Q : AV → Mem → Prop) : w_X7_part [(23, 13), (0, s), (0, i), (0, w)] σ Q = (0 ≤ s ∧ s ≤ 4 ∧ 0 ≤ i ∧ i < 16 ∧ 0 ≤ w ∧ w < 3 ∧ Q (0, σ 14 (s * 48 + i * 3 + w)) σ) := by
  apply propext; constructor
  · rintro ⟨s', i', w', h9, hb9⟩; cases h9; exact hb9
  · intro hb9; exact ⟨s, i, w, rfl, hb9⟩

set_option maxRecDepth 100000 in
set_option maxHeartbeats 4000000 in
theorem s_X7_part : ∀ av σ Q, w_X7_part av σ Q → amCall 0 0 0 TT yX7_part cX7_part 5 (some .int) av σ Q := by
  rintro av σ Q ⟨s, i, w, rfl, h0, h1, h2, h3, h4, h5, h⟩
  refine am_m0 (own := RX7) (A := look a_X7_part) (fun X e1 e2 hB => o_X7_part e1 e2 hB) rfl (by decide +kernel) rfl rfl 80 (w := 5) ?_
  change vcs _ _ _ _ 80 0 [(23, 13), (0, s), (0, i), (0, w), (6, 0)] [] σ
  simp only [vSw2_e, swP_n, swP_c, vI_e, vL_e, vNull_e, vIload_e, vLload_e, vAload_e, vIstore_e, vLstore_e, vAstore_e, vIinc_e, vIadd_e, vIsub_e, vImul_e, vIand_e, vIor_e, vIxor_e, vIshl_e, vIshr_e, vIushr_e, vIdiv_e, vIrem_e, vLadd_e, vLsub_e, vLmul_e, vLand_e, vLor_e, vLxor_e, vLdiv_e, vLrem_e, vLushr_e, vLshl_e, vLcmp_e, vIneg_e, vI2l_e, vL2i_e, vI2b_e, vI2c_e, vDup_e, vPop_e, vDup2_e, vGoto_e, vIcEq_e, vIfEq_e, vIcNe_e, vIfNe_e, vIcLt_e, vIfLt_e, vIcGe_e, vIfGe_e, vIcGt_e, vIfGt_e, vIcLe_e, vIfLe_e, vNonnull_e, vSw_e, vGetI_e, vGetL_e, vGetR_e, vPutI_e, vPutZ_e, vPutL_e, vPutR_e, vIald_e, vIald_s, vLald_e, vBald_e, vBald_s, vAald_e, vIast_e, vLast_e, vBast_e, vAast_e, vAlen_e8, vAlen_e9, vAlen_e10, vAlen_e11, vAlen_e5, vAlen_e3, vGets_e, vCompact_e, vLdcS_e, vIret_e, vZret_e, vCret_e, vBret_e, vLret_e, vVret_e, vAret_e, vCallM_e0, vCallMV_e0, vCallS_e0, vCallSV_e0, vCallM_e1, vCallMV_e1, vCallS_e1, vCallSV_e1, vCallM_e2, vCallMV_e2, vCallS_e2, vCallSV_e2, vCallM_e3, vCallMV_e3, vCallS_e3, vCallSV_e3, vCallM_e4, vCallMV_e4, vCallS_e4, vCallSV_e4, vCallM_e5, vCallMV_e5, vCallS_e5, vCallSV_e5, vCallM_e6, vCallMV_e6, vCallS_e6, vCallSV_e6, vCallM_e7, vCallMV_e7, vCallS_e7, vCallSV_e7, vBad_e, vStrVal_e, vStrCod_e, vForm_e, vCallT_e0, vCallT_e1, vCallT_e2, vCopy_e, rf_0_0, rf_0_1, rf_0_2, rf_0_3, rf_0_4, rf_0_7, rf_0_10, rf_0_11, rf_0_12, rf_0_13, rf_0_14, rf_0_15, rf_0_16, rf_1_0, rf_3_0, rf_3_1, rf_6_0, rf_6_1, rf_9_0, rf_9_1, rf_9_3, rf_13_0, rf_13_1, rf_13_2, rf_16_0, rf_16_1, rf_16_2, rf_16_3, rf_21_0, rf_21_1, rf_21_2, rf_21_3, rf_26_0, rf_26_1, rf_26_2, rf_26_3, rf_26_4, rf_26_5, rf_26_6, rf_31_0, rf_31_2, rf_31_5, rf_31_6, rf_36_0, rf_36_1, rf_36_2, rf_36_3, rf_39_0, rf_39_1, rf_39_2, rf_41_0, rf_41_1, rf_41_2, rf_41_3, rf_5000_1, rf_5000_2, rf_5000_3, rf_5000_4, rf_5000_5, rf_5000_15, rf_5000_16, rf_5000_18, rf_5000_19, rf_5000_20, rf_5000_21, rf_5000_22, rf_5000_23, rf_5000_24, rf_5000_25, rf_5000_26, rf_5000_27, rf_5000_36, rf_5000_37, rf_5000_40, rf_5000_41, rf_5000_42, rf_5000_43, rf_5000_44, rf_5000_45, rf_5000_47, rf_5000_52, rf_5000_54, rf_5000_55, rf_100_0, rf_100_1, rf_103_0, rf_103_1, rf_106_0, rf_106_1, rf_109_0, rf_109_1, al_2, al_4, al_5, al_7, al_8, al_10, al_11, al_12, al_14, al_15, al_17, al_18, al_19, al_20, al_22, al_23, al_24, al_25, al_27, al_28, al_29, al_30, al_32, al_33, al_34, al_35, al_37, al_38, al_40, al_42, al_5001, al_5002, al_5003, al_5004, al_5005, al_5006, al_5007, al_5008, al_5009, al_5010, al_5011, al_5012, al_5013, al_5014, al_5015, al_5016, al_5017, al_5018, al_5019, al_5020, al_5021, al_5022, al_5023, al_5024, al_5025, al_5026, al_9000, al_101, al_102, al_104, al_105, al_107, al_108, al_110, al_111, vcs_e, lg_c0, lg_cs, lg_nil, set_c0, set_cs, okst_0, okst_s, acok_n, acok_c, List.contains_nil, List.contains_cons, Bool.or_false, Bool.false_or, Bool.false_eq_true, if_false, if_true, ite_self, ne_eq, true_and, and_true, not_false_eq_true, not_true_eq_false, false_imp_iff, true_imp_iff, Nat.ble_eq, Bool.and_eq_true, reduceCtorEq, or_false, false_or, or_true, true_or, false_and, and_false, and_self, Int.reduceLE, Int.reduceAdd, Int.reduceSub, Int.reduceMul, Int.reduceNeg, Int.reduceLT, Int.reduceEq, Int.reduceNe, Nat.reduceBEq, Nat.reduceBNe, Nat.reduceEqDiff, amCmp_in, amCmp_lt, amCmp_le, amCmp_gt, amCmp_ge, amCmp_eq, amCmp_ne, Nat.reduceLeDiff, Nat.reduceSub, Bool.and_true, Bool.true_and, Bool.and_self, Bool.or_true, Bool.true_or, isRf_3, isRf_4, isRf_5, isRf_8, isRf_9, isRf_10, isRf_11, isRf_15, isRf_16, isRf_17, isRf_18, isRf_19, isRf_20, isRf_21, isRf_22, isRf_23, isRf_24, isRf_25, isRf_26, isRf_27, isRf_28, k_X7_part_0, k_X7_part_1, k_X7_part_3, k_X7_part_4, k_X7_part_5, k_X7_part_6, k_X7_part_7, k_X7_part_8, k_X7_part_9, k_X7_part_10, k_X7_part_12, k_X7_part_14, k_X7_part_17, k_X7_part_19, k_X7_part_20, k_X7_part_23, k_X7_part_24, k_X7_part_27, k_X7_part_28, k_X7_part_31, k_X7_part_33, k_X7_part_34, k_X7_part_37, k_X7_part_38]
  repeat' (first | assumption | apply And.intro | intro _)
  all_goals first | omega | exact h
/-- a step: kind, place behind it, its two digits; -1 as kind: the place is the fault -/
def stepF (t : Int → Int) (n p : Int) : Int × Int × Int × Int :=
  if t (sk t n p) = -1 ∨ fidx (stv 20103) (t (sk t n p)) 0 3 = -1 then (-1, sk t n p, -1, -1)
  else if ¬ (48 ≤ t (sk t n (sk t n p + 1)) ∧ t (sk t n (sk t n p + 1)) ≤ 57) then (-1, sk t n (sk t n p + 1), -1, -1)
  else if fidx (stv 20103) (t (sk t n p)) 0 3 ≠ 1 then (fidx (stv 20103) (t (sk t n p)) 0 3, sk t n (sk t n p + 1) + 1, t (sk t n (sk t n p + 1)) - 48, -1)
  else if ¬ (48 ≤ t (sk t n (sk t n (sk t n p + 1) + 1)) ∧ t (sk t n (sk t n (sk t n p + 1) + 1)) ≤ 57) then (-1, sk t n (sk t n (sk t n p + 1) + 1), t (sk t n (sk t n p + 1)) - 48, -1)
  else (1, sk t n (sk t n (sk t n p + 1) + 1) + 1, t (sk t n (sk t n p + 1)) - 48, t (sk t n (sk t n (sk t n p + 1) + 1)) - 48)
