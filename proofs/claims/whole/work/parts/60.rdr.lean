/-! LawReader: signs that wait, codes that are written -/
theorem sCW_len (l : Int) : ∀ (W : List Int), (sC l W).length + (sW l W).length = W.length := by
  intro W
  induction W with
  | nil => rfl
  | cons a W ih =>
    unfold sC sW
    split
    · rw [List.length_cons, List.length_cons]; omega
    · simp
theorem sN_b (l : Int) : ∀ (W : List Int), 0 ≤ sN l W ∧ sN l W ≤ W.length := by
  intro W
  induction W with
  | nil => unfold sN; simp
  | cons a W ih =>
    unfold sN
    rw [List.length_cons]
    split
    · split <;> omega
    · omega

theorem wd_79 : Cond.fieldLink RX3 17 "ArmchairHouse$LawReader" "size" "I" ∈ TBL := tb_tab (List.mem_of_getElem? (i := 79) (by decide +kernel)) rfl
theorem fl_X3_17 : amFl RX3 3 2 17 RX3 TX3 12 := ⟨rfl, inT_3, by decide, wd_79⟩
theorem wd_78 : Cond.fieldLink RX3 11 "ArmchairHouse$LawReader" "code" "[I" ∈ TBL := tb_tab (List.mem_of_getElem? (i := 78) (by decide +kernel)) rfl
theorem fl_X3_11 : amFl RX3 3 1 11 RX3 TX3 12 := ⟨rfl, inT_3, by decide, wd_78⟩
theorem fp_X3_17 : amFp RX3 3 2 17 RX3 TX3 12 tyX3 .int := ⟨fl_X3_17, tyX3_ok, nmX3, by decide +kernel⟩
def a_X3_emit : AC := [(0, vAload 0 1), (1, vGetI 19 2 4), (4, vIfLt 39 7), (7, vAload 0 8), (8, vGetI 19 2 11), (11, vAload 0 12), (12, vGetR TT 19 1 8 15), (15, vAlen TT 16), (16, vIcGe 39 19), (19, vAload 0 20), (20, vGetR TT 19 1 8 23), (23, vAload 0 24), (24, vGetI 19 2 27), (27, vIload 1 28), (28, vIast TT 29), (29, vAload 0 30), (30, vDup 31), (31, vGetI 19 2 34), (34, vI 1 35), (35, vIadd 36), (36, vPutI 19 2 39), (39, vVret)]
theorem k_X3_emit_0 : look a_X3_emit 0 = vAload 0 1 := rfl
theorem k_X3_emit_1 : look a_X3_emit 1 = vGetI 19 2 4 := rfl
theorem k_X3_emit_4 : look a_X3_emit 4 = vIfLt 39 7 := rfl
theorem k_X3_emit_7 : look a_X3_emit 7 = vAload 0 8 := rfl
theorem k_X3_emit_8 : look a_X3_emit 8 = vGetI 19 2 11 := rfl
theorem k_X3_emit_11 : look a_X3_emit 11 = vAload 0 12 := rfl
theorem k_X3_emit_12 : look a_X3_emit 12 = vGetR TT 19 1 8 15 := rfl
theorem k_X3_emit_15 : look a_X3_emit 15 = vAlen TT 16 := rfl
theorem k_X3_emit_16 : look a_X3_emit 16 = vIcGe 39 19 := rfl
theorem k_X3_emit_19 : look a_X3_emit 19 = vAload 0 20 := rfl
theorem k_X3_emit_20 : look a_X3_emit 20 = vGetR TT 19 1 8 23 := rfl
theorem k_X3_emit_23 : look a_X3_emit 23 = vAload 0 24 := rfl
theorem k_X3_emit_24 : look a_X3_emit 24 = vGetI 19 2 27 := rfl
theorem k_X3_emit_27 : look a_X3_emit 27 = vIload 1 28 := rfl
theorem k_X3_emit_28 : look a_X3_emit 28 = vIast TT 29 := rfl
theorem k_X3_emit_29 : look a_X3_emit 29 = vAload 0 30 := rfl
theorem k_X3_emit_30 : look a_X3_emit 30 = vDup 31 := rfl
theorem k_X3_emit_31 : look a_X3_emit 31 = vGetI 19 2 34 := rfl
theorem k_X3_emit_34 : look a_X3_emit 34 = vI 1 35 := rfl
theorem k_X3_emit_35 : look a_X3_emit 35 = vIadd 36 := rfl
theorem k_X3_emit_36 : look a_X3_emit 36 = vPutI 19 2 39 := rfl
theorem k_X3_emit_39 : look a_X3_emit 39 = vVret := rfl
theorem o_X3_emit {X : amX} (e1 : XT X = TT) (e2 : XD X = 0) (hB : amB X RX3 cX3_emit (none) 2) : ∀ pc, amOK X pc (look a_X3_emit pc) := by
  have hT : amTok (XT X) := e1 ▸ TT_ok
  refine look_ok ?_
  unfold a_X3_emit
  refine fc (ok_aload_n hB dX3_emit_0) ?_
  refine fc (ok_getI hB hT fl_X3_17 rfl rfl (Or.inl af_3_2) dX3_emit_1) ?_
  refine fc (ok_if_lt hB (t := 39) (by decide) dX3_emit_4) ?_
  refine fc (ok_aload_n hB dX3_emit_7) ?_
  refine fc (ok_getI hB hT fl_X3_17 rfl rfl (Or.inl af_3_2) dX3_emit_8) ?_
  refine fc (ok_aload_n hB dX3_emit_11) ?_
  refine fc (okt_getR e1 hB hT fl_X3_11 rfl af_3_1 at_3_1 (by decide) dX3_emit_12) ?_
  refine fc (okt_arraylength e1 hB dX3_emit_15) ?_
  refine fc (ok_icmp_ge hB (t := 39) (by decide) dX3_emit_16) ?_
  refine fc (ok_aload_n hB dX3_emit_19) ?_
  refine fc (okt_getR e1 hB hT fl_X3_11 rfl af_3_1 at_3_1 (by decide) dX3_emit_20) ?_
  refine fc (ok_aload_n hB dX3_emit_23) ?_
  refine fc (ok_getI hB hT fl_X3_17 rfl rfl (Or.inl af_3_2) dX3_emit_24) ?_
  refine fc (ok_iload_n hB dX3_emit_27) ?_
  refine fc (okt_iastore e1 hB dX3_emit_28) ?_
  refine fc (ok_aload_n hB dX3_emit_29) ?_
  refine fc (ok_dup hB dX3_emit_30) ?_
  refine fc (ok_getI hB hT fl_X3_17 rfl rfl (Or.inl af_3_2) dX3_emit_31) ?_
  refine fc (ok_iconst hB dX3_emit_34) ?_
  refine fc (ok_iadd hB dX3_emit_35) ?_
  refine fc (ok_putI hB hT fp_X3_17 rfl rfl rfl af_3_2 dX3_emit_36) ?_
  refine fc (ok_vret hB dX3_emit_39) ?_
  exact fn

def w_X3_emit : WP := fun av σ Q => ∃ (x : Int), av = [(19, 9), (0, x)] ∧ (0 ≤ σ 9 2 ∧ σ 9 2 < 241 ∧ Q (6, 0) (up (up σ 10 (σ 9 2) x) 9 2 (σ 9 2 + 1)))
theorem w_X3_emit_e (x : Int) (σ : Mem) (Q : AV → Mem → Prop) : w_X3_emit [(19, 9), (0, x)] σ Q = (0 ≤ σ 9 2 ∧ σ 9 2 < 241 ∧ Q (6, 0) (up (up σ 10 (σ 9 2) x) 9 2 (σ 9 2 + 1))) := by
  apply propext; constructor
  · rintro ⟨x', h9, hb9⟩; cases h9; exact hb9
  · intro hb9; exact ⟨x, rfl, hb9⟩

set_option maxRecDepth 100000 in
set_option maxHeartbeats 4000000 in
theorem s_X3_emit : ∀ av σ Q, w_X3_emit av σ Q → amCall 0 0 0 TT yX3_emit cX3_emit 2 (none) av σ Q := by
  rintro av σ Q ⟨x, rfl, h0, h1, h⟩
  refine am_m0 (own := RX3) (A := look a_X3_emit) (fun X e1 e2 hB => o_X3_emit e1 e2 hB) rfl (by decide +kernel) rfl rfl 60 (w := 2) ?_
  change vcs _ _ _ _ 60 0 [(19, 9), (0, x)] [] σ
  simp only [↓reduceIte, vSw2_e, swP_n, swP_c, vI_e, vL_e, vNull_e, vIload_e, vLload_e, vAload_e, vIstore_e, vLstore_e, vAstore_e, vIinc_e, vIadd_e, vIsub_e, vImul_e, vIand_e, vIor_e, vIxor_e, vIshl_e, vIshr_e, vIushr_e, vIdiv_e, vIrem_e, vLadd_e, vLsub_e, vLmul_e, vLand_e, vLor_e, vLxor_e, vLdiv_e, vLrem_e, vLushr_e, vLshl_e, vLcmp_e, vIneg_e, vI2l_e, vL2i_e, vI2b_e, vI2c_e, vDup_e, vPop_e, vDup2_e, vGoto_e, vIcEq_e, vIfEq_e, vIcNe_e, vIfNe_e, vIcLt_e, vIfLt_e, vIcGe_e, vIfGe_e, vIcGt_e, vIfGt_e, vIcLe_e, vIfLe_e, vNonnull_e, vSw_e, vGetI_e, vGetL_e, vGetR_e, vPutI_e, vPutZ_e, vPutL_e, vPutR_e, vIald_e, vIald_s, vLald_e, vBald_e, vBald_s, vAald_e, vIast_e, vLast_e, vBast_e, vAast_e, vAlen_e8, vAlen_e9, vAlen_e10, vAlen_e11, vAlen_e5, vAlen_e3, vGets_e, vCompact_e, vLdcS_e, vIret_e, vZret_e, vCret_e, vBret_e, vLret_e, vVret_e, vAret_e, vCallM_e0, vCallMV_e0, vCallS_e0, vCallSV_e0, vCallM_e1, vCallMV_e1, vCallS_e1, vCallSV_e1, vCallM_e2, vCallMV_e2, vCallS_e2, vCallSV_e2, vCallM_e3, vCallMV_e3, vCallS_e3, vCallSV_e3, vCallM_e4, vCallMV_e4, vCallS_e4, vCallSV_e4, vCallM_e5, vCallMV_e5, vCallS_e5, vCallSV_e5, vCallM_e6, vCallMV_e6, vCallS_e6, vCallSV_e6, vCallM_e7, vCallMV_e7, vCallS_e7, vCallSV_e7, vBad_e, vStrVal_e, vStrCod_e, vForm_e, vCallT_e0, vCallT_e1, vCallT_e2, vCopy_e, rf_0_0, rf_0_1, rf_0_2, rf_0_3, rf_0_4, rf_0_7, rf_0_10, rf_0_11, rf_0_12, rf_0_13, rf_0_14, rf_0_15, rf_0_16, rf_1_0, rf_3_0, rf_3_1, rf_6_0, rf_6_1, rf_9_0, rf_9_1, rf_9_3, rf_13_0, rf_13_1, rf_13_2, rf_16_0, rf_16_1, rf_16_2, rf_16_3, rf_21_0, rf_21_1, rf_21_2, rf_21_3, rf_26_0, rf_26_1, rf_26_2, rf_26_3, rf_26_4, rf_26_5, rf_26_6, rf_31_0, rf_31_2, rf_31_5, rf_31_6, rf_36_0, rf_36_1, rf_36_2, rf_36_3, rf_39_0, rf_39_1, rf_39_2, rf_41_0, rf_41_1, rf_41_2, rf_41_3, rf_5000_1, rf_5000_2, rf_5000_3, rf_5000_4, rf_5000_5, rf_5000_15, rf_5000_16, rf_5000_18, rf_5000_19, rf_5000_20, rf_5000_21, rf_5000_22, rf_5000_23, rf_5000_24, rf_5000_25, rf_5000_26, rf_5000_27, rf_5000_36, rf_5000_37, rf_5000_40, rf_5000_41, rf_5000_42, rf_5000_43, rf_5000_44, rf_5000_45, rf_5000_47, rf_5000_52, rf_5000_54, rf_5000_55, rf_100_0, rf_100_1, rf_103_0, rf_103_1, rf_106_0, rf_106_1, rf_109_0, rf_109_1, al_2, al_4, al_5, al_7, al_8, al_10, al_11, al_12, al_14, al_15, al_17, al_18, al_19, al_20, al_22, al_23, al_24, al_25, al_27, al_28, al_29, al_30, al_32, al_33, al_34, al_35, al_37, al_38, al_40, al_42, al_5001, al_5002, al_5003, al_5004, al_5005, al_5006, al_5007, al_5008, al_5009, al_5010, al_5011, al_5012, al_5013, al_5014, al_5015, al_5016, al_5017, al_5018, al_5019, al_5020, al_5021, al_5022, al_5023, al_5024, al_5025, al_5026, al_9000, al_101, al_102, al_104, al_105, al_107, al_108, al_110, al_111, vcs_e, lg_c0, lg_cs, lg_nil, set_c0, set_cs, okst_0, okst_s, acok_n, acok_c, List.contains_nil, List.contains_cons, Bool.or_false, Bool.false_or, Bool.false_eq_true, if_false, if_true, ite_self, ne_eq, true_and, and_true, not_false_eq_true, not_true_eq_false, false_imp_iff, true_imp_iff, Nat.ble_eq, Bool.and_eq_true, reduceCtorEq, or_false, false_or, or_true, true_or, false_and, and_false, and_self, Int.reduceLE, Int.reduceAdd, Int.reduceSub, Int.reduceMul, Int.reduceNeg, Int.reduceLT, Int.reduceEq, Int.reduceNe, Nat.reduceBEq, Nat.reduceBNe, Nat.reduceEqDiff, amCmp_in, amCmp_lt, amCmp_le, amCmp_gt, amCmp_ge, amCmp_eq, amCmp_ne, Nat.reduceLeDiff, Nat.reduceSub, Bool.and_true, Bool.true_and, Bool.and_self, Bool.or_true, Bool.true_or, isRf_3, isRf_4, isRf_5, isRf_8, isRf_9, isRf_10, isRf_11, isRf_15, isRf_16, isRf_17, isRf_18, isRf_19, isRf_20, isRf_21, isRf_22, isRf_23, isRf_24, isRf_25, isRf_26, isRf_27, isRf_28, k_X3_emit_0, k_X3_emit_1, k_X3_emit_4, k_X3_emit_7, k_X3_emit_8, k_X3_emit_11, k_X3_emit_12, k_X3_emit_15, k_X3_emit_16, k_X3_emit_19, k_X3_emit_20, k_X3_emit_23, k_X3_emit_24, k_X3_emit_27, k_X3_emit_28, k_X3_emit_29, k_X3_emit_30, k_X3_emit_31, k_X3_emit_34, k_X3_emit_35, k_X3_emit_36, k_X3_emit_39, up_s, up_nj, up_na, up_up, savR_o, cpy_o, fillm_o, setAud_o, setv_o, setv_s, Int.reduceNe, Int.reduceEq, Int.reduceLT, Int.reduceAdd, not_false_eq_true, ne_eq, or_true, true_or]
  repeat' (first | apply And.intro | intro _)
  all_goals first | omega | exact h
theorem wd_81 : Cond.fieldLink RX3 24 "ArmchairHouse$LawReader" "waits" "I" ∈ TBL := tb_tab (List.mem_of_getElem? (i := 81) (by decide +kernel)) rfl
theorem fl_X3_24 : amFl RX3 3 4 24 RX3 TX3 12 := ⟨rfl, inT_3, by decide, wd_81⟩
theorem wd_80 : Cond.fieldLink RX3 21 "ArmchairHouse$LawReader" "waiting" "[I" ∈ TBL := tb_tab (List.mem_of_getElem? (i := 80) (by decide +kernel)) rfl
theorem fl_X3_21 : amFl RX3 3 3 21 RX3 TX3 12 := ⟨rfl, inT_3, by decide, wd_80⟩
theorem fp_X3_24 : amFp RX3 3 4 24 RX3 TX3 12 tyX3 .int := ⟨fl_X3_24, tyX3_ok, nmX3, by decide +kernel⟩
def a_X3_hold : AC := [(0, vAload 0 1), (1, vGetI 19 4 4), (4, vIfLt 39 7), (7, vAload 0 8), (8, vGetI 19 4 11), (11, vAload 0 12), (12, vGetR TT 19 3 8 15), (15, vAlen TT 16), (16, vIcGe 39 19), (19, vAload 0 20), (20, vGetR TT 19 3 8 23), (23, vAload 0 24), (24, vGetI 19 4 27), (27, vIload 1 28), (28, vIast TT 29), (29, vAload 0 30), (30, vDup 31), (31, vGetI 19 4 34), (34, vI 1 35), (35, vIadd 36), (36, vPutI 19 4 39), (39, vVret)]
theorem k_X3_hold_0 : look a_X3_hold 0 = vAload 0 1 := rfl
theorem k_X3_hold_1 : look a_X3_hold 1 = vGetI 19 4 4 := rfl
theorem k_X3_hold_4 : look a_X3_hold 4 = vIfLt 39 7 := rfl
theorem k_X3_hold_7 : look a_X3_hold 7 = vAload 0 8 := rfl
theorem k_X3_hold_8 : look a_X3_hold 8 = vGetI 19 4 11 := rfl
theorem k_X3_hold_11 : look a_X3_hold 11 = vAload 0 12 := rfl
theorem k_X3_hold_12 : look a_X3_hold 12 = vGetR TT 19 3 8 15 := rfl
theorem k_X3_hold_15 : look a_X3_hold 15 = vAlen TT 16 := rfl
theorem k_X3_hold_16 : look a_X3_hold 16 = vIcGe 39 19 := rfl
theorem k_X3_hold_19 : look a_X3_hold 19 = vAload 0 20 := rfl
theorem k_X3_hold_20 : look a_X3_hold 20 = vGetR TT 19 3 8 23 := rfl
theorem k_X3_hold_23 : look a_X3_hold 23 = vAload 0 24 := rfl
theorem k_X3_hold_24 : look a_X3_hold 24 = vGetI 19 4 27 := rfl
theorem k_X3_hold_27 : look a_X3_hold 27 = vIload 1 28 := rfl
theorem k_X3_hold_28 : look a_X3_hold 28 = vIast TT 29 := rfl
theorem k_X3_hold_29 : look a_X3_hold 29 = vAload 0 30 := rfl
theorem k_X3_hold_30 : look a_X3_hold 30 = vDup 31 := rfl
theorem k_X3_hold_31 : look a_X3_hold 31 = vGetI 19 4 34 := rfl
theorem k_X3_hold_34 : look a_X3_hold 34 = vI 1 35 := rfl
theorem k_X3_hold_35 : look a_X3_hold 35 = vIadd 36 := rfl
theorem k_X3_hold_36 : look a_X3_hold 36 = vPutI 19 4 39 := rfl
theorem k_X3_hold_39 : look a_X3_hold 39 = vVret := rfl
theorem o_X3_hold {X : amX} (e1 : XT X = TT) (e2 : XD X = 0) (hB : amB X RX3 cX3_hold (none) 2) : ∀ pc, amOK X pc (look a_X3_hold pc) := by
  have hT : amTok (XT X) := e1 ▸ TT_ok
  refine look_ok ?_
  unfold a_X3_hold
  refine fc (ok_aload_n hB dX3_hold_0) ?_
  refine fc (ok_getI hB hT fl_X3_24 rfl rfl (Or.inl af_3_4) dX3_hold_1) ?_
  refine fc (ok_if_lt hB (t := 39) (by decide) dX3_hold_4) ?_
  refine fc (ok_aload_n hB dX3_hold_7) ?_
  refine fc (ok_getI hB hT fl_X3_24 rfl rfl (Or.inl af_3_4) dX3_hold_8) ?_
  refine fc (ok_aload_n hB dX3_hold_11) ?_
  refine fc (okt_getR e1 hB hT fl_X3_21 rfl af_3_3 at_3_3 (by decide) dX3_hold_12) ?_
  refine fc (okt_arraylength e1 hB dX3_hold_15) ?_
  refine fc (ok_icmp_ge hB (t := 39) (by decide) dX3_hold_16) ?_
  refine fc (ok_aload_n hB dX3_hold_19) ?_
  refine fc (okt_getR e1 hB hT fl_X3_21 rfl af_3_3 at_3_3 (by decide) dX3_hold_20) ?_
  refine fc (ok_aload_n hB dX3_hold_23) ?_
  refine fc (ok_getI hB hT fl_X3_24 rfl rfl (Or.inl af_3_4) dX3_hold_24) ?_
  refine fc (ok_iload_n hB dX3_hold_27) ?_
  refine fc (okt_iastore e1 hB dX3_hold_28) ?_
  refine fc (ok_aload_n hB dX3_hold_29) ?_
  refine fc (ok_dup hB dX3_hold_30) ?_
  refine fc (ok_getI hB hT fl_X3_24 rfl rfl (Or.inl af_3_4) dX3_hold_31) ?_
  refine fc (ok_iconst hB dX3_hold_34) ?_
  refine fc (ok_iadd hB dX3_hold_35) ?_
  refine fc (ok_putI hB hT fp_X3_24 rfl rfl rfl af_3_4 dX3_hold_36) ?_
  refine fc (ok_vret hB dX3_hold_39) ?_
  exact fn

def w_X3_hold : WP := fun av σ Q => ∃ (x : Int), av = [(19, 9), (0, x)] ∧ (0 ≤ σ 9 4 ∧ σ 9 4 < 64 ∧ Q (6, 0) (up (up σ 11 (σ 9 4) x) 9 4 (σ 9 4 + 1)))
theorem w_X3_hold_e (x : Int) (σ : Mem) (Q : AV → Mem → Prop) : w_X3_hold [(19, 9), (0, x)] σ Q = (0 ≤ σ 9 4 ∧ σ 9 4 < 64 ∧ Q (6, 0) (up (up σ 11 (σ 9 4) x) 9 4 (σ 9 4 + 1))) := by
  apply propext; constructor
  · rintro ⟨x', h9, hb9⟩; cases h9; exact hb9
  · intro hb9; exact ⟨x, rfl, hb9⟩

set_option maxRecDepth 100000 in
set_option maxHeartbeats 4000000 in
theorem s_X3_hold : ∀ av σ Q, w_X3_hold av σ Q → amCall 0 0 0 TT yX3_hold cX3_hold 2 (none) av σ Q := by
  rintro av σ Q ⟨x, rfl, h0, h1, h⟩
  refine am_m0 (own := RX3) (A := look a_X3_hold) (fun X e1 e2 hB => o_X3_hold e1 e2 hB) rfl (by decide +kernel) rfl rfl 60 (w := 2) ?_
  change vcs _ _ _ _ 60 0 [(19, 9), (0, x)] [] σ
  simp only [↓reduceIte, vSw2_e, swP_n, swP_c, vI_e, vL_e, vNull_e, vIload_e, vLload_e, vAload_e, vIstore_e, vLstore_e, vAstore_e, vIinc_e, vIadd_e, vIsub_e, vImul_e, vIand_e, vIor_e, vIxor_e, vIshl_e, vIshr_e, vIushr_e, vIdiv_e, vIrem_e, vLadd_e, vLsub_e, vLmul_e, vLand_e, vLor_e, vLxor_e, vLdiv_e, vLrem_e, vLushr_e, vLshl_e, vLcmp_e, vIneg_e, vI2l_e, vL2i_e, vI2b_e, vI2c_e, vDup_e, vPop_e, vDup2_e, vGoto_e, vIcEq_e, vIfEq_e, vIcNe_e, vIfNe_e, vIcLt_e, vIfLt_e, vIcGe_e, vIfGe_e, vIcGt_e, vIfGt_e, vIcLe_e, vIfLe_e, vNonnull_e, vSw_e, vGetI_e, vGetL_e, vGetR_e, vPutI_e, vPutZ_e, vPutL_e, vPutR_e, vIald_e, vIald_s, vLald_e, vBald_e, vBald_s, vAald_e, vIast_e, vLast_e, vBast_e, vAast_e, vAlen_e8, vAlen_e9, vAlen_e10, vAlen_e11, vAlen_e5, vAlen_e3, vGets_e, vCompact_e, vLdcS_e, vIret_e, vZret_e, vCret_e, vBret_e, vLret_e, vVret_e, vAret_e, vCallM_e0, vCallMV_e0, vCallS_e0, vCallSV_e0, vCallM_e1, vCallMV_e1, vCallS_e1, vCallSV_e1, vCallM_e2, vCallMV_e2, vCallS_e2, vCallSV_e2, vCallM_e3, vCallMV_e3, vCallS_e3, vCallSV_e3, vCallM_e4, vCallMV_e4, vCallS_e4, vCallSV_e4, vCallM_e5, vCallMV_e5, vCallS_e5, vCallSV_e5, vCallM_e6, vCallMV_e6, vCallS_e6, vCallSV_e6, vCallM_e7, vCallMV_e7, vCallS_e7, vCallSV_e7, vBad_e, vStrVal_e, vStrCod_e, vForm_e, vCallT_e0, vCallT_e1, vCallT_e2, vCopy_e, rf_0_0, rf_0_1, rf_0_2, rf_0_3, rf_0_4, rf_0_7, rf_0_10, rf_0_11, rf_0_12, rf_0_13, rf_0_14, rf_0_15, rf_0_16, rf_1_0, rf_3_0, rf_3_1, rf_6_0, rf_6_1, rf_9_0, rf_9_1, rf_9_3, rf_13_0, rf_13_1, rf_13_2, rf_16_0, rf_16_1, rf_16_2, rf_16_3, rf_21_0, rf_21_1, rf_21_2, rf_21_3, rf_26_0, rf_26_1, rf_26_2, rf_26_3, rf_26_4, rf_26_5, rf_26_6, rf_31_0, rf_31_2, rf_31_5, rf_31_6, rf_36_0, rf_36_1, rf_36_2, rf_36_3, rf_39_0, rf_39_1, rf_39_2, rf_41_0, rf_41_1, rf_41_2, rf_41_3, rf_5000_1, rf_5000_2, rf_5000_3, rf_5000_4, rf_5000_5, rf_5000_15, rf_5000_16, rf_5000_18, rf_5000_19, rf_5000_20, rf_5000_21, rf_5000_22, rf_5000_23, rf_5000_24, rf_5000_25, rf_5000_26, rf_5000_27, rf_5000_36, rf_5000_37, rf_5000_40, rf_5000_41, rf_5000_42, rf_5000_43, rf_5000_44, rf_5000_45, rf_5000_47, rf_5000_52, rf_5000_54, rf_5000_55, rf_100_0, rf_100_1, rf_103_0, rf_103_1, rf_106_0, rf_106_1, rf_109_0, rf_109_1, al_2, al_4, al_5, al_7, al_8, al_10, al_11, al_12, al_14, al_15, al_17, al_18, al_19, al_20, al_22, al_23, al_24, al_25, al_27, al_28, al_29, al_30, al_32, al_33, al_34, al_35, al_37, al_38, al_40, al_42, al_5001, al_5002, al_5003, al_5004, al_5005, al_5006, al_5007, al_5008, al_5009, al_5010, al_5011, al_5012, al_5013, al_5014, al_5015, al_5016, al_5017, al_5018, al_5019, al_5020, al_5021, al_5022, al_5023, al_5024, al_5025, al_5026, al_9000, al_101, al_102, al_104, al_105, al_107, al_108, al_110, al_111, vcs_e, lg_c0, lg_cs, lg_nil, set_c0, set_cs, okst_0, okst_s, acok_n, acok_c, List.contains_nil, List.contains_cons, Bool.or_false, Bool.false_or, Bool.false_eq_true, if_false, if_true, ite_self, ne_eq, true_and, and_true, not_false_eq_true, not_true_eq_false, false_imp_iff, true_imp_iff, Nat.ble_eq, Bool.and_eq_true, reduceCtorEq, or_false, false_or, or_true, true_or, false_and, and_false, and_self, Int.reduceLE, Int.reduceAdd, Int.reduceSub, Int.reduceMul, Int.reduceNeg, Int.reduceLT, Int.reduceEq, Int.reduceNe, Nat.reduceBEq, Nat.reduceBNe, Nat.reduceEqDiff, amCmp_in, amCmp_lt, amCmp_le, amCmp_gt, amCmp_ge, amCmp_eq, amCmp_ne, Nat.reduceLeDiff, Nat.reduceSub, Bool.and_true, Bool.true_and, Bool.and_self, Bool.or_true, Bool.true_or, isRf_3, isRf_4, isRf_5, isRf_8, isRf_9, isRf_10, isRf_11, isRf_15, isRf_16, isRf_17, isRf_18, isRf_19, isRf_20, isRf_21, isRf_22, isRf_23, isRf_24, isRf_25, isRf_26, isRf_27, isRf_28, k_X3_hold_0, k_X3_hold_1, k_X3_hold_4, k_X3_hold_7, k_X3_hold_8, k_X3_hold_11, k_X3_hold_12, k_X3_hold_15, k_X3_hold_16, k_X3_hold_19, k_X3_hold_20, k_X3_hold_23, k_X3_hold_24, k_X3_hold_27, k_X3_hold_28, k_X3_hold_29, k_X3_hold_30, k_X3_hold_31, k_X3_hold_34, k_X3_hold_35, k_X3_hold_36, k_X3_hold_39, up_s, up_nj, up_na, up_up, savR_o, cpy_o, fillm_o, setAud_o, setv_o, setv_s, Int.reduceNe, Int.reduceEq, Int.reduceLT, Int.reduceAdd, not_false_eq_true, ne_eq, or_true, true_or]
  repeat' (first | apply And.intro | intro _)
  all_goals first | omega | exact h
def a_X3_strength : AC := [(0, vIload 0 1), (1, vSw2 [(33, 96), (38, 94), (42, 102), (43, 100), (45, 100), (47, 102), (60, 98), (61, 98), (62, 98), (124, 92)] 105), (92, vI 1 93), (93, vIret), (94, vI 2 95), (95, vIret), (96, vI 3 97), (97, vIret), (98, vI 4 99), (99, vIret), (100, vI 5 101), (101, vIret), (102, vI 6 104), (104, vIret), (105, vI 0 106), (106, vIret)]
theorem k_X3_strength_0 : look a_X3_strength 0 = vIload 0 1 := rfl
theorem k_X3_strength_1 : look a_X3_strength 1 = vSw2 [(33, 96), (38, 94), (42, 102), (43, 100), (45, 100), (47, 102), (60, 98), (61, 98), (62, 98), (124, 92)] 105 := rfl
theorem k_X3_strength_92 : look a_X3_strength 92 = vI 1 93 := rfl
theorem k_X3_strength_93 : look a_X3_strength 93 = vIret := rfl
theorem k_X3_strength_94 : look a_X3_strength 94 = vI 2 95 := rfl
theorem k_X3_strength_95 : look a_X3_strength 95 = vIret := rfl
theorem k_X3_strength_96 : look a_X3_strength 96 = vI 3 97 := rfl
theorem k_X3_strength_97 : look a_X3_strength 97 = vIret := rfl
theorem k_X3_strength_98 : look a_X3_strength 98 = vI 4 99 := rfl
theorem k_X3_strength_99 : look a_X3_strength 99 = vIret := rfl
theorem k_X3_strength_100 : look a_X3_strength 100 = vI 5 101 := rfl
theorem k_X3_strength_101 : look a_X3_strength 101 = vIret := rfl
theorem k_X3_strength_102 : look a_X3_strength 102 = vI 6 104 := rfl
theorem k_X3_strength_104 : look a_X3_strength 104 = vIret := rfl
theorem k_X3_strength_105 : look a_X3_strength 105 = vI 0 106 := rfl
theorem k_X3_strength_106 : look a_X3_strength 106 = vIret := rfl
theorem o_X3_strength {X : amX} (e1 : XT X = TT) (e2 : XD X = 0) (hB : amB X RX3 cX3_strength (some .int) 1) : ∀ pc, amOK X pc (look a_X3_strength pc) := by
  have hT : amTok (XT X) := e1 ▸ TT_ok
  refine look_ok ?_
  unfold a_X3_strength
  refine fc (ok_iload_n hB dX3_strength_0) ?_
  refine fc (ok_sw2 (by decide) (ok_lookupswitch hB [(33, 96), (38, 94), (42, 102), (43, 100), (45, 100), (47, 102), (60, 98), (61, 98), (62, 98), (124, 92)] dX3_strength_1 (by decide) (by decide) (by decide))) ?_
  refine fc (ok_iconst hB dX3_strength_92) ?_
  refine fc (ok_iret hB dX3_strength_93) ?_
  refine fc (ok_iconst hB dX3_strength_94) ?_
  refine fc (ok_iret hB dX3_strength_95) ?_
  refine fc (ok_iconst hB dX3_strength_96) ?_
  refine fc (ok_iret hB dX3_strength_97) ?_
  refine fc (ok_iconst hB dX3_strength_98) ?_
  refine fc (ok_iret hB dX3_strength_99) ?_
  refine fc (ok_iconst hB dX3_strength_100) ?_
  refine fc (ok_iret hB dX3_strength_101) ?_
  refine fc (ok_bipush hB dX3_strength_102 (by decide)) ?_
  refine fc (ok_iret hB dX3_strength_104) ?_
  refine fc (ok_iconst hB dX3_strength_105) ?_
  refine fc (ok_iret hB dX3_strength_106) ?_
  exact fn

def w_X3_strength : WP := fun av σ Q => ∃ (x : Int), av = [(0, x)] ∧ (InR x ∧ Q (0, stren x) σ)
theorem w_X3_strength_e (x : Int) (σ : Mem) (Q : AV → Mem → Prop) : w_X3_strength [(0, x)] σ Q = (InR x ∧ Q (0, stren x) σ) := by
  apply propext; constructor
  · rintro ⟨x', h9, hb9⟩; cases h9; exact hb9
  · intro hb9; exact ⟨x, rfl, hb9⟩

set_option maxRecDepth 100000 in
set_option maxHeartbeats 4000000 in
theorem s_X3_strength : ∀ av σ Q, w_X3_strength av σ Q → amCall 0 0 0 TT yX3_strength cX3_strength 1 (some .int) av σ Q := by
  rintro av σ Q ⟨x, rfl, hx, h⟩
  refine am_m0 (own := RX3) (A := look a_X3_strength) (fun X e1 e2 hB => o_X3_strength e1 e2 hB) rfl (by decide +kernel) rfl rfl 60 (w := 1) ?_
  change vcs _ _ _ _ 60 0 [(0, x)] [] σ
  simp only [↓reduceIte, vSw2_e, swP_n, swP_c, vI_e, vL_e, vNull_e, vIload_e, vLload_e, vAload_e, vIstore_e, vLstore_e, vAstore_e, vIinc_e, vIadd_e, vIsub_e, vImul_e, vIand_e, vIor_e, vIxor_e, vIshl_e, vIshr_e, vIushr_e, vIdiv_e, vIrem_e, vLadd_e, vLsub_e, vLmul_e, vLand_e, vLor_e, vLxor_e, vLdiv_e, vLrem_e, vLushr_e, vLshl_e, vLcmp_e, vIneg_e, vI2l_e, vL2i_e, vI2b_e, vI2c_e, vDup_e, vPop_e, vDup2_e, vGoto_e, vIcEq_e, vIfEq_e, vIcNe_e, vIfNe_e, vIcLt_e, vIfLt_e, vIcGe_e, vIfGe_e, vIcGt_e, vIfGt_e, vIcLe_e, vIfLe_e, vNonnull_e, vSw_e, vGetI_e, vGetL_e, vGetR_e, vPutI_e, vPutZ_e, vPutL_e, vPutR_e, vIald_e, vIald_s, vLald_e, vBald_e, vBald_s, vAald_e, vIast_e, vLast_e, vBast_e, vAast_e, vAlen_e8, vAlen_e9, vAlen_e10, vAlen_e11, vAlen_e5, vAlen_e3, vGets_e, vCompact_e, vLdcS_e, vIret_e, vZret_e, vCret_e, vBret_e, vLret_e, vVret_e, vAret_e, vCallM_e0, vCallMV_e0, vCallS_e0, vCallSV_e0, vCallM_e1, vCallMV_e1, vCallS_e1, vCallSV_e1, vCallM_e2, vCallMV_e2, vCallS_e2, vCallSV_e2, vCallM_e3, vCallMV_e3, vCallS_e3, vCallSV_e3, vCallM_e4, vCallMV_e4, vCallS_e4, vCallSV_e4, vCallM_e5, vCallMV_e5, vCallS_e5, vCallSV_e5, vCallM_e6, vCallMV_e6, vCallS_e6, vCallSV_e6, vCallM_e7, vCallMV_e7, vCallS_e7, vCallSV_e7, vBad_e, vStrVal_e, vStrCod_e, vForm_e, vCallT_e0, vCallT_e1, vCallT_e2, vCopy_e, rf_0_0, rf_0_1, rf_0_2, rf_0_3, rf_0_4, rf_0_7, rf_0_10, rf_0_11, rf_0_12, rf_0_13, rf_0_14, rf_0_15, rf_0_16, rf_1_0, rf_3_0, rf_3_1, rf_6_0, rf_6_1, rf_9_0, rf_9_1, rf_9_3, rf_13_0, rf_13_1, rf_13_2, rf_16_0, rf_16_1, rf_16_2, rf_16_3, rf_21_0, rf_21_1, rf_21_2, rf_21_3, rf_26_0, rf_26_1, rf_26_2, rf_26_3, rf_26_4, rf_26_5, rf_26_6, rf_31_0, rf_31_2, rf_31_5, rf_31_6, rf_36_0, rf_36_1, rf_36_2, rf_36_3, rf_39_0, rf_39_1, rf_39_2, rf_41_0, rf_41_1, rf_41_2, rf_41_3, rf_5000_1, rf_5000_2, rf_5000_3, rf_5000_4, rf_5000_5, rf_5000_15, rf_5000_16, rf_5000_18, rf_5000_19, rf_5000_20, rf_5000_21, rf_5000_22, rf_5000_23, rf_5000_24, rf_5000_25, rf_5000_26, rf_5000_27, rf_5000_36, rf_5000_37, rf_5000_40, rf_5000_41, rf_5000_42, rf_5000_43, rf_5000_44, rf_5000_45, rf_5000_47, rf_5000_52, rf_5000_54, rf_5000_55, rf_100_0, rf_100_1, rf_103_0, rf_103_1, rf_106_0, rf_106_1, rf_109_0, rf_109_1, al_2, al_4, al_5, al_7, al_8, al_10, al_11, al_12, al_14, al_15, al_17, al_18, al_19, al_20, al_22, al_23, al_24, al_25, al_27, al_28, al_29, al_30, al_32, al_33, al_34, al_35, al_37, al_38, al_40, al_42, al_5001, al_5002, al_5003, al_5004, al_5005, al_5006, al_5007, al_5008, al_5009, al_5010, al_5011, al_5012, al_5013, al_5014, al_5015, al_5016, al_5017, al_5018, al_5019, al_5020, al_5021, al_5022, al_5023, al_5024, al_5025, al_5026, al_9000, al_101, al_102, al_104, al_105, al_107, al_108, al_110, al_111, vcs_e, lg_c0, lg_cs, lg_nil, set_c0, set_cs, okst_0, okst_s, acok_n, acok_c, List.contains_nil, List.contains_cons, Bool.or_false, Bool.false_or, Bool.false_eq_true, if_false, if_true, ite_self, ne_eq, true_and, and_true, not_false_eq_true, not_true_eq_false, false_imp_iff, true_imp_iff, Nat.ble_eq, Bool.and_eq_true, reduceCtorEq, or_false, false_or, or_true, true_or, false_and, and_false, and_self, Int.reduceLE, Int.reduceAdd, Int.reduceSub, Int.reduceMul, Int.reduceNeg, Int.reduceLT, Int.reduceEq, Int.reduceNe, Nat.reduceBEq, Nat.reduceBNe, Nat.reduceEqDiff, amCmp_in, amCmp_lt, amCmp_le, amCmp_gt, amCmp_ge, amCmp_eq, amCmp_ne, Nat.reduceLeDiff, Nat.reduceSub, Bool.and_true, Bool.true_and, Bool.and_self, Bool.or_true, Bool.true_or, isRf_3, isRf_4, isRf_5, isRf_8, isRf_9, isRf_10, isRf_11, isRf_15, isRf_16, isRf_17, isRf_18, isRf_19, isRf_20, isRf_21, isRf_22, isRf_23, isRf_24, isRf_25, isRf_26, isRf_27, isRf_28, k_X3_strength_0, k_X3_strength_1, k_X3_strength_92, k_X3_strength_93, k_X3_strength_94, k_X3_strength_95, k_X3_strength_96, k_X3_strength_97, k_X3_strength_98, k_X3_strength_99, k_X3_strength_100, k_X3_strength_101, k_X3_strength_102, k_X3_strength_104, k_X3_strength_105, k_X3_strength_106]
  unfold stren at h
  refine ⟨hx, ?_⟩
  repeat'
    split at h
    all_goals first | (rename_i c; subst c; simp only [Int.reduceEq, not_false_eq_true, not_true_eq_false, false_imp_iff, true_imp_iff, and_true, true_and]; exact h) | skip
  repeat' (first | apply And.intro | intro _)
  all_goals first | omega | exact h
theorem wd_589 : Cond.methodLink RX3 136 yX3_strength ∈ TBL := tb_tab (List.mem_of_getElem? (i := 589) (by decide +kernel)) rfl
theorem wd_4 : Cond.initialized RX3 ∈ TBL := tb_tab (List.mem_of_getElem? (i := 4) (by decide +kernel)) rfl
theorem wd_591 : Cond.code yX3_strength cX3_strength 1 (some .int) ∈ TBL := tb_tab (List.mem_of_getElem? (i := 591) (by decide +kernel)) rfl
theorem lk_X3_136 : amLk RX3 136 yX3_strength cX3_strength 1 (some .int) 1 := ⟨wd_589, wd_4, wd_591, by decide +kernel, by decide +kernel, by decide⟩
theorem wd_590 : Cond.static yX3_strength ∈ TBL := tb_tab (List.mem_of_getElem? (i := 590) (by decide +kernel)) rfl
theorem wd_592 : Cond.methodLink RX3 107 yX3_emit ∈ TBL := tb_tab (List.mem_of_getElem? (i := 592) (by decide +kernel)) rfl
theorem wd_595 : Cond.code yX3_emit cX3_emit 2 (none) ∈ TBL := tb_tab (List.mem_of_getElem? (i := 595) (by decide +kernel)) rfl
theorem lk_X3_107 : amLk RX3 107 yX3_emit cX3_emit 2 (none) 1 := ⟨wd_592, wd_4, wd_595, by decide +kernel, by decide +kernel, by decide⟩
theorem wd_594 : Cond.instanceMethod yX3_emit ∈ TBL := tb_tab (List.mem_of_getElem? (i := 594) (by decide +kernel)) rfl
theorem sl_X3_emit : Cond.selects RX3 yX3_emit yX3_emit ∈ TBL := tb_sel (List.mem_of_getElem? (i := 9) (by decide +kernel)) rfl
theorem wd_83 : Cond.fieldLink RX3 30 "ArmchairHouse$LawReader" "within" "I" ∈ TBL := tb_tab (List.mem_of_getElem? (i := 83) (by decide +kernel)) rfl
theorem fl_X3_30 : amFl RX3 3 6 30 RX3 TX3 12 := ⟨rfl, inT_3, by decide, wd_83⟩
theorem fp_X3_30 : amFp RX3 3 6 30 RX3 TX3 12 tyX3 .int := ⟨fl_X3_30, tyX3_ok, nmX3, by decide +kernel⟩
def a_X3_settle : AC := [(0, vAload 0 1), (1, vGetI 19 4 4), (4, vIfLe 95 7), (7, vAload 0 8), (8, vGetI 19 4 11), (11, vAload 0 12), (12, vGetR TT 19 3 8 15), (15, vAlen TT 16), (16, vIcGt 95 19), (19, vAload 0 20), (20, vGetR TT 19 3 8 23), (23, vAload 0 24), (24, vGetI 19 4 27), (27, vI 1 28), (28, vIsub 29), (29, vIald TT 30), (30, vCallS w_X3_strength 1 33), (33, vIload 1 34), (34, vIcLt 95 37), (37, vAload 0 38), (38, vDup 39), (39, vGetI 19 4 42), (42, vI 1 43), (43, vIsub 44), (44, vPutI 19 4 47), (47, vAload 0 48), (48, vI 20000 51), (51, vAload 0 52), (52, vGetR TT 19 3 8 55), (55, vAload 0 56), (56, vGetI 19 4 59), (59, vIald TT 60), (60, vIadd 61), (61, vCallMV w_X3_emit 19 1 64), (64, vAload 0 65), (65, vDup 66), (66, vGetI 19 6 69), (69, vAload 0 70), (70, vGetR TT 19 3 8 73), (73, vAload 0 74), (74, vGetI 19 4 77), (77, vIald TT 78), (78, vI 33 80), (80, vIcNe 87 83), (83, vI 1 84), (84, vGoto 88), (87, vI 0 88), (88, vIsub 89), (89, vPutI 19 6 92), (92, vGoto 0), (95, vVret)]
theorem k_X3_settle_0 : look a_X3_settle 0 = vAload 0 1 := rfl
theorem k_X3_settle_1 : look a_X3_settle 1 = vGetI 19 4 4 := rfl
theorem k_X3_settle_4 : look a_X3_settle 4 = vIfLe 95 7 := rfl
theorem k_X3_settle_7 : look a_X3_settle 7 = vAload 0 8 := rfl
theorem k_X3_settle_8 : look a_X3_settle 8 = vGetI 19 4 11 := rfl
theorem k_X3_settle_11 : look a_X3_settle 11 = vAload 0 12 := rfl
theorem k_X3_settle_12 : look a_X3_settle 12 = vGetR TT 19 3 8 15 := rfl
theorem k_X3_settle_15 : look a_X3_settle 15 = vAlen TT 16 := rfl
theorem k_X3_settle_16 : look a_X3_settle 16 = vIcGt 95 19 := rfl
theorem k_X3_settle_19 : look a_X3_settle 19 = vAload 0 20 := rfl
theorem k_X3_settle_20 : look a_X3_settle 20 = vGetR TT 19 3 8 23 := rfl
theorem k_X3_settle_23 : look a_X3_settle 23 = vAload 0 24 := rfl
theorem k_X3_settle_24 : look a_X3_settle 24 = vGetI 19 4 27 := rfl
theorem k_X3_settle_27 : look a_X3_settle 27 = vI 1 28 := rfl
theorem k_X3_settle_28 : look a_X3_settle 28 = vIsub 29 := rfl
theorem k_X3_settle_29 : look a_X3_settle 29 = vIald TT 30 := rfl
theorem k_X3_settle_30 : look a_X3_settle 30 = vCallS w_X3_strength 1 33 := rfl
theorem k_X3_settle_33 : look a_X3_settle 33 = vIload 1 34 := rfl
theorem k_X3_settle_34 : look a_X3_settle 34 = vIcLt 95 37 := rfl
theorem k_X3_settle_37 : look a_X3_settle 37 = vAload 0 38 := rfl
theorem k_X3_settle_38 : look a_X3_settle 38 = vDup 39 := rfl
theorem k_X3_settle_39 : look a_X3_settle 39 = vGetI 19 4 42 := rfl
theorem k_X3_settle_42 : look a_X3_settle 42 = vI 1 43 := rfl
theorem k_X3_settle_43 : look a_X3_settle 43 = vIsub 44 := rfl
theorem k_X3_settle_44 : look a_X3_settle 44 = vPutI 19 4 47 := rfl
theorem k_X3_settle_47 : look a_X3_settle 47 = vAload 0 48 := rfl
theorem k_X3_settle_48 : look a_X3_settle 48 = vI 20000 51 := rfl
theorem k_X3_settle_51 : look a_X3_settle 51 = vAload 0 52 := rfl
theorem k_X3_settle_52 : look a_X3_settle 52 = vGetR TT 19 3 8 55 := rfl
theorem k_X3_settle_55 : look a_X3_settle 55 = vAload 0 56 := rfl
theorem k_X3_settle_56 : look a_X3_settle 56 = vGetI 19 4 59 := rfl
theorem k_X3_settle_59 : look a_X3_settle 59 = vIald TT 60 := rfl
theorem k_X3_settle_60 : look a_X3_settle 60 = vIadd 61 := rfl
theorem k_X3_settle_61 : look a_X3_settle 61 = vCallMV w_X3_emit 19 1 64 := rfl
theorem k_X3_settle_64 : look a_X3_settle 64 = vAload 0 65 := rfl
theorem k_X3_settle_65 : look a_X3_settle 65 = vDup 66 := rfl
theorem k_X3_settle_66 : look a_X3_settle 66 = vGetI 19 6 69 := rfl
theorem k_X3_settle_69 : look a_X3_settle 69 = vAload 0 70 := rfl
theorem k_X3_settle_70 : look a_X3_settle 70 = vGetR TT 19 3 8 73 := rfl
theorem k_X3_settle_73 : look a_X3_settle 73 = vAload 0 74 := rfl
theorem k_X3_settle_74 : look a_X3_settle 74 = vGetI 19 4 77 := rfl
theorem k_X3_settle_77 : look a_X3_settle 77 = vIald TT 78 := rfl
theorem k_X3_settle_78 : look a_X3_settle 78 = vI 33 80 := rfl
theorem k_X3_settle_80 : look a_X3_settle 80 = vIcNe 87 83 := rfl
theorem k_X3_settle_83 : look a_X3_settle 83 = vI 1 84 := rfl
theorem k_X3_settle_84 : look a_X3_settle 84 = vGoto 88 := rfl
theorem k_X3_settle_87 : look a_X3_settle 87 = vI 0 88 := rfl
theorem k_X3_settle_88 : look a_X3_settle 88 = vIsub 89 := rfl
theorem k_X3_settle_89 : look a_X3_settle 89 = vPutI 19 6 92 := rfl
theorem k_X3_settle_92 : look a_X3_settle 92 = vGoto 0 := rfl
theorem k_X3_settle_95 : look a_X3_settle 95 = vVret := rfl
theorem o_X3_settle {X : amX} (e1 : XT X = TT) (e2 : XD X = 1) (hB : amB X RX3 cX3_settle (none) 2) : ∀ pc, amOK X pc (look a_X3_settle pc) := by
  have hT : amTok (XT X) := e1 ▸ TT_ok
  refine look_ok ?_
  unfold a_X3_settle
  refine fc (ok_aload_n hB dX3_settle_0) ?_
  refine fc (ok_getI hB hT fl_X3_24 rfl rfl (Or.inl af_3_4) dX3_settle_1) ?_
  refine fc (ok_if_le hB (t := 95) (by decide) dX3_settle_4) ?_
  refine fc (ok_aload_n hB dX3_settle_7) ?_
  refine fc (ok_getI hB hT fl_X3_24 rfl rfl (Or.inl af_3_4) dX3_settle_8) ?_
  refine fc (ok_aload_n hB dX3_settle_11) ?_
  refine fc (okt_getR e1 hB hT fl_X3_21 rfl af_3_3 at_3_3 (by decide) dX3_settle_12) ?_
  refine fc (okt_arraylength e1 hB dX3_settle_15) ?_
  refine fc (ok_icmp_gt hB (t := 95) (by decide) dX3_settle_16) ?_
  refine fc (ok_aload_n hB dX3_settle_19) ?_
  refine fc (okt_getR e1 hB hT fl_X3_21 rfl af_3_3 at_3_3 (by decide) dX3_settle_20) ?_
  refine fc (ok_aload_n hB dX3_settle_23) ?_
  refine fc (ok_getI hB hT fl_X3_24 rfl rfl (Or.inl af_3_4) dX3_settle_24) ?_
  refine fc (ok_iconst hB dX3_settle_27) ?_
  refine fc (ok_isub hB dX3_settle_28) ?_
  refine fc (okt_iaload e1 hB dX3_settle_29) ?_
  refine fc (ok_callS hB (e1 ▸ s_X3_strength) lk_X3_136 (by rw [e2]; decide) wd_590 dX3_settle_30) ?_
  refine fc (ok_iload_n hB dX3_settle_33) ?_
  refine fc (ok_icmp_lt hB (t := 95) (by decide) dX3_settle_34) ?_
  refine fc (ok_aload_n hB dX3_settle_37) ?_
  refine fc (ok_dup hB dX3_settle_38) ?_
  refine fc (ok_getI hB hT fl_X3_24 rfl rfl (Or.inl af_3_4) dX3_settle_39) ?_
  refine fc (ok_iconst hB dX3_settle_42) ?_
  refine fc (ok_isub hB dX3_settle_43) ?_
  refine fc (ok_putI hB hT fp_X3_24 rfl rfl rfl af_3_4 dX3_settle_44) ?_
  refine fc (ok_aload_n hB dX3_settle_47) ?_
  refine fc (ok_sipush hB dX3_settle_48 (by decide)) ?_
  refine fc (ok_aload_n hB dX3_settle_51) ?_
  refine fc (okt_getR e1 hB hT fl_X3_21 rfl af_3_3 at_3_3 (by decide) dX3_settle_52) ?_
  refine fc (ok_aload_n hB dX3_settle_55) ?_
  refine fc (ok_getI hB hT fl_X3_24 rfl rfl (Or.inl af_3_4) dX3_settle_56) ?_
  refine fc (okt_iaload e1 hB dX3_settle_59) ?_
  refine fc (ok_iadd hB dX3_settle_60) ?_
  refine fc (ok_callMV hB hT (e1 ▸ s_X3_emit) lk_X3_107 (by rw [e2]; decide) (c := 3) rfl rfl rfl wd_594 sl_X3_emit dX3_settle_61) ?_
  refine fc (ok_aload_n hB dX3_settle_64) ?_
  refine fc (ok_dup hB dX3_settle_65) ?_
  refine fc (ok_getI hB hT fl_X3_30 rfl rfl (Or.inl af_3_6) dX3_settle_66) ?_
  refine fc (ok_aload_n hB dX3_settle_69) ?_
  refine fc (okt_getR e1 hB hT fl_X3_21 rfl af_3_3 at_3_3 (by decide) dX3_settle_70) ?_
  refine fc (ok_aload_n hB dX3_settle_73) ?_
  refine fc (ok_getI hB hT fl_X3_24 rfl rfl (Or.inl af_3_4) dX3_settle_74) ?_
  refine fc (okt_iaload e1 hB dX3_settle_77) ?_
  refine fc (ok_bipush hB dX3_settle_78 (by decide)) ?_
  refine fc (ok_icmp_ne hB (t := 87) (by decide) dX3_settle_80) ?_
  refine fc (ok_iconst hB dX3_settle_83) ?_
  refine fc (ok_goto hB (t := 88) (by decide) dX3_settle_84) ?_
  refine fc (ok_iconst hB dX3_settle_87) ?_
  refine fc (ok_isub hB dX3_settle_88) ?_
  refine fc (ok_putI hB hT fp_X3_30 rfl rfl rfl af_3_6 dX3_settle_89) ?_
  refine fc (ok_goto hB (t := 0) (by decide) dX3_settle_92) ?_
  refine fc (ok_vret hB dX3_settle_95) ?_
  exact fn
def inv_settle (m : Mem) (p l : Int) (C W : List Int) (sd wi br ro ska wa um : Int) (n pc : Nat) (ls st : List AV) (σ' : Mem) : Prop := pc = 0 ∧ st = [] ∧ ls = [(19, 9), (0, l)] ∧ ∃ (C' W' : List Int) (wi' : Int), n = W'.length ∧ RdP m σ' p C' W' sd wi' br ro ska wa um ∧ C'.length + W'.length ≤ 240 ∧ W'.length ≤ 64 ∧ -300 + (W'.length : Int) ≤ wi' ∧ wi' ≤ 300 ∧ C' ++ sC l W' = C ++ sC l W ∧ sW l W' = sW l W ∧ wi' - sN l W' = wi - sN l W
def w_X3_settle : WP := fun av σ Q => ∃ (l : Int), av = [(19, 9), (0, l)] ∧ (InR l ∧ ∃ (m : Mem) (p : Int) (C W : List Int) (sd wi br ro ska wa um : Int), RdP m σ p C W sd wi br ro ska wa um ∧ C.length + W.length ≤ 240 ∧ W.length ≤ 64 ∧ -100 ≤ wi ∧ wi ≤ 100 ∧ ∀ τ, RdP m τ p (C ++ sC l W) (sW l W) sd (wi - sN l W) br ro ska wa um → Q (6, 0) τ)
theorem w_X3_settle_e (l : Int) (σ : Mem) (Q : AV → Mem → Prop) : w_X3_settle [(19, 9), (0, l)] σ Q = (InR l ∧ ∃ (m : Mem) (p : Int) (C W : List Int) (sd wi br ro ska wa um : Int), RdP m σ p C W sd wi br ro ska wa um ∧ C.length + W.length ≤ 240 ∧ W.length ≤ 64 ∧ -100 ≤ wi ∧ wi ≤ 100 ∧ ∀ τ, RdP m τ p (C ++ sC l W) (sW l W) sd (wi - sN l W) br ro ska wa um → Q (6, 0) τ) := by
  apply propext; constructor
  · rintro ⟨l', h9, hb9⟩; cases h9; exact hb9
  · intro hb9; exact ⟨l, rfl, hb9⟩

set_option maxRecDepth 100000 in
set_option maxHeartbeats 4000000 in
theorem s_X3_settle : ∀ av σ Q, w_X3_settle av σ Q → amCall 1 0 0 TT yX3_settle cX3_settle 2 (none) av σ Q := by
  rintro av σ Q ⟨l, rfl, hl, m, p, C, W, sd, wi, br, ro, ska, wa, um, hL, hb1, hb2, hb3, hb4, h⟩
  refine am_m [0] (inv_settle m p l C W sd wi br ro ska wa um) (own := RX3) (A := look a_X3_settle) (fun X e1 e2 hB => o_X3_settle e1 e2 hB) rfl (by decide +kernel) rfl rfl ?_ ⟨1, ?_⟩ (w := 2)
  · rintro n pc ls st σ' ⟨rfl, rfl, rfl, C', W', wi', rfl, hL', g1, g2, g3, g4, g5, g6, g7⟩
    refine ⟨90, ?_⟩
    have e2 : σ' 9 2 = C'.length := hL'.2.1.1
    have e6 : σ' 9 6 = wi' := hL'.2.2.2.2.1
    cases W' with
    | nil =>
      have e4 : σ' 9 4 = 0 := hL'.2.2.1.1
      simp only [↓reduceIte, vSw2_e, swP_n, swP_c, vI_e, vL_e, vNull_e, vIload_e, vLload_e, vAload_e, vIstore_e, vLstore_e, vAstore_e, vIinc_e, vIadd_e, vIsub_e, vImul_e, vIand_e, vIor_e, vIxor_e, vIshl_e, vIshr_e, vIushr_e, vIdiv_e, vIrem_e, vLadd_e, vLsub_e, vLmul_e, vLand_e, vLor_e, vLxor_e, vLdiv_e, vLrem_e, vLushr_e, vLshl_e, vLcmp_e, vIneg_e, vI2l_e, vL2i_e, vI2b_e, vI2c_e, vDup_e, vPop_e, vDup2_e, vGoto_e, vIcEq_e, vIfEq_e, vIcNe_e, vIfNe_e, vIcLt_e, vIfLt_e, vIcGe_e, vIfGe_e, vIcGt_e, vIfGt_e, vIcLe_e, vIfLe_e, vNonnull_e, vSw_e, vGetI_e, vGetL_e, vGetR_e, vPutI_e, vPutZ_e, vPutL_e, vPutR_e, vIald_e, vIald_s, vLald_e, vBald_e, vBald_s, vAald_e, vIast_e, vLast_e, vBast_e, vAast_e, vAlen_e8, vAlen_e9, vAlen_e10, vAlen_e11, vAlen_e5, vAlen_e3, vGets_e, vCompact_e, vLdcS_e, vIret_e, vZret_e, vCret_e, vBret_e, vLret_e, vVret_e, vAret_e, vCallM_e0, vCallMV_e0, vCallS_e0, vCallSV_e0, vCallM_e1, vCallMV_e1, vCallS_e1, vCallSV_e1, vCallM_e2, vCallMV_e2, vCallS_e2, vCallSV_e2, vCallM_e3, vCallMV_e3, vCallS_e3, vCallSV_e3, vCallM_e4, vCallMV_e4, vCallS_e4, vCallSV_e4, vCallM_e5, vCallMV_e5, vCallS_e5, vCallSV_e5, vCallM_e6, vCallMV_e6, vCallS_e6, vCallSV_e6, vCallM_e7, vCallMV_e7, vCallS_e7, vCallSV_e7, vBad_e, vStrVal_e, vStrCod_e, vForm_e, vCallT_e0, vCallT_e1, vCallT_e2, vCopy_e, rf_0_0, rf_0_1, rf_0_2, rf_0_3, rf_0_4, rf_0_7, rf_0_10, rf_0_11, rf_0_12, rf_0_13, rf_0_14, rf_0_15, rf_0_16, rf_1_0, rf_3_0, rf_3_1, rf_6_0, rf_6_1, rf_9_0, rf_9_1, rf_9_3, rf_13_0, rf_13_1, rf_13_2, rf_16_0, rf_16_1, rf_16_2, rf_16_3, rf_21_0, rf_21_1, rf_21_2, rf_21_3, rf_26_0, rf_26_1, rf_26_2, rf_26_3, rf_26_4, rf_26_5, rf_26_6, rf_31_0, rf_31_2, rf_31_5, rf_31_6, rf_36_0, rf_36_1, rf_36_2, rf_36_3, rf_39_0, rf_39_1, rf_39_2, rf_41_0, rf_41_1, rf_41_2, rf_41_3, rf_5000_1, rf_5000_2, rf_5000_3, rf_5000_4, rf_5000_5, rf_5000_15, rf_5000_16, rf_5000_18, rf_5000_19, rf_5000_20, rf_5000_21, rf_5000_22, rf_5000_23, rf_5000_24, rf_5000_25, rf_5000_26, rf_5000_27, rf_5000_36, rf_5000_37, rf_5000_40, rf_5000_41, rf_5000_42, rf_5000_43, rf_5000_44, rf_5000_45, rf_5000_47, rf_5000_52, rf_5000_54, rf_5000_55, rf_100_0, rf_100_1, rf_103_0, rf_103_1, rf_106_0, rf_106_1, rf_109_0, rf_109_1, al_2, al_4, al_5, al_7, al_8, al_10, al_11, al_12, al_14, al_15, al_17, al_18, al_19, al_20, al_22, al_23, al_24, al_25, al_27, al_28, al_29, al_30, al_32, al_33, al_34, al_35, al_37, al_38, al_40, al_42, al_5001, al_5002, al_5003, al_5004, al_5005, al_5006, al_5007, al_5008, al_5009, al_5010, al_5011, al_5012, al_5013, al_5014, al_5015, al_5016, al_5017, al_5018, al_5019, al_5020, al_5021, al_5022, al_5023, al_5024, al_5025, al_5026, al_9000, al_101, al_102, al_104, al_105, al_107, al_108, al_110, al_111, vcs_e, lg_c0, lg_cs, lg_nil, set_c0, set_cs, okst_0, okst_s, acok_n, acok_c, List.contains_nil, List.contains_cons, Bool.or_false, Bool.false_or, Bool.false_eq_true, if_false, if_true, ite_self, ne_eq, true_and, and_true, not_false_eq_true, not_true_eq_false, false_imp_iff, true_imp_iff, Nat.ble_eq, Bool.and_eq_true, reduceCtorEq, or_false, false_or, or_true, true_or, false_and, and_false, and_self, Int.reduceLE, Int.reduceAdd, Int.reduceSub, Int.reduceMul, Int.reduceNeg, Int.reduceLT, Int.reduceEq, Int.reduceNe, Nat.reduceBEq, Nat.reduceBNe, Nat.reduceEqDiff, amCmp_in, amCmp_lt, amCmp_le, amCmp_gt, amCmp_ge, amCmp_eq, amCmp_ne, Nat.reduceLeDiff, Nat.reduceSub, Bool.and_true, Bool.true_and, Bool.and_self, Bool.or_true, Bool.true_or, isRf_3, isRf_4, isRf_5, isRf_8, isRf_9, isRf_10, isRf_11, isRf_15, isRf_16, isRf_17, isRf_18, isRf_19, isRf_20, isRf_21, isRf_22, isRf_23, isRf_24, isRf_25, isRf_26, isRf_27, isRf_28, k_X3_settle_0, k_X3_settle_1, k_X3_settle_4, k_X3_settle_7, k_X3_settle_8, k_X3_settle_11, k_X3_settle_12, k_X3_settle_15, k_X3_settle_16, k_X3_settle_19, k_X3_settle_20, k_X3_settle_23, k_X3_settle_24, k_X3_settle_27, k_X3_settle_28, k_X3_settle_29, k_X3_settle_30, k_X3_settle_33, k_X3_settle_34, k_X3_settle_37, k_X3_settle_38, k_X3_settle_39, k_X3_settle_42, k_X3_settle_43, k_X3_settle_44, k_X3_settle_47, k_X3_settle_48, k_X3_settle_51, k_X3_settle_52, k_X3_settle_55, k_X3_settle_56, k_X3_settle_59, k_X3_settle_60, k_X3_settle_61, k_X3_settle_64, k_X3_settle_65, k_X3_settle_66, k_X3_settle_69, k_X3_settle_70, k_X3_settle_73, k_X3_settle_74, k_X3_settle_77, k_X3_settle_78, k_X3_settle_80, k_X3_settle_83, k_X3_settle_84, k_X3_settle_87, k_X3_settle_88, k_X3_settle_89, k_X3_settle_92, k_X3_settle_95, w_X3_emit_e, w_X3_strength_e, up_s, up_nj, up_na, up_up, savR_o, cpy_o, fillm_o, setAud_o, setv_o, setv_s, Int.reduceNe, Int.reduceEq, Int.reduceLT, Int.reduceAdd, not_false_eq_true, ne_eq, or_true, true_or, e2, e4, e6]
      have hh := h σ' (by
        have a1 : C' = C ++ sC l W := by simpa [sC] using g5
        have a2 : [] = sW l W := g6
        have a3 : wi' = wi - sN l W := by have : wi' - 0 = wi - sN l W := g7; omega
        rw [← a1, ← a2, ← a3]; exact hL')
      repeat' (first | apply And.intro | intro _)
      all_goals first | omega | exact hh
    | cons a W' =>
      have e4 : σ' 9 4 = W'.length + 1 := by rw [hL'.2.2.1.1]; rfl
      have ha : σ' 11 W'.length = a := hL'.2.2.1.2.1.1
      have hab := hL'.2.2.1.2.2 a List.mem_cons_self
      have sb := stren_b a
      have l1 : (W'.length : Int) + 1 - 1 = W'.length := by omega
      rw [List.length_cons] at g1 g2 g3
      simp only [↓reduceIte, vSw2_e, swP_n, swP_c, vI_e, vL_e, vNull_e, vIload_e, vLload_e, vAload_e, vIstore_e, vLstore_e, vAstore_e, vIinc_e, vIadd_e, vIsub_e, vImul_e, vIand_e, vIor_e, vIxor_e, vIshl_e, vIshr_e, vIushr_e, vIdiv_e, vIrem_e, vLadd_e, vLsub_e, vLmul_e, vLand_e, vLor_e, vLxor_e, vLdiv_e, vLrem_e, vLushr_e, vLshl_e, vLcmp_e, vIneg_e, vI2l_e, vL2i_e, vI2b_e, vI2c_e, vDup_e, vPop_e, vDup2_e, vGoto_e, vIcEq_e, vIfEq_e, vIcNe_e, vIfNe_e, vIcLt_e, vIfLt_e, vIcGe_e, vIfGe_e, vIcGt_e, vIfGt_e, vIcLe_e, vIfLe_e, vNonnull_e, vSw_e, vGetI_e, vGetL_e, vGetR_e, vPutI_e, vPutZ_e, vPutL_e, vPutR_e, vIald_e, vIald_s, vLald_e, vBald_e, vBald_s, vAald_e, vIast_e, vLast_e, vBast_e, vAast_e, vAlen_e8, vAlen_e9, vAlen_e10, vAlen_e11, vAlen_e5, vAlen_e3, vGets_e, vCompact_e, vLdcS_e, vIret_e, vZret_e, vCret_e, vBret_e, vLret_e, vVret_e, vAret_e, vCallM_e0, vCallMV_e0, vCallS_e0, vCallSV_e0, vCallM_e1, vCallMV_e1, vCallS_e1, vCallSV_e1, vCallM_e2, vCallMV_e2, vCallS_e2, vCallSV_e2, vCallM_e3, vCallMV_e3, vCallS_e3, vCallSV_e3, vCallM_e4, vCallMV_e4, vCallS_e4, vCallSV_e4, vCallM_e5, vCallMV_e5, vCallS_e5, vCallSV_e5, vCallM_e6, vCallMV_e6, vCallS_e6, vCallSV_e6, vCallM_e7, vCallMV_e7, vCallS_e7, vCallSV_e7, vBad_e, vStrVal_e, vStrCod_e, vForm_e, vCallT_e0, vCallT_e1, vCallT_e2, vCopy_e, rf_0_0, rf_0_1, rf_0_2, rf_0_3, rf_0_4, rf_0_7, rf_0_10, rf_0_11, rf_0_12, rf_0_13, rf_0_14, rf_0_15, rf_0_16, rf_1_0, rf_3_0, rf_3_1, rf_6_0, rf_6_1, rf_9_0, rf_9_1, rf_9_3, rf_13_0, rf_13_1, rf_13_2, rf_16_0, rf_16_1, rf_16_2, rf_16_3, rf_21_0, rf_21_1, rf_21_2, rf_21_3, rf_26_0, rf_26_1, rf_26_2, rf_26_3, rf_26_4, rf_26_5, rf_26_6, rf_31_0, rf_31_2, rf_31_5, rf_31_6, rf_36_0, rf_36_1, rf_36_2, rf_36_3, rf_39_0, rf_39_1, rf_39_2, rf_41_0, rf_41_1, rf_41_2, rf_41_3, rf_5000_1, rf_5000_2, rf_5000_3, rf_5000_4, rf_5000_5, rf_5000_15, rf_5000_16, rf_5000_18, rf_5000_19, rf_5000_20, rf_5000_21, rf_5000_22, rf_5000_23, rf_5000_24, rf_5000_25, rf_5000_26, rf_5000_27, rf_5000_36, rf_5000_37, rf_5000_40, rf_5000_41, rf_5000_42, rf_5000_43, rf_5000_44, rf_5000_45, rf_5000_47, rf_5000_52, rf_5000_54, rf_5000_55, rf_100_0, rf_100_1, rf_103_0, rf_103_1, rf_106_0, rf_106_1, rf_109_0, rf_109_1, al_2, al_4, al_5, al_7, al_8, al_10, al_11, al_12, al_14, al_15, al_17, al_18, al_19, al_20, al_22, al_23, al_24, al_25, al_27, al_28, al_29, al_30, al_32, al_33, al_34, al_35, al_37, al_38, al_40, al_42, al_5001, al_5002, al_5003, al_5004, al_5005, al_5006, al_5007, al_5008, al_5009, al_5010, al_5011, al_5012, al_5013, al_5014, al_5015, al_5016, al_5017, al_5018, al_5019, al_5020, al_5021, al_5022, al_5023, al_5024, al_5025, al_5026, al_9000, al_101, al_102, al_104, al_105, al_107, al_108, al_110, al_111, vcs_e, lg_c0, lg_cs, lg_nil, set_c0, set_cs, okst_0, okst_s, acok_n, acok_c, List.contains_nil, List.contains_cons, Bool.or_false, Bool.false_or, Bool.false_eq_true, if_false, if_true, ite_self, ne_eq, true_and, and_true, not_false_eq_true, not_true_eq_false, false_imp_iff, true_imp_iff, Nat.ble_eq, Bool.and_eq_true, reduceCtorEq, or_false, false_or, or_true, true_or, false_and, and_false, and_self, Int.reduceLE, Int.reduceAdd, Int.reduceSub, Int.reduceMul, Int.reduceNeg, Int.reduceLT, Int.reduceEq, Int.reduceNe, Nat.reduceBEq, Nat.reduceBNe, Nat.reduceEqDiff, amCmp_in, amCmp_lt, amCmp_le, amCmp_gt, amCmp_ge, amCmp_eq, amCmp_ne, Nat.reduceLeDiff, Nat.reduceSub, Bool.and_true, Bool.true_and, Bool.and_self, Bool.or_true, Bool.true_or, isRf_3, isRf_4, isRf_5, isRf_8, isRf_9, isRf_10, isRf_11, isRf_15, isRf_16, isRf_17, isRf_18, isRf_19, isRf_20, isRf_21, isRf_22, isRf_23, isRf_24, isRf_25, isRf_26, isRf_27, isRf_28, k_X3_settle_0, k_X3_settle_1, k_X3_settle_4, k_X3_settle_7, k_X3_settle_8, k_X3_settle_11, k_X3_settle_12, k_X3_settle_15, k_X3_settle_16, k_X3_settle_19, k_X3_settle_20, k_X3_settle_23, k_X3_settle_24, k_X3_settle_27, k_X3_settle_28, k_X3_settle_29, k_X3_settle_30, k_X3_settle_33, k_X3_settle_34, k_X3_settle_37, k_X3_settle_38, k_X3_settle_39, k_X3_settle_42, k_X3_settle_43, k_X3_settle_44, k_X3_settle_47, k_X3_settle_48, k_X3_settle_51, k_X3_settle_52, k_X3_settle_55, k_X3_settle_56, k_X3_settle_59, k_X3_settle_60, k_X3_settle_61, k_X3_settle_64, k_X3_settle_65, k_X3_settle_66, k_X3_settle_69, k_X3_settle_70, k_X3_settle_73, k_X3_settle_74, k_X3_settle_77, k_X3_settle_78, k_X3_settle_80, k_X3_settle_83, k_X3_settle_84, k_X3_settle_87, k_X3_settle_88, k_X3_settle_89, k_X3_settle_92, k_X3_settle_95, w_X3_emit_e, w_X3_strength_e, up_s, up_nj, up_na, up_up, savR_o, cpy_o, fillm_o, setAud_o, setv_o, setv_s, Int.reduceNe, Int.reduceEq, Int.reduceLT, Int.reduceAdd, not_false_eq_true, ne_eq, or_true, true_or, e2, e4, e6, l1, ha]
      by_cases c : l ≤ stren a
      · have g5' : C' ++ [20000 + a] ++ sC l W' = C ++ sC l W := by rw [← g5, sC, if_pos c, List.append_assoc]; rfl
        have g6' : sW l W' = sW l W := by rw [← g6, sW, if_pos c]
        have g7' : wi' - ((if a = 33 then 1 else 0) + sN l W') = wi - sN l W := by rw [← g7, sN, if_pos c]
        have fin : ∀ b : Int, (b = 0 ∨ b = 1) → b = (if a = 33 then 1 else 0) → ∃ k, k < (a :: W').length ∧ inv_settle m p l C W sd wi br ro ska wa um k 0 [(19, 9), (0, l)] [] (up (up (up (up σ' 9 4 W'.length) 10 C'.length (20000 + a)) 9 2 (C'.length + 1)) 9 6 (wi' - b)) := fun b hb hb' => by
          refine ⟨W'.length, by rw [List.length_cons]; omega, rfl, rfl, rfl, C' ++ [20000 + a], W', wi' - b, rfl, RdP_6 (RdP_emit (RdP_pop hL') (20000 + a)) _, ?_, by omega, by omega, by omega, g5', g6', by omega⟩
          rw [List.length_append, List.length_cons, List.length_nil]; omega
        by_cases c3 : a = 33
        · subst c3
          have f1 := fin 1 (Or.inr rfl) rfl
          repeat' (first | apply And.intro | intro _)
          all_goals first | omega | exact f1
        · have f1 := fin 0 (Or.inl rfl) (by rw [if_neg c3])
          repeat' (first | apply And.intro | intro _)
          all_goals first | omega | exact f1
      · have hh := h σ' (by
          have a1 : C' = C ++ sC l W := by rw [← g5, sC, if_neg c, List.append_nil]
          have a2 : a :: W' = sW l W := by rw [← g6, sW, if_neg c]
          have a3 : wi' = wi - sN l W := by rw [sN, if_neg c] at g7; omega
          rw [← a1, ← a2, ← a3]; exact hL')
        repeat' (first | apply And.intro | intro _)
        all_goals first | omega | exact hh
  · change vcs _ _ _ _ 1 0 [(19, 9), (0, l)] [] σ
    simp only [↓reduceIte, vI_e, vL_e, vNull_e, vIload_e, vLload_e, vAload_e, vIstore_e, vLstore_e, vAstore_e, vIinc_e, vIadd_e, vIsub_e, vImul_e, vIand_e, vIor_e, vIxor_e, vIshl_e, vIshr_e, vIushr_e, vIdiv_e, vIrem_e, vLadd_e, vLsub_e, vLmul_e, vLand_e, vLor_e, vLxor_e, vLdiv_e, vLrem_e, vLushr_e, vLshl_e, vLcmp_e, vIneg_e, vI2l_e, vL2i_e, vI2b_e, vI2c_e, vDup_e, vPop_e, vDup2_e, vGoto_e, vIcEq_e, vIfEq_e, vIcNe_e, vIfNe_e, vIcLt_e, vIfLt_e, vIcGe_e, vIfGe_e, vIcGt_e, vIfGt_e, vIcLe_e, vIfLe_e, vNonnull_e, vSw_e, vGetI_e, vGetL_e, vGetR_e, vPutI_e, vPutZ_e, vPutL_e, vPutR_e, vIald_e, vIald_s, vLald_e, vBald_e, vBald_s, vAald_e, vIast_e, vLast_e, vBast_e, vAast_e, vAlen_e8, vAlen_e9, vAlen_e10, vAlen_e11, vAlen_e5, vAlen_e3, vGets_e, vCompact_e, vLdcS_e, vIret_e, vZret_e, vCret_e, vBret_e, vLret_e, vVret_e, vAret_e, vCallM_e0, vCallMV_e0, vCallS_e0, vCallSV_e0, vCallM_e1, vCallMV_e1, vCallS_e1, vCallSV_e1, vCallM_e2, vCallMV_e2, vCallS_e2, vCallSV_e2, vCallM_e3, vCallMV_e3, vCallS_e3, vCallSV_e3, vCallM_e4, vCallMV_e4, vCallS_e4, vCallSV_e4, vCallM_e5, vCallMV_e5, vCallS_e5, vCallSV_e5, vCallM_e6, vCallMV_e6, vCallS_e6, vCallSV_e6, vCallM_e7, vCallMV_e7, vCallS_e7, vCallSV_e7, vBad_e, vStrVal_e, vStrCod_e, vForm_e, vCallT_e0, vCallT_e1, vCallT_e2, vCopy_e, rf_0_0, rf_0_1, rf_0_2, rf_0_3, rf_0_4, rf_0_7, rf_0_10, rf_0_11, rf_0_12, rf_0_13, rf_0_14, rf_0_15, rf_0_16, rf_1_0, rf_3_0, rf_3_1, rf_6_0, rf_6_1, rf_9_0, rf_9_1, rf_9_3, rf_13_0, rf_13_1, rf_13_2, rf_16_0, rf_16_1, rf_16_2, rf_16_3, rf_21_0, rf_21_1, rf_21_2, rf_21_3, rf_26_0, rf_26_1, rf_26_2, rf_26_3, rf_26_4, rf_26_5, rf_26_6, rf_31_0, rf_31_2, rf_31_5, rf_31_6, rf_36_0, rf_36_1, rf_36_2, rf_36_3, rf_39_0, rf_39_1, rf_39_2, rf_41_0, rf_41_1, rf_41_2, rf_41_3, rf_5000_1, rf_5000_2, rf_5000_3, rf_5000_4, rf_5000_5, rf_5000_15, rf_5000_16, rf_5000_18, rf_5000_19, rf_5000_20, rf_5000_21, rf_5000_22, rf_5000_23, rf_5000_24, rf_5000_25, rf_5000_26, rf_5000_27, rf_5000_36, rf_5000_37, rf_5000_40, rf_5000_41, rf_5000_42, rf_5000_43, rf_5000_44, rf_5000_45, rf_5000_47, rf_5000_52, rf_5000_54, rf_5000_55, rf_100_0, rf_100_1, rf_103_0, rf_103_1, rf_106_0, rf_106_1, rf_109_0, rf_109_1, al_2, al_4, al_5, al_7, al_8, al_10, al_11, al_12, al_14, al_15, al_17, al_18, al_19, al_20, al_22, al_23, al_24, al_25, al_27, al_28, al_29, al_30, al_32, al_33, al_34, al_35, al_37, al_38, al_40, al_42, al_5001, al_5002, al_5003, al_5004, al_5005, al_5006, al_5007, al_5008, al_5009, al_5010, al_5011, al_5012, al_5013, al_5014, al_5015, al_5016, al_5017, al_5018, al_5019, al_5020, al_5021, al_5022, al_5023, al_5024, al_5025, al_5026, al_9000, al_101, al_102, al_104, al_105, al_107, al_108, al_110, al_111, vcs_e, lg_c0, lg_cs, lg_nil, set_c0, set_cs, okst_0, okst_s, acok_n, acok_c, List.contains_nil, List.contains_cons, Bool.or_false, Bool.false_or, Bool.false_eq_true, if_false, if_true, ite_self, ne_eq, true_and, and_true, not_false_eq_true, not_true_eq_false, false_imp_iff, true_imp_iff, Nat.ble_eq, Bool.and_eq_true, reduceCtorEq, or_false, false_or, or_true, true_or, false_and, and_false, and_self, Int.reduceLE, Int.reduceAdd, Int.reduceSub, Int.reduceMul, Int.reduceNeg, Int.reduceLT, Int.reduceEq, Int.reduceNe, Nat.reduceBEq, Nat.reduceBNe, Nat.reduceEqDiff, amCmp_in, amCmp_lt, amCmp_le, amCmp_gt, amCmp_ge, amCmp_eq, amCmp_ne, Nat.reduceLeDiff, Nat.reduceSub, Bool.and_true, Bool.true_and, Bool.and_self, Bool.or_true, Bool.true_or, isRf_3, isRf_4, isRf_5, isRf_8, isRf_9, isRf_10, isRf_11, isRf_15, isRf_16, isRf_17, isRf_18, isRf_19, isRf_20, isRf_21, isRf_22, isRf_23, isRf_24, isRf_25, isRf_26, isRf_27, isRf_28]
    exact ⟨W.length, rfl, rfl, rfl, C, W, wi, rfl, hL, hb1, hb2, by omega, by omega, rfl, rfl, rfl⟩
