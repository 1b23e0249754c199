/-! the reference: what is told, and how it is now (now: 5015) -/
abbrev th0 (σ : Mem) : Mem := up σ 5000 0 0

theorem fp_X12_111 : amFp RX12 12 0 111 RX12 TX12 57 tyX12 .int := ⟨fl_X12_111, tyX12_ok, nmX12, by decide +kernel⟩
theorem wd_1311 : Cond.fieldLink RX12 124 "ArmchairHouseModel" "length" "I" ∈ TBL := tb_tab (List.mem_of_getElem? (i := 1311) (by decide +kernel)) rfl
theorem fl_X12_124 : amFl RX12 12 6 124 RX12 TX12 57 := ⟨rfl, inT_12, by decide, wd_1311⟩
theorem fp_X12_124 : amFp RX12 12 6 124 RX12 TX12 57 tyX12 .int := ⟨fl_X12_124, tyX12_ok, nmX12, by decide +kernel⟩
def a_X12_end : AC := [(0, vAload 0 1), (1, vI 0 2), (2, vPutI 28 0 5), (5, vIload 1 6), (6, vIfLt 17 9), (9, vIload 1 10), (10, vAload 0 11), (11, vGetI 28 6 14), (14, vIcLe 19 17), (17, vI 0 18), (18, vZret), (19, vAload 0 20), (20, vIload 1 21), (21, vPutI 28 6 24), (24, vI 1 25), (25, vZret)]
theorem k_X12_end_0 : look a_X12_end 0 = vAload 0 1 := rfl
theorem k_X12_end_1 : look a_X12_end 1 = vI 0 2 := rfl
theorem k_X12_end_2 : look a_X12_end 2 = vPutI 28 0 5 := rfl
theorem k_X12_end_5 : look a_X12_end 5 = vIload 1 6 := rfl
theorem k_X12_end_6 : look a_X12_end 6 = vIfLt 17 9 := rfl
theorem k_X12_end_9 : look a_X12_end 9 = vIload 1 10 := rfl
theorem k_X12_end_10 : look a_X12_end 10 = vAload 0 11 := rfl
theorem k_X12_end_11 : look a_X12_end 11 = vGetI 28 6 14 := rfl
theorem k_X12_end_14 : look a_X12_end 14 = vIcLe 19 17 := rfl
theorem k_X12_end_17 : look a_X12_end 17 = vI 0 18 := rfl
theorem k_X12_end_18 : look a_X12_end 18 = vZret := rfl
theorem k_X12_end_19 : look a_X12_end 19 = vAload 0 20 := rfl
theorem k_X12_end_20 : look a_X12_end 20 = vIload 1 21 := rfl
theorem k_X12_end_21 : look a_X12_end 21 = vPutI 28 6 24 := rfl
theorem k_X12_end_24 : look a_X12_end 24 = vI 1 25 := rfl
theorem k_X12_end_25 : look a_X12_end 25 = vZret := rfl
theorem o_X12_end {X : amX} (e1 : XT X = TT) (e2 : XD X = 0) (hB : amB X RX12 cX12_end (some .boolean) 2) : ∀ pc, amOK X pc (look a_X12_end pc) := by
  have hT : amTok (XT X) := e1 ▸ TT_ok
  refine look_ok ?_
  unfold a_X12_end
  refine fc (ok_aload_n hB dX12_end_0) ?_
  refine fc (ok_iconst hB dX12_end_1) ?_
  refine fc (ok_putI hB hT fp_X12_111 rfl rfl rfl af_12_0 dX12_end_2) ?_
  refine fc (ok_iload_n hB dX12_end_5) ?_
  refine fc (ok_if_lt hB (t := 17) (by decide) dX12_end_6) ?_
  refine fc (ok_iload_n hB dX12_end_9) ?_
  refine fc (ok_aload_n hB dX12_end_10) ?_
  refine fc (ok_getI hB hT fl_X12_124 rfl rfl (Or.inl af_12_6) dX12_end_11) ?_
  refine fc (ok_icmp_le hB (t := 19) (by decide) dX12_end_14) ?_
  refine fc (ok_iconst hB dX12_end_17) ?_
  refine fc (ok_zret hB dX12_end_18) ?_
  refine fc (ok_aload_n hB dX12_end_19) ?_
  refine fc (ok_iload_n hB dX12_end_20) ?_
  refine fc (ok_putI hB hT fp_X12_124 rfl rfl rfl af_12_6 dX12_end_21) ?_
  refine fc (ok_iconst hB dX12_end_24) ?_
  refine fc (ok_zret hB dX12_end_25) ?_
  exact fn

def w_X12_end : WP := fun av σ Q => ∃ (n : Int), av = [(28, 5000), (0, n)] ∧ (InR n ∧ InR (σ 5000 6) ∧ (n < 0 ∨ σ 5000 6 < n → Q (0, 0) (th0 σ)) ∧ (0 ≤ n → n ≤ σ 5000 6 → Q (0, 1) (up (th0 σ) 5000 6 n)))
theorem w_X12_end_e (n : Int) (σ : Mem) (Q : AV → Mem → Prop) : w_X12_end [(28, 5000), (0, n)] σ Q = (InR n ∧ InR (σ 5000 6) ∧ (n < 0 ∨ σ 5000 6 < n → Q (0, 0) (th0 σ)) ∧ (0 ≤ n → n ≤ σ 5000 6 → Q (0, 1) (up (th0 σ) 5000 6 n))) := by
  apply propext; constructor
  · rintro ⟨n', h9, hb9⟩; cases h9; exact hb9
  · intro hb9; exact ⟨n, rfl, hb9⟩

set_option maxRecDepth 100000 in
set_option maxHeartbeats 4000000 in
theorem s_X12_end : ∀ av σ Q, w_X12_end av σ Q → amCall 0 0 0 TT yX12_end cX12_end 2 (some .boolean) av σ Q := by
  rintro av σ Q ⟨n, rfl, hn, hl, h1, h2⟩
  refine am_m0 (own := RX12) (A := look a_X12_end) (fun X e1 e2 hB => o_X12_end e1 e2 hB) rfl (by decide +kernel) rfl rfl 190 (w := 2) ?_
  change vcs _ _ _ _ 190 0 [(28, 5000), (0, n)] [] σ
  simp only [↓reduceIte, inR_0, inR_1, inR_m, vSw2_e, swP_n, swP_c, vI_e, vL_e, vNull_e, vIload_e, vLload_e, vAload_e, vIstore_e, vLstore_e, vAstore_e, vIinc_e, vIadd_e, vIsub_e, vImul_e, vIand_e, vIor_e, vIxor_e, vIshl_e, vIshr_e, vIushr_e, vIdiv_e, vIrem_e, vLadd_e, vLsub_e, vLmul_e, vLand_e, vLor_e, vLxor_e, vLdiv_e, vLrem_e, vLushr_e, vLshl_e, vLcmp_e, vIneg_e, vI2l_e, vL2i_e, vI2b_e, vI2c_e, vDup_e, vPop_e, vDup2_e, vGoto_e, vIcEq_e, vIfEq_e, vIcNe_e, vIfNe_e, vIcLt_e, vIfLt_e, vIcGe_e, vIfGe_e, vIcGt_e, vIfGt_e, vIcLe_e, vIfLe_e, vNonnull_e, vSw_e, vGetI_e, vGetL_e, vGetR_e, vPutI_e, vPutZ_e, vPutL_e, vPutR_e, vIald_e, vIald_s, vLald_e, vBald_e, vBald_s, vAald_e, vIast_e, vLast_e, vBast_e, vAast_e, vAlen_e8, vAlen_e9, vAlen_e10, vAlen_e11, vAlen_e5, vAlen_e3, vGets_e, vCompact_e, vLdcS_e, vIret_e, vZret_e, vCret_e, vBret_e, vLret_e, vVret_e, vAret_e, vCallM_e0, vCallMV_e0, vCallS_e0, vCallSV_e0, vCallM_e1, vCallMV_e1, vCallS_e1, vCallSV_e1, vCallM_e2, vCallMV_e2, vCallS_e2, vCallSV_e2, vCallM_e3, vCallMV_e3, vCallS_e3, vCallSV_e3, vCallM_e4, vCallMV_e4, vCallS_e4, vCallSV_e4, vCallM_e5, vCallMV_e5, vCallS_e5, vCallSV_e5, vCallM_e6, vCallMV_e6, vCallS_e6, vCallSV_e6, vCallM_e7, vCallMV_e7, vCallS_e7, vCallSV_e7, vBad_e, vStrVal_e, vStrCod_e, vForm_e, vCallT_e0, vCallT_e1, vCallT_e2, vCopy_e, rf_0_0, rf_0_1, rf_0_2, rf_0_3, rf_0_4, rf_0_7, rf_0_10, rf_0_11, rf_0_12, rf_0_13, rf_0_14, rf_0_15, rf_0_16, rf_1_0, rf_3_0, rf_3_1, rf_6_0, rf_6_1, rf_9_0, rf_9_1, rf_9_3, rf_13_0, rf_13_1, rf_13_2, rf_16_0, rf_16_1, rf_16_2, rf_16_3, rf_21_0, rf_21_1, rf_21_2, rf_21_3, rf_26_0, rf_26_1, rf_26_2, rf_26_3, rf_26_4, rf_26_5, rf_26_6, rf_31_0, rf_31_2, rf_31_5, rf_31_6, rf_36_0, rf_36_1, rf_36_2, rf_36_3, rf_39_0, rf_39_1, rf_39_2, rf_41_0, rf_41_1, rf_41_2, rf_41_3, rf_5000_1, rf_5000_2, rf_5000_3, rf_5000_4, rf_5000_5, rf_5000_15, rf_5000_16, rf_5000_18, rf_5000_19, rf_5000_20, rf_5000_21, rf_5000_22, rf_5000_23, rf_5000_24, rf_5000_25, rf_5000_26, rf_5000_27, rf_5000_36, rf_5000_37, rf_5000_40, rf_5000_41, rf_5000_42, rf_5000_43, rf_5000_44, rf_5000_45, rf_5000_47, rf_5000_52, rf_5000_54, rf_5000_55, rf_100_0, rf_100_1, rf_103_0, rf_103_1, rf_106_0, rf_106_1, rf_109_0, rf_109_1, al_2, al_4, al_5, al_7, al_8, al_10, al_11, al_12, al_14, al_15, al_17, al_18, al_19, al_20, al_22, al_23, al_24, al_25, al_27, al_28, al_29, al_30, al_32, al_33, al_34, al_35, al_37, al_38, al_40, al_42, al_5001, al_5002, al_5003, al_5004, al_5005, al_5006, al_5007, al_5008, al_5009, al_5010, al_5011, al_5012, al_5013, al_5014, al_5015, al_5016, al_5017, al_5018, al_5019, al_5020, al_5021, al_5022, al_5023, al_5024, al_5025, al_5026, al_9000, al_101, al_102, al_104, al_105, al_107, al_108, al_110, al_111, vcs_e, lg_c0, lg_cs, lg_nil, set_c0, set_cs, okst_0, okst_s, acok_n, acok_c, List.contains_nil, List.contains_cons, Bool.or_false, Bool.false_or, Bool.false_eq_true, if_false, if_true, ite_self, ne_eq, true_and, and_true, not_false_eq_true, not_true_eq_false, false_imp_iff, true_imp_iff, Nat.ble_eq, Bool.and_eq_true, reduceCtorEq, or_false, false_or, or_true, true_or, false_and, and_false, and_self, Int.reduceLE, Int.reduceAdd, Int.reduceSub, Int.reduceMul, Int.reduceNeg, Int.reduceLT, Int.reduceEq, Int.reduceNe, Nat.reduceBEq, Nat.reduceBNe, Nat.reduceEqDiff, amCmp_in, amCmp_lt, amCmp_le, amCmp_gt, amCmp_ge, amCmp_eq, amCmp_ne, Nat.reduceLeDiff, Nat.reduceSub, Bool.and_true, Bool.true_and, Bool.and_self, Bool.or_true, Bool.true_or, isRf_3, isRf_4, isRf_5, isRf_8, isRf_9, isRf_10, isRf_11, isRf_15, isRf_16, isRf_17, isRf_18, isRf_19, isRf_20, isRf_21, isRf_22, isRf_23, isRf_24, isRf_25, isRf_26, isRf_27, isRf_28, k_X12_end_0, k_X12_end_1, k_X12_end_2, k_X12_end_5, k_X12_end_6, k_X12_end_9, k_X12_end_10, k_X12_end_11, k_X12_end_14, k_X12_end_17, k_X12_end_18, k_X12_end_19, k_X12_end_20, k_X12_end_21, k_X12_end_24, k_X12_end_25, up_s, up_nj, up_na, up_up, savR_o, cpy_o, fillm_o, setAud_o, setv_o, setv_s, Int.reduceNe, Int.reduceEq, Int.reduceLT, Int.reduceAdd, not_false_eq_true, ne_eq, or_true, true_or]
  repeat' (first | assumption | apply And.intro | intro _)
  all_goals first | omega | exact absurd trivial (by assumption) | exact h1 (by omega) | exact h2 (by omega) (by omega)
theorem wd_1501 : Cond.methodLink RX12 232 yX12_isIn ∈ TBL := tb_tab (List.mem_of_getElem? (i := 1501) (by decide +kernel)) rfl
theorem wd_12 : Cond.initialized RX12 ∈ TBL := tb_tab (List.mem_of_getElem? (i := 12) (by decide +kernel)) rfl
theorem wd_1503 : Cond.code yX12_isIn cX12_isIn 6 (some .boolean) ∈ TBL := tb_tab (List.mem_of_getElem? (i := 1503) (by decide +kernel)) rfl
theorem lk_X12_232 : amLk RX12 232 yX12_isIn cX12_isIn 6 (some .boolean) 3 := ⟨wd_1501, wd_12, wd_1503, by decide +kernel, by decide +kernel, by decide⟩
theorem wd_1502 : Cond.static yX12_isIn ∈ TBL := tb_tab (List.mem_of_getElem? (i := 1502) (by decide +kernel)) rfl
theorem wd_1323 : Cond.fieldLink RX12 37 "ArmchairHouseModel" "rule" "[I" ∈ TBL := tb_tab (List.mem_of_getElem? (i := 1323) (by decide +kernel)) rfl
theorem fl_X12_37 : amFl RX12 12 18 37 RX12 TX12 57 := ⟨rfl, inT_12, by decide, wd_1323⟩
theorem wd_1341 : Cond.fieldLink RX12 67 "ArmchairHouseModel" "now" "[I" ∈ TBL := tb_tab (List.mem_of_getElem? (i := 1341) (by decide +kernel)) rfl
theorem fl_X12_67 : amFl RX12 12 36 67 RX12 TX12 57 := ⟨rfl, inT_12, by decide, wd_1341⟩
def a_X12_rule : AC := [(0, vAload 0 1), (1, vI 0 2), (2, vPutI 28 0 5), (5, vAload 0 6), (6, vGetI 28 29 9), (9, vIfEq 22 12), (12, vIload 1 13), (13, vI2l 14), (14, vL 0 15), (15, vL 1 16), (16, vCallS w_X12_isIn 3 19), (19, vIfNe 24 22), (22, vI (-1) 23), (23, vIret), (24, vIload 1 25), (25, vIfNe 37 28), (28, vAload 0 29), (29, vGetR TT 28 18 8 32), (32, vI 0 33), (33, vIald TT 34), (34, vGoto 44), (37, vAload 0 38), (38, vGetR TT 28 36 8 41), (41, vI 25 43), (43, vIald TT 44), (44, vIret)]
theorem k_X12_rule_0 : look a_X12_rule 0 = vAload 0 1 := rfl
theorem k_X12_rule_1 : look a_X12_rule 1 = vI 0 2 := rfl
theorem k_X12_rule_2 : look a_X12_rule 2 = vPutI 28 0 5 := rfl
theorem k_X12_rule_5 : look a_X12_rule 5 = vAload 0 6 := rfl
theorem k_X12_rule_6 : look a_X12_rule 6 = vGetI 28 29 9 := rfl
theorem k_X12_rule_9 : look a_X12_rule 9 = vIfEq 22 12 := rfl
theorem k_X12_rule_12 : look a_X12_rule 12 = vIload 1 13 := rfl
theorem k_X12_rule_13 : look a_X12_rule 13 = vI2l 14 := rfl
theorem k_X12_rule_14 : look a_X12_rule 14 = vL 0 15 := rfl
theorem k_X12_rule_15 : look a_X12_rule 15 = vL 1 16 := rfl
theorem k_X12_rule_16 : look a_X12_rule 16 = vCallS w_X12_isIn 3 19 := rfl
theorem k_X12_rule_19 : look a_X12_rule 19 = vIfNe 24 22 := rfl
theorem k_X12_rule_22 : look a_X12_rule 22 = vI (-1) 23 := rfl
theorem k_X12_rule_23 : look a_X12_rule 23 = vIret := rfl
theorem k_X12_rule_24 : look a_X12_rule 24 = vIload 1 25 := rfl
theorem k_X12_rule_25 : look a_X12_rule 25 = vIfNe 37 28 := rfl
theorem k_X12_rule_28 : look a_X12_rule 28 = vAload 0 29 := rfl
theorem k_X12_rule_29 : look a_X12_rule 29 = vGetR TT 28 18 8 32 := rfl
theorem k_X12_rule_32 : look a_X12_rule 32 = vI 0 33 := rfl
theorem k_X12_rule_33 : look a_X12_rule 33 = vIald TT 34 := rfl
theorem k_X12_rule_34 : look a_X12_rule 34 = vGoto 44 := rfl
theorem k_X12_rule_37 : look a_X12_rule 37 = vAload 0 38 := rfl
theorem k_X12_rule_38 : look a_X12_rule 38 = vGetR TT 28 36 8 41 := rfl
theorem k_X12_rule_41 : look a_X12_rule 41 = vI 25 43 := rfl
theorem k_X12_rule_43 : look a_X12_rule 43 = vIald TT 44 := rfl
theorem k_X12_rule_44 : look a_X12_rule 44 = vIret := rfl
theorem o_X12_rule {X : amX} (e1 : XT X = TT) (e2 : XD X = 1) (hB : amB X RX12 cX12_rule (some .int) 2) : ∀ pc, amOK X pc (look a_X12_rule pc) := by
  have hT : amTok (XT X) := e1 ▸ TT_ok
  refine look_ok ?_
  unfold a_X12_rule
  refine fc (ok_aload_n hB dX12_rule_0) ?_
  refine fc (ok_iconst hB dX12_rule_1) ?_
  refine fc (ok_putI hB hT fp_X12_111 rfl rfl rfl af_12_0 dX12_rule_2) ?_
  refine fc (ok_aload_n hB dX12_rule_5) ?_
  refine fc (ok_getI hB hT fl_X12_317 rfl rfl (Or.inl af_12_29) dX12_rule_6) ?_
  refine fc (ok_if_eq hB (t := 22) (by decide) dX12_rule_9) ?_
  refine fc (ok_iload_n hB dX12_rule_12) ?_
  refine fc (ok_i2l hB dX12_rule_13) ?_
  refine fc (ok_lconst hB (z := 0) (by decide) dX12_rule_14) ?_
  refine fc (ok_lconst hB (z := 1) (by decide) dX12_rule_15) ?_
  refine fc (ok_callS hB (e1 ▸ s_X12_isIn) lk_X12_232 (by rw [e2]; decide) wd_1502 dX12_rule_16) ?_
  refine fc (ok_if_ne hB (t := 24) (by decide) dX12_rule_19) ?_
  refine fc (ok_iconst hB dX12_rule_22) ?_
  refine fc (ok_iret hB dX12_rule_23) ?_
  refine fc (ok_iload_n hB dX12_rule_24) ?_
  refine fc (ok_if_ne hB (t := 37) (by decide) dX12_rule_25) ?_
  refine fc (ok_aload_n hB dX12_rule_28) ?_
  refine fc (okt_getR e1 hB hT fl_X12_37 rfl af_12_18 at_12_18 (by decide) dX12_rule_29) ?_
  refine fc (ok_iconst hB dX12_rule_32) ?_
  refine fc (okt_iaload e1 hB dX12_rule_33) ?_
  refine fc (ok_goto hB (t := 44) (by decide) dX12_rule_34) ?_
  refine fc (ok_aload_n hB dX12_rule_37) ?_
  refine fc (okt_getR e1 hB hT fl_X12_67 rfl af_12_36 at_12_36 (by decide) dX12_rule_38) ?_
  refine fc (ok_bipush hB dX12_rule_41 (by decide)) ?_
  refine fc (okt_iaload e1 hB dX12_rule_43) ?_
  refine fc (ok_iret hB dX12_rule_44) ?_
  exact fn

def w_X12_rule : WP := fun av σ Q => ∃ (w : Int), av = [(28, 5000), (0, w)] ∧ (InR w ∧ InR (σ 5000 29) ∧ (σ 5000 29 = 0 ∨ (w ≠ 0 ∧ w ≠ 1) → Q (0, -1) (th0 σ)) ∧ (σ 5000 29 ≠ 0 → w = 0 → Q (0, σ 5005 0) (th0 σ)) ∧ (σ 5000 29 ≠ 0 → w = 1 → Q (0, σ 5015 25) (th0 σ)))
theorem w_X12_rule_e (w : Int) (σ : Mem) (Q : AV → Mem → Prop) : w_X12_rule [(28, 5000), (0, w)] σ Q = (InR w ∧ InR (σ 5000 29) ∧ (σ 5000 29 = 0 ∨ (w ≠ 0 ∧ w ≠ 1) → Q (0, -1) (th0 σ)) ∧ (σ 5000 29 ≠ 0 → w = 0 → Q (0, σ 5005 0) (th0 σ)) ∧ (σ 5000 29 ≠ 0 → w = 1 → Q (0, σ 5015 25) (th0 σ))) := by
  apply propext; constructor
  · rintro ⟨w', h9, hb9⟩; cases h9; exact hb9
  · intro hb9; exact ⟨w, rfl, hb9⟩

set_option maxRecDepth 100000 in
set_option maxHeartbeats 4000000 in
theorem s_X12_rule : ∀ av σ Q, w_X12_rule av σ Q → amCall 1 0 0 TT yX12_rule cX12_rule 2 (some .int) av σ Q := by
  rintro av σ Q ⟨w, rfl, hw, hc, h1, h2, h3⟩
  refine am_m0 (own := RX12) (A := look a_X12_rule) (fun X e1 e2 hB => o_X12_rule e1 e2 hB) rfl (by decide +kernel) rfl rfl 190 (w := 2) ?_
  change vcs _ _ _ _ 190 0 [(28, 5000), (0, w)] [] σ
  simp only [↓reduceIte, inR_0, inR_1, inR_m, vSw2_e, swP_n, swP_c, vI_e, vL_e, vNull_e, vIload_e, vLload_e, vAload_e, vIstore_e, vLstore_e, vAstore_e, vIinc_e, vIadd_e, vIsub_e, vImul_e, vIand_e, vIor_e, vIxor_e, vIshl_e, vIshr_e, vIushr_e, vIdiv_e, vIrem_e, vLadd_e, vLsub_e, vLmul_e, vLand_e, vLor_e, vLxor_e, vLdiv_e, vLrem_e, vLushr_e, vLshl_e, vLcmp_e, vIneg_e, vI2l_e, vL2i_e, vI2b_e, vI2c_e, vDup_e, vPop_e, vDup2_e, vGoto_e, vIcEq_e, vIfEq_e, vIcNe_e, vIfNe_e, vIcLt_e, vIfLt_e, vIcGe_e, vIfGe_e, vIcGt_e, vIfGt_e, vIcLe_e, vIfLe_e, vNonnull_e, vSw_e, vGetI_e, vGetL_e, vGetR_e, vPutI_e, vPutZ_e, vPutL_e, vPutR_e, vIald_e, vIald_s, vLald_e, vBald_e, vBald_s, vAald_e, vIast_e, vLast_e, vBast_e, vAast_e, vAlen_e8, vAlen_e9, vAlen_e10, vAlen_e11, vAlen_e5, vAlen_e3, vGets_e, vCompact_e, vLdcS_e, vIret_e, vZret_e, vCret_e, vBret_e, vLret_e, vVret_e, vAret_e, vCallM_e0, vCallMV_e0, vCallS_e0, vCallSV_e0, vCallM_e1, vCallMV_e1, vCallS_e1, vCallSV_e1, vCallM_e2, vCallMV_e2, vCallS_e2, vCallSV_e2, vCallM_e3, vCallMV_e3, vCallS_e3, vCallSV_e3, vCallM_e4, vCallMV_e4, vCallS_e4, vCallSV_e4, vCallM_e5, vCallMV_e5, vCallS_e5, vCallSV_e5, vCallM_e6, vCallMV_e6, vCallS_e6, vCallSV_e6, vCallM_e7, vCallMV_e7, vCallS_e7, vCallSV_e7, vBad_e, vStrVal_e, vStrCod_e, vForm_e, vCallT_e0, vCallT_e1, vCallT_e2, vCopy_e, rf_0_0, rf_0_1, rf_0_2, rf_0_3, rf_0_4, rf_0_7, rf_0_10, rf_0_11, rf_0_12, rf_0_13, rf_0_14, rf_0_15, rf_0_16, rf_1_0, rf_3_0, rf_3_1, rf_6_0, rf_6_1, rf_9_0, rf_9_1, rf_9_3, rf_13_0, rf_13_1, rf_13_2, rf_16_0, rf_16_1, rf_16_2, rf_16_3, rf_21_0, rf_21_1, rf_21_2, rf_21_3, rf_26_0, rf_26_1, rf_26_2, rf_26_3, rf_26_4, rf_26_5, rf_26_6, rf_31_0, rf_31_2, rf_31_5, rf_31_6, rf_36_0, rf_36_1, rf_36_2, rf_36_3, rf_39_0, rf_39_1, rf_39_2, rf_41_0, rf_41_1, rf_41_2, rf_41_3, rf_5000_1, rf_5000_2, rf_5000_3, rf_5000_4, rf_5000_5, rf_5000_15, rf_5000_16, rf_5000_18, rf_5000_19, rf_5000_20, rf_5000_21, rf_5000_22, rf_5000_23, rf_5000_24, rf_5000_25, rf_5000_26, rf_5000_27, rf_5000_36, rf_5000_37, rf_5000_40, rf_5000_41, rf_5000_42, rf_5000_43, rf_5000_44, rf_5000_45, rf_5000_47, rf_5000_52, rf_5000_54, rf_5000_55, rf_100_0, rf_100_1, rf_103_0, rf_103_1, rf_106_0, rf_106_1, rf_109_0, rf_109_1, al_2, al_4, al_5, al_7, al_8, al_10, al_11, al_12, al_14, al_15, al_17, al_18, al_19, al_20, al_22, al_23, al_24, al_25, al_27, al_28, al_29, al_30, al_32, al_33, al_34, al_35, al_37, al_38, al_40, al_42, al_5001, al_5002, al_5003, al_5004, al_5005, al_5006, al_5007, al_5008, al_5009, al_5010, al_5011, al_5012, al_5013, al_5014, al_5015, al_5016, al_5017, al_5018, al_5019, al_5020, al_5021, al_5022, al_5023, al_5024, al_5025, al_5026, al_9000, al_101, al_102, al_104, al_105, al_107, al_108, al_110, al_111, vcs_e, lg_c0, lg_cs, lg_nil, set_c0, set_cs, okst_0, okst_s, acok_n, acok_c, List.contains_nil, List.contains_cons, Bool.or_false, Bool.false_or, Bool.false_eq_true, if_false, if_true, ite_self, ne_eq, true_and, and_true, not_false_eq_true, not_true_eq_false, false_imp_iff, true_imp_iff, Nat.ble_eq, Bool.and_eq_true, reduceCtorEq, or_false, false_or, or_true, true_or, false_and, and_false, and_self, Int.reduceLE, Int.reduceAdd, Int.reduceSub, Int.reduceMul, Int.reduceNeg, Int.reduceLT, Int.reduceEq, Int.reduceNe, Nat.reduceBEq, Nat.reduceBNe, Nat.reduceEqDiff, amCmp_in, amCmp_lt, amCmp_le, amCmp_gt, amCmp_ge, amCmp_eq, amCmp_ne, Nat.reduceLeDiff, Nat.reduceSub, Bool.and_true, Bool.true_and, Bool.and_self, Bool.or_true, Bool.true_or, isRf_3, isRf_4, isRf_5, isRf_8, isRf_9, isRf_10, isRf_11, isRf_15, isRf_16, isRf_17, isRf_18, isRf_19, isRf_20, isRf_21, isRf_22, isRf_23, isRf_24, isRf_25, isRf_26, isRf_27, isRf_28, k_X12_rule_0, k_X12_rule_1, k_X12_rule_2, k_X12_rule_5, k_X12_rule_6, k_X12_rule_9, k_X12_rule_12, k_X12_rule_13, k_X12_rule_14, k_X12_rule_15, k_X12_rule_16, k_X12_rule_19, k_X12_rule_22, k_X12_rule_23, k_X12_rule_24, k_X12_rule_25, k_X12_rule_28, k_X12_rule_29, k_X12_rule_32, k_X12_rule_33, k_X12_rule_34, k_X12_rule_37, k_X12_rule_38, k_X12_rule_41, k_X12_rule_43, k_X12_rule_44, w_X12_isIn_e, up_s, up_nj, up_na, up_up, savR_o, cpy_o, fillm_o, setAud_o, setv_o, setv_s, Int.reduceNe, Int.reduceEq, Int.reduceLT, Int.reduceAdd, not_false_eq_true, ne_eq, or_true, true_or]
  by_cases c : 0 ≤ w ∧ w ≤ 1
  · rw [if_pos c]
    repeat' (first | assumption | apply And.intro | intro _)
    all_goals first | omega | exact absurd trivial (by assumption) | exact h1 (by omega) | exact h2 (by omega) (by omega) | exact h3 (by omega) (by omega)
  · rw [if_neg c]
    repeat' (first | assumption | apply And.intro | intro _)
    all_goals first | omega | exact absurd trivial (by assumption) | exact h1 (by omega)
theorem wd_1679 : Cond.constantLong RX12 377 9 ∈ TBL := tb_tab (List.mem_of_getElem? (i := 1679) (by decide +kernel)) rfl
theorem wd_1344 : Cond.fieldLink RX12 77 "ArmchairHouseModel" "fluLevel" "I" ∈ TBL := tb_tab (List.mem_of_getElem? (i := 1344) (by decide +kernel)) rfl
theorem fl_X12_77 : amFl RX12 12 39 77 RX12 TX12 57 := ⟨rfl, inT_12, by decide, wd_1344⟩
theorem fp_X12_77 : amFp RX12 12 39 77 RX12 TX12 57 tyX12 .int := ⟨fl_X12_77, tyX12_ok, nmX12, by decide +kernel⟩
def a_X12_flu : AC := [(0, vAload 0 1), (1, vI 0 2), (2, vPutI 28 0 5), (5, vIload 1 6), (6, vI2l 7), (7, vL 0 8), (8, vL 9 11), (11, vCallS w_X12_isIn 3 14), (14, vIfEq 25 17), (17, vIload 1 18), (18, vAload 0 19), (19, vGetI 28 39 22), (22, vIcNe 27 25), (25, vI 0 26), (26, vZret), (27, vAload 0 28), (28, vIload 1 29), (29, vPutI 28 39 32), (32, vI 1 33), (33, vZret)]
theorem k_X12_flu_0 : look a_X12_flu 0 = vAload 0 1 := rfl
theorem k_X12_flu_1 : look a_X12_flu 1 = vI 0 2 := rfl
theorem k_X12_flu_2 : look a_X12_flu 2 = vPutI 28 0 5 := rfl
theorem k_X12_flu_5 : look a_X12_flu 5 = vIload 1 6 := rfl
theorem k_X12_flu_6 : look a_X12_flu 6 = vI2l 7 := rfl
theorem k_X12_flu_7 : look a_X12_flu 7 = vL 0 8 := rfl
theorem k_X12_flu_8 : look a_X12_flu 8 = vL 9 11 := rfl
theorem k_X12_flu_11 : look a_X12_flu 11 = vCallS w_X12_isIn 3 14 := rfl
theorem k_X12_flu_14 : look a_X12_flu 14 = vIfEq 25 17 := rfl
theorem k_X12_flu_17 : look a_X12_flu 17 = vIload 1 18 := rfl
theorem k_X12_flu_18 : look a_X12_flu 18 = vAload 0 19 := rfl
theorem k_X12_flu_19 : look a_X12_flu 19 = vGetI 28 39 22 := rfl
theorem k_X12_flu_22 : look a_X12_flu 22 = vIcNe 27 25 := rfl
theorem k_X12_flu_25 : look a_X12_flu 25 = vI 0 26 := rfl
theorem k_X12_flu_26 : look a_X12_flu 26 = vZret := rfl
theorem k_X12_flu_27 : look a_X12_flu 27 = vAload 0 28 := rfl
theorem k_X12_flu_28 : look a_X12_flu 28 = vIload 1 29 := rfl
theorem k_X12_flu_29 : look a_X12_flu 29 = vPutI 28 39 32 := rfl
theorem k_X12_flu_32 : look a_X12_flu 32 = vI 1 33 := rfl
theorem k_X12_flu_33 : look a_X12_flu 33 = vZret := rfl
theorem o_X12_flu {X : amX} (e1 : XT X = TT) (e2 : XD X = 1) (hB : amB X RX12 cX12_flu (some .boolean) 2) : ∀ pc, amOK X pc (look a_X12_flu pc) := by
  have hT : amTok (XT X) := e1 ▸ TT_ok
  refine look_ok ?_
  unfold a_X12_flu
  refine fc (ok_aload_n hB dX12_flu_0) ?_
  refine fc (ok_iconst hB dX12_flu_1) ?_
  refine fc (ok_putI hB hT fp_X12_111 rfl rfl rfl af_12_0 dX12_flu_2) ?_
  refine fc (ok_iload_n hB dX12_flu_5) ?_
  refine fc (ok_i2l hB dX12_flu_6) ?_
  refine fc (ok_lconst hB (z := 0) (by decide) dX12_flu_7) ?_
  refine fc (ok_ldc2 hB wd_1679 rfl dX12_flu_8) ?_
  refine fc (ok_callS hB (e1 ▸ s_X12_isIn) lk_X12_232 (by rw [e2]; decide) wd_1502 dX12_flu_11) ?_
  refine fc (ok_if_eq hB (t := 25) (by decide) dX12_flu_14) ?_
  refine fc (ok_iload_n hB dX12_flu_17) ?_
  refine fc (ok_aload_n hB dX12_flu_18) ?_
  refine fc (ok_getI hB hT fl_X12_77 rfl rfl (Or.inl af_12_39) dX12_flu_19) ?_
  refine fc (ok_icmp_ne hB (t := 27) (by decide) dX12_flu_22) ?_
  refine fc (ok_iconst hB dX12_flu_25) ?_
  refine fc (ok_zret hB dX12_flu_26) ?_
  refine fc (ok_aload_n hB dX12_flu_27) ?_
  refine fc (ok_iload_n hB dX12_flu_28) ?_
  refine fc (ok_putI hB hT fp_X12_77 rfl rfl rfl af_12_39 dX12_flu_29) ?_
  refine fc (ok_iconst hB dX12_flu_32) ?_
  refine fc (ok_zret hB dX12_flu_33) ?_
  exact fn

def w_X12_flu : WP := fun av σ Q => ∃ (v : Int), av = [(28, 5000), (0, v)] ∧ (InR v ∧ InR (σ 5000 39) ∧ (v < 0 ∨ 9 < v ∨ v = σ 5000 39 → Q (0, 0) (th0 σ)) ∧ (0 ≤ v → v ≤ 9 → v ≠ σ 5000 39 → Q (0, 1) (up (th0 σ) 5000 39 v)))
theorem w_X12_flu_e (v : Int) (σ : Mem) (Q : AV → Mem → Prop) : w_X12_flu [(28, 5000), (0, v)] σ Q = (InR v ∧ InR (σ 5000 39) ∧ (v < 0 ∨ 9 < v ∨ v = σ 5000 39 → Q (0, 0) (th0 σ)) ∧ (0 ≤ v → v ≤ 9 → v ≠ σ 5000 39 → Q (0, 1) (up (th0 σ) 5000 39 v))) := by
  apply propext; constructor
  · rintro ⟨v', h9, hb9⟩; cases h9; exact hb9
  · intro hb9; exact ⟨v, rfl, hb9⟩

set_option maxRecDepth 100000 in
set_option maxHeartbeats 4000000 in
theorem s_X12_flu : ∀ av σ Q, w_X12_flu av σ Q → amCall 1 0 0 TT yX12_flu cX12_flu 2 (some .boolean) av σ Q := by
  rintro av σ Q ⟨v, rfl, hv, hf, h1, h2⟩
  refine am_m0 (own := RX12) (A := look a_X12_flu) (fun X e1 e2 hB => o_X12_flu e1 e2 hB) rfl (by decide +kernel) rfl rfl 190 (w := 2) ?_
  change vcs _ _ _ _ 190 0 [(28, 5000), (0, v)] [] σ
  simp only [↓reduceIte, inR_0, inR_1, inR_m, vSw2_e, swP_n, swP_c, vI_e, vL_e, vNull_e, vIload_e, vLload_e, vAload_e, vIstore_e, vLstore_e, vAstore_e, vIinc_e, vIadd_e, vIsub_e, vImul_e, vIand_e, vIor_e, vIxor_e, vIshl_e, vIshr_e, vIushr_e, vIdiv_e, vIrem_e, vLadd_e, vLsub_e, vLmul_e, vLand_e, vLor_e, vLxor_e, vLdiv_e, vLrem_e, vLushr_e, vLshl_e, vLcmp_e, vIneg_e, vI2l_e, vL2i_e, vI2b_e, vI2c_e, vDup_e, vPop_e, vDup2_e, vGoto_e, vIcEq_e, vIfEq_e, vIcNe_e, vIfNe_e, vIcLt_e, vIfLt_e, vIcGe_e, vIfGe_e, vIcGt_e, vIfGt_e, vIcLe_e, vIfLe_e, vNonnull_e, vSw_e, vGetI_e, vGetL_e, vGetR_e, vPutI_e, vPutZ_e, vPutL_e, vPutR_e, vIald_e, vIald_s, vLald_e, vBald_e, vBald_s, vAald_e, vIast_e, vLast_e, vBast_e, vAast_e, vAlen_e8, vAlen_e9, vAlen_e10, vAlen_e11, vAlen_e5, vAlen_e3, vGets_e, vCompact_e, vLdcS_e, vIret_e, vZret_e, vCret_e, vBret_e, vLret_e, vVret_e, vAret_e, vCallM_e0, vCallMV_e0, vCallS_e0, vCallSV_e0, vCallM_e1, vCallMV_e1, vCallS_e1, vCallSV_e1, vCallM_e2, vCallMV_e2, vCallS_e2, vCallSV_e2, vCallM_e3, vCallMV_e3, vCallS_e3, vCallSV_e3, vCallM_e4, vCallMV_e4, vCallS_e4, vCallSV_e4, vCallM_e5, vCallMV_e5, vCallS_e5, vCallSV_e5, vCallM_e6, vCallMV_e6, vCallS_e6, vCallSV_e6, vCallM_e7, vCallMV_e7, vCallS_e7, vCallSV_e7, vBad_e, vStrVal_e, vStrCod_e, vForm_e, vCallT_e0, vCallT_e1, vCallT_e2, vCopy_e, rf_0_0, rf_0_1, rf_0_2, rf_0_3, rf_0_4, rf_0_7, rf_0_10, rf_0_11, rf_0_12, rf_0_13, rf_0_14, rf_0_15, rf_0_16, rf_1_0, rf_3_0, rf_3_1, rf_6_0, rf_6_1, rf_9_0, rf_9_1, rf_9_3, rf_13_0, rf_13_1, rf_13_2, rf_16_0, rf_16_1, rf_16_2, rf_16_3, rf_21_0, rf_21_1, rf_21_2, rf_21_3, rf_26_0, rf_26_1, rf_26_2, rf_26_3, rf_26_4, rf_26_5, rf_26_6, rf_31_0, rf_31_2, rf_31_5, rf_31_6, rf_36_0, rf_36_1, rf_36_2, rf_36_3, rf_39_0, rf_39_1, rf_39_2, rf_41_0, rf_41_1, rf_41_2, rf_41_3, rf_5000_1, rf_5000_2, rf_5000_3, rf_5000_4, rf_5000_5, rf_5000_15, rf_5000_16, rf_5000_18, rf_5000_19, rf_5000_20, rf_5000_21, rf_5000_22, rf_5000_23, rf_5000_24, rf_5000_25, rf_5000_26, rf_5000_27, rf_5000_36, rf_5000_37, rf_5000_40, rf_5000_41, rf_5000_42, rf_5000_43, rf_5000_44, rf_5000_45, rf_5000_47, rf_5000_52, rf_5000_54, rf_5000_55, rf_100_0, rf_100_1, rf_103_0, rf_103_1, rf_106_0, rf_106_1, rf_109_0, rf_109_1, al_2, al_4, al_5, al_7, al_8, al_10, al_11, al_12, al_14, al_15, al_17, al_18, al_19, al_20, al_22, al_23, al_24, al_25, al_27, al_28, al_29, al_30, al_32, al_33, al_34, al_35, al_37, al_38, al_40, al_42, al_5001, al_5002, al_5003, al_5004, al_5005, al_5006, al_5007, al_5008, al_5009, al_5010, al_5011, al_5012, al_5013, al_5014, al_5015, al_5016, al_5017, al_5018, al_5019, al_5020, al_5021, al_5022, al_5023, al_5024, al_5025, al_5026, al_9000, al_101, al_102, al_104, al_105, al_107, al_108, al_110, al_111, vcs_e, lg_c0, lg_cs, lg_nil, set_c0, set_cs, okst_0, okst_s, acok_n, acok_c, List.contains_nil, List.contains_cons, Bool.or_false, Bool.false_or, Bool.false_eq_true, if_false, if_true, ite_self, ne_eq, true_and, and_true, not_false_eq_true, not_true_eq_false, false_imp_iff, true_imp_iff, Nat.ble_eq, Bool.and_eq_true, reduceCtorEq, or_false, false_or, or_true, true_or, false_and, and_false, and_self, Int.reduceLE, Int.reduceAdd, Int.reduceSub, Int.reduceMul, Int.reduceNeg, Int.reduceLT, Int.reduceEq, Int.reduceNe, Nat.reduceBEq, Nat.reduceBNe, Nat.reduceEqDiff, amCmp_in, amCmp_lt, amCmp_le, amCmp_gt, amCmp_ge, amCmp_eq, amCmp_ne, Nat.reduceLeDiff, Nat.reduceSub, Bool.and_true, Bool.true_and, Bool.and_self, Bool.or_true, Bool.true_or, isRf_3, isRf_4, isRf_5, isRf_8, isRf_9, isRf_10, isRf_11, isRf_15, isRf_16, isRf_17, isRf_18, isRf_19, isRf_20, isRf_21, isRf_22, isRf_23, isRf_24, isRf_25, isRf_26, isRf_27, isRf_28, k_X12_flu_0, k_X12_flu_1, k_X12_flu_2, k_X12_flu_5, k_X12_flu_6, k_X12_flu_7, k_X12_flu_8, k_X12_flu_11, k_X12_flu_14, k_X12_flu_17, k_X12_flu_18, k_X12_flu_19, k_X12_flu_22, k_X12_flu_25, k_X12_flu_26, k_X12_flu_27, k_X12_flu_28, k_X12_flu_29, k_X12_flu_32, k_X12_flu_33, w_X12_isIn_e, up_s, up_nj, up_na, up_up, savR_o, cpy_o, fillm_o, setAud_o, setv_o, setv_s, Int.reduceNe, Int.reduceEq, Int.reduceLT, Int.reduceAdd, not_false_eq_true, ne_eq, or_true, true_or]
  by_cases c : 0 ≤ v ∧ v ≤ 9
  · rw [if_pos c]
    repeat' (first | assumption | apply And.intro | intro _)
    all_goals first | omega | exact absurd trivial (by assumption) | exact h1 (by omega) | exact h2 (by omega) (by omega) (by omega)
  · rw [if_neg c]
    repeat' (first | assumption | apply And.intro | intro _)
    all_goals first | omega | exact absurd trivial (by assumption) | exact h1 (by omega)
theorem wd_1650 : Cond.methodLink RX12 366 yX12_isPlay ∈ TBL := tb_tab (List.mem_of_getElem? (i := 1650) (by decide +kernel)) rfl
theorem wd_1653 : Cond.code yX12_isPlay cX12_isPlay 2 (some .boolean) ∈ TBL := tb_tab (List.mem_of_getElem? (i := 1653) (by decide +kernel)) rfl
theorem lk_X12_366 : amLk RX12 366 yX12_isPlay cX12_isPlay 2 (some .boolean) 1 := ⟨wd_1650, wd_12, wd_1653, by decide +kernel, by decide +kernel, by decide⟩
theorem wd_1652 : Cond.instanceMethod yX12_isPlay ∈ TBL := tb_tab (List.mem_of_getElem? (i := 1652) (by decide +kernel)) rfl
theorem sl_X12_isPlay : Cond.selects RX12 yX12_isPlay yX12_isPlay ∈ TBL := tb_sel (List.mem_of_getElem? (i := 72) (by decide +kernel)) rfl
theorem wd_1654 : Cond.constantLong RX12 369 3 ∈ TBL := tb_tab (List.mem_of_getElem? (i := 1654) (by decide +kernel)) rfl
def a_X12_drama : AC := [(0, vAload 0 1), (1, vI 0 2), (2, vPutI 28 0 5), (5, vAload 0 6), (6, vIload 1 7), (7, vCallM w_X12_isPlay 28 1 10), (10, vIfEq 38 13), (13, vIload 2 14), (14, vI2l 15), (15, vL 0 16), (16, vL 3 19), (19, vCallS w_X12_isIn 3 22), (22, vIfEq 38 25), (25, vAload 0 26), (26, vGetR TT 28 20 8 29), (29, vI 4 30), (30, vIload 1 31), (31, vImul 32), (32, vIload 2 33), (33, vIadd 34), (34, vIald TT 35), (35, vGoto 39), (38, vI (-1) 39), (39, vIret)]
theorem k_X12_drama_0 : look a_X12_drama 0 = vAload 0 1 := rfl
theorem k_X12_drama_1 : look a_X12_drama 1 = vI 0 2 := rfl
theorem k_X12_drama_2 : look a_X12_drama 2 = vPutI 28 0 5 := rfl
theorem k_X12_drama_5 : look a_X12_drama 5 = vAload 0 6 := rfl
theorem k_X12_drama_6 : look a_X12_drama 6 = vIload 1 7 := rfl
theorem k_X12_drama_7 : look a_X12_drama 7 = vCallM w_X12_isPlay 28 1 10 := rfl
theorem k_X12_drama_10 : look a_X12_drama 10 = vIfEq 38 13 := rfl
theorem k_X12_drama_13 : look a_X12_drama 13 = vIload 2 14 := rfl
theorem k_X12_drama_14 : look a_X12_drama 14 = vI2l 15 := rfl
theorem k_X12_drama_15 : look a_X12_drama 15 = vL 0 16 := rfl
theorem k_X12_drama_16 : look a_X12_drama 16 = vL 3 19 := rfl
theorem k_X12_drama_19 : look a_X12_drama 19 = vCallS w_X12_isIn 3 22 := rfl
theorem k_X12_drama_22 : look a_X12_drama 22 = vIfEq 38 25 := rfl
theorem k_X12_drama_25 : look a_X12_drama 25 = vAload 0 26 := rfl
theorem k_X12_drama_26 : look a_X12_drama 26 = vGetR TT 28 20 8 29 := rfl
theorem k_X12_drama_29 : look a_X12_drama 29 = vI 4 30 := rfl
theorem k_X12_drama_30 : look a_X12_drama 30 = vIload 1 31 := rfl
theorem k_X12_drama_31 : look a_X12_drama 31 = vImul 32 := rfl
theorem k_X12_drama_32 : look a_X12_drama 32 = vIload 2 33 := rfl
theorem k_X12_drama_33 : look a_X12_drama 33 = vIadd 34 := rfl
theorem k_X12_drama_34 : look a_X12_drama 34 = vIald TT 35 := rfl
theorem k_X12_drama_35 : look a_X12_drama 35 = vGoto 39 := rfl
theorem k_X12_drama_38 : look a_X12_drama 38 = vI (-1) 39 := rfl
theorem k_X12_drama_39 : look a_X12_drama 39 = vIret := rfl
theorem o_X12_drama {X : amX} (e1 : XT X = TT) (e2 : XD X = 1) (hB : amB X RX12 cX12_drama (some .int) 3) : ∀ pc, amOK X pc (look a_X12_drama pc) := by
  have hT : amTok (XT X) := e1 ▸ TT_ok
  refine look_ok ?_
  unfold a_X12_drama
  refine fc (ok_aload_n hB dX12_drama_0) ?_
  refine fc (ok_iconst hB dX12_drama_1) ?_
  refine fc (ok_putI hB hT fp_X12_111 rfl rfl rfl af_12_0 dX12_drama_2) ?_
  refine fc (ok_aload_n hB dX12_drama_5) ?_
  refine fc (ok_iload_n hB dX12_drama_6) ?_
  refine fc (ok_callM hB hT (e1 ▸ s_X12_isPlay) lk_X12_366 (by rw [e2]; decide) (c := 12) rfl rfl rfl wd_1652 sl_X12_isPlay dX12_drama_7) ?_
  refine fc (ok_if_eq hB (t := 38) (by decide) dX12_drama_10) ?_
  refine fc (ok_iload_n hB dX12_drama_13) ?_
  refine fc (ok_i2l hB dX12_drama_14) ?_
  refine fc (ok_lconst hB (z := 0) (by decide) dX12_drama_15) ?_
  refine fc (ok_ldc2 hB wd_1654 rfl dX12_drama_16) ?_
  refine fc (ok_callS hB (e1 ▸ s_X12_isIn) lk_X12_232 (by rw [e2]; decide) wd_1502 dX12_drama_19) ?_
  refine fc (ok_if_eq hB (t := 38) (by decide) dX12_drama_22) ?_
  refine fc (ok_aload_n hB dX12_drama_25) ?_
  refine fc (okt_getR e1 hB hT fl_X12_43 rfl af_12_20 at_12_20 (by decide) dX12_drama_26) ?_
  refine fc (ok_iconst hB dX12_drama_29) ?_
  refine fc (ok_iload_n hB dX12_drama_30) ?_
  refine fc (ok_imul hB dX12_drama_31) ?_
  refine fc (ok_iload_n hB dX12_drama_32) ?_
  refine fc (ok_iadd hB dX12_drama_33) ?_
  refine fc (okt_iaload e1 hB dX12_drama_34) ?_
  refine fc (ok_goto hB (t := 39) (by decide) dX12_drama_35) ?_
  refine fc (ok_iconst hB dX12_drama_38) ?_
  refine fc (ok_iret hB dX12_drama_39) ?_
  exact fn

def w_X12_drama : WP := fun av σ Q => ∃ (p : Int) (w : Int), av = [(28, 5000), (0, p), (0, w)] ∧ (InR p ∧ InR w ∧ 0 ≤ σ 5000 28 ∧ σ 5000 28 ≤ 4 ∧ (¬ (0 ≤ p ∧ p < σ 5000 28 ∧ 0 ≤ w ∧ w ≤ 3) → Q (0, -1) (th0 σ)) ∧ (0 ≤ p ∧ p < σ 5000 28 ∧ 0 ≤ w ∧ w ≤ 3 → Q (0, σ 5007 (4 * p + w)) (th0 σ)))
theorem w_X12_drama_e (p : Int) (w : Int) (σ : Mem) (Q : AV → Mem → Prop) : w_X12_drama [(28, 5000), (0, p), (0, w)] σ Q = (InR p ∧ InR w ∧ 0 ≤ σ 5000 28 ∧ σ 5000 28 ≤ 4 ∧ (¬ (0 ≤ p ∧ p < σ 5000 28 ∧ 0 ≤ w ∧ w ≤ 3) → Q (0, -1) (th0 σ)) ∧ (0 ≤ p ∧ p < σ 5000 28 ∧ 0 ≤ w ∧ w ≤ 3 → Q (0, σ 5007 (4 * p + w)) (th0 σ))) := by
  apply propext; constructor
  · rintro ⟨p', w', h9, hb9⟩; cases h9; exact hb9
  · intro hb9; exact ⟨p, w, rfl, hb9⟩

set_option maxRecDepth 100000 in
set_option maxHeartbeats 4000000 in
theorem s_X12_drama : ∀ av σ Q, w_X12_drama av σ Q → amCall 1 0 0 TT yX12_drama cX12_drama 3 (some .int) av σ Q := by
  rintro av σ Q ⟨p, w, rfl, hp, hw, c0, c1, h1, h2⟩
  refine am_m0 (own := RX12) (A := look a_X12_drama) (fun X e1 e2 hB => o_X12_drama e1 e2 hB) rfl (by decide +kernel) rfl rfl 190 (w := 3) ?_
  change vcs _ _ _ _ 190 0 [(28, 5000), (0, p), (0, w)] [] σ
  simp only [↓reduceIte, inR_0, inR_1, inR_m, vSw2_e, swP_n, swP_c, vI_e, vL_e, vNull_e, vIload_e, vLload_e, vAload_e, vIstore_e, vLstore_e, vAstore_e, vIinc_e, vIadd_e, vIsub_e, vImul_e, vIand_e, vIor_e, vIxor_e, vIshl_e, vIshr_e, vIushr_e, vIdiv_e, vIrem_e, vLadd_e, vLsub_e, vLmul_e, vLand_e, vLor_e, vLxor_e, vLdiv_e, vLrem_e, vLushr_e, vLshl_e, vLcmp_e, vIneg_e, vI2l_e, vL2i_e, vI2b_e, vI2c_e, vDup_e, vPop_e, vDup2_e, vGoto_e, vIcEq_e, vIfEq_e, vIcNe_e, vIfNe_e, vIcLt_e, vIfLt_e, vIcGe_e, vIfGe_e, vIcGt_e, vIfGt_e, vIcLe_e, vIfLe_e, vNonnull_e, vSw_e, vGetI_e, vGetL_e, vGetR_e, vPutI_e, vPutZ_e, vPutL_e, vPutR_e, vIald_e, vIald_s, vLald_e, vBald_e, vBald_s, vAald_e, vIast_e, vLast_e, vBast_e, vAast_e, vAlen_e8, vAlen_e9, vAlen_e10, vAlen_e11, vAlen_e5, vAlen_e3, vGets_e, vCompact_e, vLdcS_e, vIret_e, vZret_e, vCret_e, vBret_e, vLret_e, vVret_e, vAret_e, vCallM_e0, vCallMV_e0, vCallS_e0, vCallSV_e0, vCallM_e1, vCallMV_e1, vCallS_e1, vCallSV_e1, vCallM_e2, vCallMV_e2, vCallS_e2, vCallSV_e2, vCallM_e3, vCallMV_e3, vCallS_e3, vCallSV_e3, vCallM_e4, vCallMV_e4, vCallS_e4, vCallSV_e4, vCallM_e5, vCallMV_e5, vCallS_e5, vCallSV_e5, vCallM_e6, vCallMV_e6, vCallS_e6, vCallSV_e6, vCallM_e7, vCallMV_e7, vCallS_e7, vCallSV_e7, vBad_e, vStrVal_e, vStrCod_e, vForm_e, vCallT_e0, vCallT_e1, vCallT_e2, vCopy_e, rf_0_0, rf_0_1, rf_0_2, rf_0_3, rf_0_4, rf_0_7, rf_0_10, rf_0_11, rf_0_12, rf_0_13, rf_0_14, rf_0_15, rf_0_16, rf_1_0, rf_3_0, rf_3_1, rf_6_0, rf_6_1, rf_9_0, rf_9_1, rf_9_3, rf_13_0, rf_13_1, rf_13_2, rf_16_0, rf_16_1, rf_16_2, rf_16_3, rf_21_0, rf_21_1, rf_21_2, rf_21_3, rf_26_0, rf_26_1, rf_26_2, rf_26_3, rf_26_4, rf_26_5, rf_26_6, rf_31_0, rf_31_2, rf_31_5, rf_31_6, rf_36_0, rf_36_1, rf_36_2, rf_36_3, rf_39_0, rf_39_1, rf_39_2, rf_41_0, rf_41_1, rf_41_2, rf_41_3, rf_5000_1, rf_5000_2, rf_5000_3, rf_5000_4, rf_5000_5, rf_5000_15, rf_5000_16, rf_5000_18, rf_5000_19, rf_5000_20, rf_5000_21, rf_5000_22, rf_5000_23, rf_5000_24, rf_5000_25, rf_5000_26, rf_5000_27, rf_5000_36, rf_5000_37, rf_5000_40, rf_5000_41, rf_5000_42, rf_5000_43, rf_5000_44, rf_5000_45, rf_5000_47, rf_5000_52, rf_5000_54, rf_5000_55, rf_100_0, rf_100_1, rf_103_0, rf_103_1, rf_106_0, rf_106_1, rf_109_0, rf_109_1, al_2, al_4, al_5, al_7, al_8, al_10, al_11, al_12, al_14, al_15, al_17, al_18, al_19, al_20, al_22, al_23, al_24, al_25, al_27, al_28, al_29, al_30, al_32, al_33, al_34, al_35, al_37, al_38, al_40, al_42, al_5001, al_5002, al_5003, al_5004, al_5005, al_5006, al_5007, al_5008, al_5009, al_5010, al_5011, al_5012, al_5013, al_5014, al_5015, al_5016, al_5017, al_5018, al_5019, al_5020, al_5021, al_5022, al_5023, al_5024, al_5025, al_5026, al_9000, al_101, al_102, al_104, al_105, al_107, al_108, al_110, al_111, vcs_e, lg_c0, lg_cs, lg_nil, set_c0, set_cs, okst_0, okst_s, acok_n, acok_c, List.contains_nil, List.contains_cons, Bool.or_false, Bool.false_or, Bool.false_eq_true, if_false, if_true, ite_self, ne_eq, true_and, and_true, not_false_eq_true, not_true_eq_false, false_imp_iff, true_imp_iff, Nat.ble_eq, Bool.and_eq_true, reduceCtorEq, or_false, false_or, or_true, true_or, false_and, and_false, and_self, Int.reduceLE, Int.reduceAdd, Int.reduceSub, Int.reduceMul, Int.reduceNeg, Int.reduceLT, Int.reduceEq, Int.reduceNe, Nat.reduceBEq, Nat.reduceBNe, Nat.reduceEqDiff, amCmp_in, amCmp_lt, amCmp_le, amCmp_gt, amCmp_ge, amCmp_eq, amCmp_ne, Nat.reduceLeDiff, Nat.reduceSub, Bool.and_true, Bool.true_and, Bool.and_self, Bool.or_true, Bool.true_or, isRf_3, isRf_4, isRf_5, isRf_8, isRf_9, isRf_10, isRf_11, isRf_15, isRf_16, isRf_17, isRf_18, isRf_19, isRf_20, isRf_21, isRf_22, isRf_23, isRf_24, isRf_25, isRf_26, isRf_27, isRf_28, k_X12_drama_0, k_X12_drama_1, k_X12_drama_2, k_X12_drama_5, k_X12_drama_6, k_X12_drama_7, k_X12_drama_10, k_X12_drama_13, k_X12_drama_14, k_X12_drama_15, k_X12_drama_16, k_X12_drama_19, k_X12_drama_22, k_X12_drama_25, k_X12_drama_26, k_X12_drama_29, k_X12_drama_30, k_X12_drama_31, k_X12_drama_32, k_X12_drama_33, k_X12_drama_34, k_X12_drama_35, k_X12_drama_38, k_X12_drama_39, w_X12_isIn_e, w_X12_isPlay_e, up_s, up_nj, up_na, up_up, savR_o, cpy_o, fillm_o, setAud_o, setv_o, setv_s, Int.reduceNe, Int.reduceEq, Int.reduceLT, Int.reduceAdd, not_false_eq_true, ne_eq, or_true, true_or]
  by_cases c : 0 ≤ p ∧ p < σ 5000 28
  · rw [if_pos c]
    by_cases d : 0 ≤ w ∧ w ≤ 3
    · rw [if_pos d]
      repeat' (first | assumption | apply And.intro | intro _)
      all_goals first | omega | exact absurd trivial (by assumption) | exact h2 (by omega)
    · rw [if_neg d]
      repeat' (first | assumption | apply And.intro | intro _)
      all_goals first | omega | exact absurd trivial (by assumption) | exact h1 (by omega)
  · rw [if_neg c]
    repeat' (first | assumption | apply And.intro | intro _)
    all_goals first | omega | exact absurd trivial (by assumption) | exact h1 (by omega)
