/-! the reference reads SEASONS: season 5013 (the one read: from 192 on), seasonLong 5014 (4) -/
theorem u10_rd (σ : Mem) (v : Int) : up σ 5000 10 v = rdM σ v (σ 5000 11) (σ 5000 12) := by
  have := rd_u10 σ (σ 5000 10) (σ 5000 11) (σ 5000 12) v
  rw [rd_id] at this; exact this
theorem mtx_u10 {σ : Mem} (h : txOk σ) (v : Int) : mtx (up σ 5000 10 v) = mtx σ := by rw [u10_rd, mtx_rd h]
theorem txOk_u10 {σ : Mem} (h : txOk σ) (v : Int) : txOk (up σ 5000 10 v) := by rw [u10_rd]; exact txOk_rd h _ _ _

def a_X12_digit : AC := [(0, vAload 0 1), (1, vCallM w_X12_look 28 0 4), (4, vIstore 1 5), (5, vAload 0 6), (6, vCallM w_X12_isDigit 28 0 9), (9, vIfNe 19 12), (12, vAload 0 13), (13, vCallM w_X12_fails 28 0 16), (16, vPop 17), (17, vI 0 18), (18, vIret), (19, vAload 0 20), (20, vDup 21), (21, vGetI 28 10 24), (24, vI 1 25), (25, vIadd 26), (26, vPutI 28 10 29), (29, vIload 1 30), (30, vI 48 32), (32, vIsub 33), (33, vIret)]
theorem k_X12_digit_0 : look a_X12_digit 0 = vAload 0 1 := rfl
theorem k_X12_digit_1 : look a_X12_digit 1 = vCallM w_X12_look 28 0 4 := rfl
theorem k_X12_digit_4 : look a_X12_digit 4 = vIstore 1 5 := rfl
theorem k_X12_digit_5 : look a_X12_digit 5 = vAload 0 6 := rfl
theorem k_X12_digit_6 : look a_X12_digit 6 = vCallM w_X12_isDigit 28 0 9 := rfl
theorem k_X12_digit_9 : look a_X12_digit 9 = vIfNe 19 12 := rfl
theorem k_X12_digit_12 : look a_X12_digit 12 = vAload 0 13 := rfl
theorem k_X12_digit_13 : look a_X12_digit 13 = vCallM w_X12_fails 28 0 16 := rfl
theorem k_X12_digit_16 : look a_X12_digit 16 = vPop 17 := rfl
theorem k_X12_digit_17 : look a_X12_digit 17 = vI 0 18 := rfl
theorem k_X12_digit_18 : look a_X12_digit 18 = vIret := rfl
theorem k_X12_digit_19 : look a_X12_digit 19 = vAload 0 20 := rfl
theorem k_X12_digit_20 : look a_X12_digit 20 = vDup 21 := rfl
theorem k_X12_digit_21 : look a_X12_digit 21 = vGetI 28 10 24 := rfl
theorem k_X12_digit_24 : look a_X12_digit 24 = vI 1 25 := rfl
theorem k_X12_digit_25 : look a_X12_digit 25 = vIadd 26 := rfl
theorem k_X12_digit_26 : look a_X12_digit 26 = vPutI 28 10 29 := rfl
theorem k_X12_digit_29 : look a_X12_digit 29 = vIload 1 30 := rfl
theorem k_X12_digit_30 : look a_X12_digit 30 = vI 48 32 := rfl
theorem k_X12_digit_32 : look a_X12_digit 32 = vIsub 33 := rfl
theorem k_X12_digit_33 : look a_X12_digit 33 = vIret := rfl
theorem o_X12_digit {X : amX} (e1 : XT X = TT) (e2 : XD X = 1) (hB : amB X RX12 cX12_digit (some .int) 2) : ∀ pc, amOK X pc (look a_X12_digit pc) := by
  have hT : amTok (XT X) := e1 ▸ TT_ok
  refine look_ok ?_
  unfold a_X12_digit
  refine fc (ok_aload_n hB dX12_digit_0) ?_
  refine fc (ok_callM hB hT (e1 ▸ s_X12_look) lk_X12_153 (by rw [e2]; decide) (c := 12) rfl rfl rfl wd_1521 sl_X12_look dX12_digit_1) ?_
  refine fc (ok_istore_n hB (by decide) dX12_digit_4) ?_
  refine fc (ok_aload_n hB dX12_digit_5) ?_
  refine fc (ok_callM hB hT (e1 ▸ s_X12_isDigit) lk_X12_183 (by rw [e2]; decide) (c := 12) rfl rfl rfl wd_1552 sl_X12_isDigit dX12_digit_6) ?_
  refine fc (ok_if_ne hB (t := 19) (by decide) dX12_digit_9) ?_
  refine fc (ok_aload_n hB dX12_digit_12) ?_
  refine fc (ok_callM hB hT (e1 ▸ s_X12_fails) lk_X12_149 (by rw [e2]; decide) (c := 12) rfl rfl rfl wd_1525 sl_X12_fails dX12_digit_13) ?_
  refine fc (ok_pop hB dX12_digit_16) ?_
  refine fc (ok_iconst hB dX12_digit_17) ?_
  refine fc (ok_iret hB dX12_digit_18) ?_
  refine fc (ok_aload_n hB dX12_digit_19) ?_
  refine fc (ok_dup hB dX12_digit_20) ?_
  refine fc (ok_getI hB hT fl_X12_134 rfl rfl (Or.inl af_12_10) dX12_digit_21) ?_
  refine fc (ok_iconst hB dX12_digit_24) ?_
  refine fc (ok_iadd hB dX12_digit_25) ?_
  refine fc (ok_putI hB hT fp_X12_134 rfl rfl rfl af_12_10 dX12_digit_26) ?_
  refine fc (ok_iload_n hB dX12_digit_29) ?_
  refine fc (ok_bipush hB dX12_digit_30 (by decide)) ?_
  refine fc (ok_isub hB dX12_digit_32) ?_
  refine fc (ok_iret hB dX12_digit_33) ?_
  exact fn

def w_X12_digit : WP := fun av σ Q => av = [(28, 5000)] ∧ (txOk σ ∧ 0 ≤ σ 5000 10 ∧ σ 5000 10 ≤ σ 5000 9 ∧ InR (σ 5000 11) ∧ (48 ≤ mtx σ (msk σ) ∧ mtx σ (msk σ) ≤ 57 → Q (0, mtx σ (msk σ) - 48) (up σ 5000 10 (msk σ + 1))) ∧ (¬ (48 ≤ mtx σ (msk σ) ∧ mtx σ (msk σ) ≤ 57) → Q (0, 0) (faM (up σ 5000 10 (msk σ)))))
theorem w_X12_digit_e  (σ : Mem) (Q : AV → Mem → Prop) : w_X12_digit [(28, 5000)] σ Q = (txOk σ ∧ 0 ≤ σ 5000 10 ∧ σ 5000 10 ≤ σ 5000 9 ∧ InR (σ 5000 11) ∧ (48 ≤ mtx σ (msk σ) ∧ mtx σ (msk σ) ≤ 57 → Q (0, mtx σ (msk σ) - 48) (up σ 5000 10 (msk σ + 1))) ∧ (¬ (48 ≤ mtx σ (msk σ) ∧ mtx σ (msk σ) ≤ 57) → Q (0, 0) (faM (up σ 5000 10 (msk σ))))) := by
  apply propext; constructor
  · rintro ⟨h9, hb9⟩; cases h9; exact hb9
  · intro hb9; exact ⟨rfl, hb9⟩

set_option maxRecDepth 100000 in
set_option maxHeartbeats 4000000 in
theorem s_X12_digit : ∀ av σ Q, w_X12_digit av σ Q → amCall 1 0 0 TT yX12_digit cX12_digit 2 (some .int) av σ Q := by
  rintro av σ Q ⟨rfl, ht, h0, h1, hf, hq1, hq2⟩
  have hsb : σ 5000 10 ≤ msk σ ∧ msk σ ≤ σ 5000 9 := sk_b (mtx σ) h1
  have tb := mtx_b ht (msk σ)
  have n1 := ht.2.1
  have et : ∀ v, mtx (up σ 5000 10 v) = mtx σ := fun v => mtx_u10 ht v
  have hto := txOk_u10 ht (msk σ)
  have u9 : ∀ v, up σ 5000 10 v 5000 9 = σ 5000 9 := fun v => up_nj _ (by decide)
  have u11 : ∀ v, up σ 5000 10 v 5000 11 = σ 5000 11 := fun v => up_nj _ (by decide)
  generalize hg : msk σ = p at *
  by_cases c : 48 ≤ mtx σ p ∧ mtx σ p ≤ 57
  · have q8 := hq1 c
    refine am_m0 (own := RX12) (A := look a_X12_digit) (fun X e1 e2 hB => o_X12_digit e1 e2 hB) rfl (by decide +kernel) rfl rfl 190 (w := 2) ?_
    change vcs _ _ _ _ 190 0 [(28, 5000), (6, 0)] [] σ
    simp only [↓reduceIte, inR_0, inR_1, inR_m, vSw2_e, swP_n, swP_c, vI_e, vL_e, vNull_e, vIload_e, vLload_e, vAload_e, vIstore_e, vLstore_e, vAstore_e, vIinc_e, vIadd_e, vIsub_e, vImul_e, vIand_e, vIor_e, vIxor_e, vIshl_e, vIshr_e, vIushr_e, vIdiv_e, vIrem_e, vLadd_e, vLsub_e, vLmul_e, vLand_e, vLor_e, vLxor_e, vLdiv_e, vLrem_e, vLushr_e, vLshl_e, vLcmp_e, vIneg_e, vI2l_e, vL2i_e, vI2b_e, vI2c_e, vDup_e, vPop_e, vDup2_e, vGoto_e, vIcEq_e, vIfEq_e, vIcNe_e, vIfNe_e, vIcLt_e, vIfLt_e, vIcGe_e, vIfGe_e, vIcGt_e, vIfGt_e, vIcLe_e, vIfLe_e, vNonnull_e, vSw_e, vGetI_e, vGetL_e, vGetR_e, vPutI_e, vPutZ_e, vPutL_e, vPutR_e, vIald_e, vIald_s, vLald_e, vBald_e, vBald_s, vAald_e, vIast_e, vLast_e, vBast_e, vAast_e, vAlen_e8, vAlen_e9, vAlen_e10, vAlen_e11, vAlen_e5, vAlen_e3, vGets_e, vCompact_e, vLdcS_e, vIret_e, vZret_e, vCret_e, vBret_e, vLret_e, vVret_e, vAret_e, vCallM_e0, vCallMV_e0, vCallS_e0, vCallSV_e0, vCallM_e1, vCallMV_e1, vCallS_e1, vCallSV_e1, vCallM_e2, vCallMV_e2, vCallS_e2, vCallSV_e2, vCallM_e3, vCallMV_e3, vCallS_e3, vCallSV_e3, vCallM_e4, vCallMV_e4, vCallS_e4, vCallSV_e4, vCallM_e5, vCallMV_e5, vCallS_e5, vCallSV_e5, vCallM_e6, vCallMV_e6, vCallS_e6, vCallSV_e6, vCallM_e7, vCallMV_e7, vCallS_e7, vCallSV_e7, vBad_e, vStrVal_e, vStrCod_e, vForm_e, vCallT_e0, vCallT_e1, vCallT_e2, vCopy_e, rf_0_0, rf_0_1, rf_0_2, rf_0_3, rf_0_4, rf_0_7, rf_0_10, rf_0_11, rf_0_12, rf_0_13, rf_0_14, rf_0_15, rf_0_16, rf_1_0, rf_3_0, rf_3_1, rf_6_0, rf_6_1, rf_9_0, rf_9_1, rf_9_3, rf_13_0, rf_13_1, rf_13_2, rf_16_0, rf_16_1, rf_16_2, rf_16_3, rf_21_0, rf_21_1, rf_21_2, rf_21_3, rf_26_0, rf_26_1, rf_26_2, rf_26_3, rf_26_4, rf_26_5, rf_26_6, rf_31_0, rf_31_2, rf_31_5, rf_31_6, rf_36_0, rf_36_1, rf_36_2, rf_36_3, rf_39_0, rf_39_1, rf_39_2, rf_41_0, rf_41_1, rf_41_2, rf_41_3, rf_5000_1, rf_5000_2, rf_5000_3, rf_5000_4, rf_5000_5, rf_5000_15, rf_5000_16, rf_5000_18, rf_5000_19, rf_5000_20, rf_5000_21, rf_5000_22, rf_5000_23, rf_5000_24, rf_5000_25, rf_5000_26, rf_5000_27, rf_5000_36, rf_5000_37, rf_5000_40, rf_5000_41, rf_5000_42, rf_5000_43, rf_5000_44, rf_5000_45, rf_5000_47, rf_5000_52, rf_5000_54, rf_5000_55, rf_100_0, rf_100_1, rf_103_0, rf_103_1, rf_106_0, rf_106_1, rf_109_0, rf_109_1, al_2, al_4, al_5, al_7, al_8, al_10, al_11, al_12, al_14, al_15, al_17, al_18, al_19, al_20, al_22, al_23, al_24, al_25, al_27, al_28, al_29, al_30, al_32, al_33, al_34, al_35, al_37, al_38, al_40, al_42, al_5001, al_5002, al_5003, al_5004, al_5005, al_5006, al_5007, al_5008, al_5009, al_5010, al_5011, al_5012, al_5013, al_5014, al_5015, al_5016, al_5017, al_5018, al_5019, al_5020, al_5021, al_5022, al_5023, al_5024, al_5025, al_5026, al_9000, al_101, al_102, al_104, al_105, al_107, al_108, al_110, al_111, vcs_e, lg_c0, lg_cs, lg_nil, set_c0, set_cs, okst_0, okst_s, acok_n, acok_c, List.contains_nil, List.contains_cons, Bool.or_false, Bool.false_or, Bool.false_eq_true, if_false, if_true, ite_self, ne_eq, true_and, and_true, not_false_eq_true, not_true_eq_false, false_imp_iff, true_imp_iff, Nat.ble_eq, Bool.and_eq_true, reduceCtorEq, or_false, false_or, or_true, true_or, false_and, and_false, and_self, Int.reduceLE, Int.reduceAdd, Int.reduceSub, Int.reduceMul, Int.reduceNeg, Int.reduceLT, Int.reduceEq, Int.reduceNe, Nat.reduceBEq, Nat.reduceBNe, Nat.reduceEqDiff, amCmp_in, amCmp_lt, amCmp_le, amCmp_gt, amCmp_ge, amCmp_eq, amCmp_ne, Nat.reduceLeDiff, Nat.reduceSub, Bool.and_true, Bool.true_and, Bool.and_self, Bool.or_true, Bool.true_or, isRf_3, isRf_4, isRf_5, isRf_8, isRf_9, isRf_10, isRf_11, isRf_15, isRf_16, isRf_17, isRf_18, isRf_19, isRf_20, isRf_21, isRf_22, isRf_23, isRf_24, isRf_25, isRf_26, isRf_27, isRf_28, k_X12_digit_0, k_X12_digit_1, k_X12_digit_4, k_X12_digit_5, k_X12_digit_6, k_X12_digit_9, k_X12_digit_12, k_X12_digit_13, k_X12_digit_16, k_X12_digit_17, k_X12_digit_18, k_X12_digit_19, k_X12_digit_20, k_X12_digit_21, k_X12_digit_24, k_X12_digit_25, k_X12_digit_26, k_X12_digit_29, k_X12_digit_30, k_X12_digit_32, k_X12_digit_33, w_X12_fails_e, w_X12_isDigit_e, w_X12_look_e, up_s, up_nj, up_na, up_up, savR_o, cpy_o, fillm_o, setAud_o, setv_o, setv_s, Int.reduceNe, Int.reduceEq, Int.reduceLT, Int.reduceAdd, not_false_eq_true, ne_eq, or_true, true_or, hg, et, u9, u11, up_s, up_up, if_pos c]
    repeat' (first | assumption | exact ht | exact hto | apply And.intro | intro _)
    all_goals first | omega | exact absurd trivial (by assumption) | exact q8 | skip
  · have q8 := hq2 c
    refine am_m0 (own := RX12) (A := look a_X12_digit) (fun X e1 e2 hB => o_X12_digit e1 e2 hB) rfl (by decide +kernel) rfl rfl 190 (w := 2) ?_
    change vcs _ _ _ _ 190 0 [(28, 5000), (6, 0)] [] σ
    simp only [↓reduceIte, inR_0, inR_1, inR_m, vSw2_e, swP_n, swP_c, vI_e, vL_e, vNull_e, vIload_e, vLload_e, vAload_e, vIstore_e, vLstore_e, vAstore_e, vIinc_e, vIadd_e, vIsub_e, vImul_e, vIand_e, vIor_e, vIxor_e, vIshl_e, vIshr_e, vIushr_e, vIdiv_e, vIrem_e, vLadd_e, vLsub_e, vLmul_e, vLand_e, vLor_e, vLxor_e, vLdiv_e, vLrem_e, vLushr_e, vLshl_e, vLcmp_e, vIneg_e, vI2l_e, vL2i_e, vI2b_e, vI2c_e, vDup_e, vPop_e, vDup2_e, vGoto_e, vIcEq_e, vIfEq_e, vIcNe_e, vIfNe_e, vIcLt_e, vIfLt_e, vIcGe_e, vIfGe_e, vIcGt_e, vIfGt_e, vIcLe_e, vIfLe_e, vNonnull_e, vSw_e, vGetI_e, vGetL_e, vGetR_e, vPutI_e, vPutZ_e, vPutL_e, vPutR_e, vIald_e, vIald_s, vLald_e, vBald_e, vBald_s, vAald_e, vIast_e, vLast_e, vBast_e, vAast_e, vAlen_e8, vAlen_e9, vAlen_e10, vAlen_e11, vAlen_e5, vAlen_e3, vGets_e, vCompact_e, vLdcS_e, vIret_e, vZret_e, vCret_e, vBret_e, vLret_e, vVret_e, vAret_e, vCallM_e0, vCallMV_e0, vCallS_e0, vCallSV_e0, vCallM_e1, vCallMV_e1, vCallS_e1, vCallSV_e1, vCallM_e2, vCallMV_e2, vCallS_e2, vCallSV_e2, vCallM_e3, vCallMV_e3, vCallS_e3, vCallSV_e3, vCallM_e4, vCallMV_e4, vCallS_e4, vCallSV_e4, vCallM_e5, vCallMV_e5, vCallS_e5, vCallSV_e5, vCallM_e6, vCallMV_e6, vCallS_e6, vCallSV_e6, vCallM_e7, vCallMV_e7, vCallS_e7, vCallSV_e7, vBad_e, vStrVal_e, vStrCod_e, vForm_e, vCallT_e0, vCallT_e1, vCallT_e2, vCopy_e, rf_0_0, rf_0_1, rf_0_2, rf_0_3, rf_0_4, rf_0_7, rf_0_10, rf_0_11, rf_0_12, rf_0_13, rf_0_14, rf_0_15, rf_0_16, rf_1_0, rf_3_0, rf_3_1, rf_6_0, rf_6_1, rf_9_0, rf_9_1, rf_9_3, rf_13_0, rf_13_1, rf_13_2, rf_16_0, rf_16_1, rf_16_2, rf_16_3, rf_21_0, rf_21_1, rf_21_2, rf_21_3, rf_26_0, rf_26_1, rf_26_2, rf_26_3, rf_26_4, rf_26_5, rf_26_6, rf_31_0, rf_31_2, rf_31_5, rf_31_6, rf_36_0, rf_36_1, rf_36_2, rf_36_3, rf_39_0, rf_39_1, rf_39_2, rf_41_0, rf_41_1, rf_41_2, rf_41_3, rf_5000_1, rf_5000_2, rf_5000_3, rf_5000_4, rf_5000_5, rf_5000_15, rf_5000_16, rf_5000_18, rf_5000_19, rf_5000_20, rf_5000_21, rf_5000_22, rf_5000_23, rf_5000_24, rf_5000_25, rf_5000_26, rf_5000_27, rf_5000_36, rf_5000_37, rf_5000_40, rf_5000_41, rf_5000_42, rf_5000_43, rf_5000_44, rf_5000_45, rf_5000_47, rf_5000_52, rf_5000_54, rf_5000_55, rf_100_0, rf_100_1, rf_103_0, rf_103_1, rf_106_0, rf_106_1, rf_109_0, rf_109_1, al_2, al_4, al_5, al_7, al_8, al_10, al_11, al_12, al_14, al_15, al_17, al_18, al_19, al_20, al_22, al_23, al_24, al_25, al_27, al_28, al_29, al_30, al_32, al_33, al_34, al_35, al_37, al_38, al_40, al_42, al_5001, al_5002, al_5003, al_5004, al_5005, al_5006, al_5007, al_5008, al_5009, al_5010, al_5011, al_5012, al_5013, al_5014, al_5015, al_5016, al_5017, al_5018, al_5019, al_5020, al_5021, al_5022, al_5023, al_5024, al_5025, al_5026, al_9000, al_101, al_102, al_104, al_105, al_107, al_108, al_110, al_111, vcs_e, lg_c0, lg_cs, lg_nil, set_c0, set_cs, okst_0, okst_s, acok_n, acok_c, List.contains_nil, List.contains_cons, Bool.or_false, Bool.false_or, Bool.false_eq_true, if_false, if_true, ite_self, ne_eq, true_and, and_true, not_false_eq_true, not_true_eq_false, false_imp_iff, true_imp_iff, Nat.ble_eq, Bool.and_eq_true, reduceCtorEq, or_false, false_or, or_true, true_or, false_and, and_false, and_self, Int.reduceLE, Int.reduceAdd, Int.reduceSub, Int.reduceMul, Int.reduceNeg, Int.reduceLT, Int.reduceEq, Int.reduceNe, Nat.reduceBEq, Nat.reduceBNe, Nat.reduceEqDiff, amCmp_in, amCmp_lt, amCmp_le, amCmp_gt, amCmp_ge, amCmp_eq, amCmp_ne, Nat.reduceLeDiff, Nat.reduceSub, Bool.and_true, Bool.true_and, Bool.and_self, Bool.or_true, Bool.true_or, isRf_3, isRf_4, isRf_5, isRf_8, isRf_9, isRf_10, isRf_11, isRf_15, isRf_16, isRf_17, isRf_18, isRf_19, isRf_20, isRf_21, isRf_22, isRf_23, isRf_24, isRf_25, isRf_26, isRf_27, isRf_28, k_X12_digit_0, k_X12_digit_1, k_X12_digit_4, k_X12_digit_5, k_X12_digit_6, k_X12_digit_9, k_X12_digit_12, k_X12_digit_13, k_X12_digit_16, k_X12_digit_17, k_X12_digit_18, k_X12_digit_19, k_X12_digit_20, k_X12_digit_21, k_X12_digit_24, k_X12_digit_25, k_X12_digit_26, k_X12_digit_29, k_X12_digit_30, k_X12_digit_32, k_X12_digit_33, w_X12_fails_e, w_X12_isDigit_e, w_X12_look_e, up_s, up_nj, up_na, up_up, savR_o, cpy_o, fillm_o, setAud_o, setv_o, setv_s, Int.reduceNe, Int.reduceEq, Int.reduceLT, Int.reduceAdd, not_false_eq_true, ne_eq, or_true, true_or, hg, et, u9, u11, up_s, up_up, if_neg c]
    repeat' (first | assumption | exact ht | exact hto | apply And.intro | intro _)
    all_goals first | omega | exact absurd trivial (by assumption) | exact q8
/-- while a SEASON is read -/
def seM (m : Mem) (p f : Int) (v : Int → Int) : Mem := fun b j => if b = 5013 ∧ 192 ≤ j ∧ j < 240 then v (j - 192) else rdM m p f (m 5000 12) b j
theorem se_5 (m : Mem) (p f : Int) (v : Int → Int) : seM m p f v 5000 = rdM m p f (m 5000 12) 5000 := by
  funext j; unfold seM; rw [if_neg (by omega)]
theorem se_10 (m : Mem) (p f : Int) (v : Int → Int) : seM m p f v 5000 10 = p := by rw [se_5]; exact rd_10 _ _ _ _
theorem se_11 (m : Mem) (p f : Int) (v : Int → Int) : seM m p f v 5000 11 = f := by rw [se_5]; exact rd_11 _ _ _ _
theorem se_9 (m : Mem) (p f : Int) (v : Int → Int) : seM m p f v 5000 9 = m 5000 9 := by rw [se_5]; exact rd_9 _ _ _ _
theorem se_k (m : Mem) (p f : Int) (v : Int → Int) {k : Int} (h : k < 10 ∨ 12 < k) : seM m p f v 5000 k = m 5000 k := by rw [se_5]; exact rd_o _ _ _ _ h
theorem se_o (m : Mem) (p f : Int) (v : Int → Int) {b : Int} (h : b ≠ 5000) (h' : b ≠ 5013) : seM m p f v b = m b := by
  funext j; unfold seM; rw [if_neg (fun q => h' q.1), rd_r m p f _ h]
theorem se_13 (m : Mem) (p f : Int) (v : Int → Int) {k : Int} (h0 : 0 ≤ k) (h1 : k < 48) : seM m p f v 5013 (192 + k) = v k := by
  unfold seM; rw [if_pos ⟨rfl, by omega, by omega⟩]; congr 1; omega
theorem se_13o (m : Mem) (p f : Int) (v : Int → Int) {j : Int} (h : j < 192) : seM m p f v 5013 j = m 5013 j := by
  unfold seM; rw [if_neg (by omega), rd_r m p f _ (by decide)]
theorem se_u10 (m : Mem) (p f x : Int) (v : Int → Int) : up (seM m p f v) 5000 10 x = seM m x f v := by
  funext b j; unfold up seM rdM; (repeat' split) <;> first | rfl | omega
theorem se_u11 (m : Mem) (p f x : Int) (v : Int → Int) : up (seM m p f v) 5000 11 x = seM m p x v := by
  funext b j; unfold up seM rdM; (repeat' split) <;> first | rfl | omega
theorem se_w (m : Mem) (p f x : Int) (v : Int → Int) {k : Int} (h0 : 192 ≤ k) (h1 : k < 240) : up (seM m p f v) 5013 k x = seM m p f (upf v (k - 192) x) := by
  funext b j; unfold up seM upf
  by_cases h : b = 5013 ∧ j = k
  · rw [if_pos h, if_pos ⟨h.1, by omega, by omega⟩, if_pos (by omega)]
  · rw [if_neg h]
    by_cases h2 : b = 5013 ∧ 192 ≤ j ∧ j < 240
    · rw [if_pos h2, if_pos h2, if_neg (by omega)]
    · rw [if_neg h2, if_neg h2]
theorem se_fa (m : Mem) (p : Int) (v : Int → Int) : faM (seM m p (-1) v) = seM m p p v := by
  unfold faM; rw [if_pos (se_11 _ _ _ _), se_10, se_u11]
theorem se_tx {m : Mem} (h : txOk m) (p f : Int) (v : Int → Int) : mtx (seM m p f v) = mtx m ∧ txOk (seM m p f v) := by
  have hT := tx_T h
  have e5 := se_k m p f v (k := 5) (by decide)
  have e8 := se_k m p f v (k := 8) (by decide)
  constructor
  · funext i; unfold mtx; rw [se_9, e5, e8, se_o m p f v (by omega) (by omega)]
  · unfold txOk; rw [se_9, e5, e8, se_o m p f v (by omega) (by omega)]; exact h
theorem upf_upf (v : Int → Int) (k x y : Int) : upf (upf v k x) k y = upf v k y := by
  funext j; unfold upf; split <;> rfl
theorem fidx_m1 : fidx (stv 20103) (-1) 0 3 = -1 := by decide
theorem stv_exi : stv 20110 = stv 20103 := rfl
theorem stl_exi : stl 20110 = 3 := rfl
theorem wd_1533 : Cond.methodLink RX12 240 yX12_spotOf ∈ TBL := tb_tab (List.mem_of_getElem? (i := 1533) (by decide +kernel)) rfl
theorem wd_1535 : Cond.code yX12_spotOf cX12_spotOf 3 (some .int) ∈ TBL := tb_tab (List.mem_of_getElem? (i := 1535) (by decide +kernel)) rfl
theorem lk_X12_240 : amLk RX12 240 yX12_spotOf cX12_spotOf 3 (some .int) 2 := ⟨wd_1533, wd_12, wd_1535, by decide +kernel, by decide +kernel, by decide⟩
theorem wd_1534 : Cond.static yX12_spotOf ∈ TBL := tb_tab (List.mem_of_getElem? (i := 1534) (by decide +kernel)) rfl
theorem wd_1633 : Cond.methodLink RX12 289 yX12_digit ∈ TBL := tb_tab (List.mem_of_getElem? (i := 1633) (by decide +kernel)) rfl
theorem wd_1636 : Cond.code yX12_digit cX12_digit 2 (some .int) ∈ TBL := tb_tab (List.mem_of_getElem? (i := 1636) (by decide +kernel)) rfl
theorem lk_X12_289 : amLk RX12 289 yX12_digit cX12_digit 2 (some .int) 0 := ⟨wd_1633, wd_12, wd_1636, by decide +kernel, by decide +kernel, by decide⟩
theorem wd_1635 : Cond.instanceMethod yX12_digit ∈ TBL := tb_tab (List.mem_of_getElem? (i := 1635) (by decide +kernel)) rfl
theorem sl_X12_digit : Cond.selects RX12 yX12_digit yX12_digit ∈ TBL := tb_sel (List.mem_of_getElem? (i := 71) (by decide +kernel)) rfl
def a_X12_readStep : AC := [(0, vLdcS 20010 3), (3, vAload 0 4), (4, vCallM w_X12_look 28 0 7), (7, vCallS w_X12_spotOf 2 10), (10, vIstore 2 11), (11, vIload 2 12), (12, vI (-1) 13), (13, vIcNe 22 16), (16, vAload 0 17), (17, vCallM w_X12_fails 28 0 20), (20, vPop 21), (21, vVret), (22, vAload 0 23), (23, vDup 24), (24, vGetI 28 10 27), (27, vI 1 28), (28, vIadd 29), (29, vPutI 28 10 32), (32, vAload 0 33), (33, vGetR TT 28 26 8 36), (36, vIload 1 37), (37, vIload 2 38), (38, vIast TT 39), (39, vAload 0 40), (40, vGetR TT 28 26 8 43), (43, vIload 1 44), (44, vI 1 45), (45, vIadd 46), (46, vAload 0 47), (47, vCallM w_X12_digit 28 0 50), (50, vIast TT 51), (51, vAload 0 52), (52, vGetR TT 28 26 8 55), (55, vIload 1 56), (56, vI 2 57), (57, vIadd 58), (58, vI (-1) 59), (59, vIast TT 60), (60, vAload 0 61), (61, vGetI 28 11 64), (64, vI (-1) 65), (65, vIcNe 85 68), (68, vIload 2 69), (69, vI 1 70), (70, vIcNe 85 73), (73, vAload 0 74), (74, vGetR TT 28 26 8 77), (77, vIload 1 78), (78, vI 2 79), (79, vIadd 80), (80, vAload 0 81), (81, vCallM w_X12_digit 28 0 84), (84, vIast TT 85), (85, vVret)]
theorem k_X12_readStep_0 : look a_X12_readStep 0 = vLdcS 20010 3 := rfl
theorem k_X12_readStep_3 : look a_X12_readStep 3 = vAload 0 4 := rfl
theorem k_X12_readStep_4 : look a_X12_readStep 4 = vCallM w_X12_look 28 0 7 := rfl
theorem k_X12_readStep_7 : look a_X12_readStep 7 = vCallS w_X12_spotOf 2 10 := rfl
theorem k_X12_readStep_10 : look a_X12_readStep 10 = vIstore 2 11 := rfl
theorem k_X12_readStep_11 : look a_X12_readStep 11 = vIload 2 12 := rfl
theorem k_X12_readStep_12 : look a_X12_readStep 12 = vI (-1) 13 := rfl
theorem k_X12_readStep_13 : look a_X12_readStep 13 = vIcNe 22 16 := rfl
theorem k_X12_readStep_16 : look a_X12_readStep 16 = vAload 0 17 := rfl
theorem k_X12_readStep_17 : look a_X12_readStep 17 = vCallM w_X12_fails 28 0 20 := rfl
theorem k_X12_readStep_20 : look a_X12_readStep 20 = vPop 21 := rfl
theorem k_X12_readStep_21 : look a_X12_readStep 21 = vVret := rfl
theorem k_X12_readStep_22 : look a_X12_readStep 22 = vAload 0 23 := rfl
theorem k_X12_readStep_23 : look a_X12_readStep 23 = vDup 24 := rfl
theorem k_X12_readStep_24 : look a_X12_readStep 24 = vGetI 28 10 27 := rfl
theorem k_X12_readStep_27 : look a_X12_readStep 27 = vI 1 28 := rfl
theorem k_X12_readStep_28 : look a_X12_readStep 28 = vIadd 29 := rfl
theorem k_X12_readStep_29 : look a_X12_readStep 29 = vPutI 28 10 32 := rfl
theorem k_X12_readStep_32 : look a_X12_readStep 32 = vAload 0 33 := rfl
theorem k_X12_readStep_33 : look a_X12_readStep 33 = vGetR TT 28 26 8 36 := rfl
theorem k_X12_readStep_36 : look a_X12_readStep 36 = vIload 1 37 := rfl
theorem k_X12_readStep_37 : look a_X12_readStep 37 = vIload 2 38 := rfl
theorem k_X12_readStep_38 : look a_X12_readStep 38 = vIast TT 39 := rfl
theorem k_X12_readStep_39 : look a_X12_readStep 39 = vAload 0 40 := rfl
theorem k_X12_readStep_40 : look a_X12_readStep 40 = vGetR TT 28 26 8 43 := rfl
theorem k_X12_readStep_43 : look a_X12_readStep 43 = vIload 1 44 := rfl
theorem k_X12_readStep_44 : look a_X12_readStep 44 = vI 1 45 := rfl
theorem k_X12_readStep_45 : look a_X12_readStep 45 = vIadd 46 := rfl
theorem k_X12_readStep_46 : look a_X12_readStep 46 = vAload 0 47 := rfl
theorem k_X12_readStep_47 : look a_X12_readStep 47 = vCallM w_X12_digit 28 0 50 := rfl
theorem k_X12_readStep_50 : look a_X12_readStep 50 = vIast TT 51 := rfl
theorem k_X12_readStep_51 : look a_X12_readStep 51 = vAload 0 52 := rfl
theorem k_X12_readStep_52 : look a_X12_readStep 52 = vGetR TT 28 26 8 55 := rfl
theorem k_X12_readStep_55 : look a_X12_readStep 55 = vIload 1 56 := rfl
theorem k_X12_readStep_56 : look a_X12_readStep 56 = vI 2 57 := rfl
theorem k_X12_readStep_57 : look a_X12_readStep 57 = vIadd 58 := rfl
theorem k_X12_readStep_58 : look a_X12_readStep 58 = vI (-1) 59 := rfl
theorem k_X12_readStep_59 : look a_X12_readStep 59 = vIast TT 60 := rfl
theorem k_X12_readStep_60 : look a_X12_readStep 60 = vAload 0 61 := rfl
theorem k_X12_readStep_61 : look a_X12_readStep 61 = vGetI 28 11 64 := rfl
theorem k_X12_readStep_64 : look a_X12_readStep 64 = vI (-1) 65 := rfl
theorem k_X12_readStep_65 : look a_X12_readStep 65 = vIcNe 85 68 := rfl
theorem k_X12_readStep_68 : look a_X12_readStep 68 = vIload 2 69 := rfl
theorem k_X12_readStep_69 : look a_X12_readStep 69 = vI 1 70 := rfl
theorem k_X12_readStep_70 : look a_X12_readStep 70 = vIcNe 85 73 := rfl
theorem k_X12_readStep_73 : look a_X12_readStep 73 = vAload 0 74 := rfl
theorem k_X12_readStep_74 : look a_X12_readStep 74 = vGetR TT 28 26 8 77 := rfl
theorem k_X12_readStep_77 : look a_X12_readStep 77 = vIload 1 78 := rfl
theorem k_X12_readStep_78 : look a_X12_readStep 78 = vI 2 79 := rfl
theorem k_X12_readStep_79 : look a_X12_readStep 79 = vIadd 80 := rfl
theorem k_X12_readStep_80 : look a_X12_readStep 80 = vAload 0 81 := rfl
theorem k_X12_readStep_81 : look a_X12_readStep 81 = vCallM w_X12_digit 28 0 84 := rfl
theorem k_X12_readStep_84 : look a_X12_readStep 84 = vIast TT 85 := rfl
theorem k_X12_readStep_85 : look a_X12_readStep 85 = vVret := rfl
theorem o_X12_readStep {X : amX} (e1 : XT X = TT) (e2 : XD X = 5) (hB : amB X RX12 cX12_readStep (none) 3) : ∀ pc, amOK X pc (look a_X12_readStep pc) := by
  have hT : amTok (XT X) := e1 ▸ TT_ok
  refine look_ok ?_
  unfold a_X12_readStep
  refine fc (ok_ldcwS hB (k := 10) rfl rfl rfl rfl dX12_readStep_0) ?_
  refine fc (ok_aload_n hB dX12_readStep_3) ?_
  refine fc (ok_callM hB hT (e1 ▸ s_X12_look) lk_X12_153 (by rw [e2]; decide) (c := 12) rfl rfl rfl wd_1521 sl_X12_look dX12_readStep_4) ?_
  refine fc (ok_callS hB (e1 ▸ s_X12_spotOf) lk_X12_240 (by rw [e2]; decide) wd_1534 dX12_readStep_7) ?_
  refine fc (ok_istore_n hB (by decide) dX12_readStep_10) ?_
  refine fc (ok_iload_n hB dX12_readStep_11) ?_
  refine fc (ok_iconst hB dX12_readStep_12) ?_
  refine fc (ok_icmp_ne hB (t := 22) (by decide) dX12_readStep_13) ?_
  refine fc (ok_aload_n hB dX12_readStep_16) ?_
  refine fc (ok_callM hB hT (e1 ▸ s_X12_fails) lk_X12_149 (by rw [e2]; decide) (c := 12) rfl rfl rfl wd_1525 sl_X12_fails dX12_readStep_17) ?_
  refine fc (ok_pop hB dX12_readStep_20) ?_
  refine fc (ok_vret hB dX12_readStep_21) ?_
  refine fc (ok_aload_n hB dX12_readStep_22) ?_
  refine fc (ok_dup hB dX12_readStep_23) ?_
  refine fc (ok_getI hB hT fl_X12_134 rfl rfl (Or.inl af_12_10) dX12_readStep_24) ?_
  refine fc (ok_iconst hB dX12_readStep_27) ?_
  refine fc (ok_iadd hB dX12_readStep_28) ?_
  refine fc (ok_putI hB hT fp_X12_134 rfl rfl rfl af_12_10 dX12_readStep_29) ?_
  refine fc (ok_aload_n hB dX12_readStep_32) ?_
  refine fc (okt_getR e1 hB hT fl_X12_61 rfl af_12_26 at_12_26 (by decide) dX12_readStep_33) ?_
  refine fc (ok_iload_n hB dX12_readStep_36) ?_
  refine fc (ok_iload_n hB dX12_readStep_37) ?_
  refine fc (okt_iastore e1 hB dX12_readStep_38) ?_
  refine fc (ok_aload_n hB dX12_readStep_39) ?_
  refine fc (okt_getR e1 hB hT fl_X12_61 rfl af_12_26 at_12_26 (by decide) dX12_readStep_40) ?_
  refine fc (ok_iload_n hB dX12_readStep_43) ?_
  refine fc (ok_iconst hB dX12_readStep_44) ?_
  refine fc (ok_iadd hB dX12_readStep_45) ?_
  refine fc (ok_aload_n hB dX12_readStep_46) ?_
  refine fc (ok_callM hB hT (e1 ▸ s_X12_digit) lk_X12_289 (by rw [e2]; decide) (c := 12) rfl rfl rfl wd_1635 sl_X12_digit dX12_readStep_47) ?_
  refine fc (okt_iastore e1 hB dX12_readStep_50) ?_
  refine fc (ok_aload_n hB dX12_readStep_51) ?_
  refine fc (okt_getR e1 hB hT fl_X12_61 rfl af_12_26 at_12_26 (by decide) dX12_readStep_52) ?_
  refine fc (ok_iload_n hB dX12_readStep_55) ?_
  refine fc (ok_iconst hB dX12_readStep_56) ?_
  refine fc (ok_iadd hB dX12_readStep_57) ?_
  refine fc (ok_iconst hB dX12_readStep_58) ?_
  refine fc (okt_iastore e1 hB dX12_readStep_59) ?_
  refine fc (ok_aload_n hB dX12_readStep_60) ?_
  refine fc (ok_getI hB hT fl_X12_143 rfl rfl (Or.inl af_12_11) dX12_readStep_61) ?_
  refine fc (ok_iconst hB dX12_readStep_64) ?_
  refine fc (ok_icmp_ne hB (t := 85) (by decide) dX12_readStep_65) ?_
  refine fc (ok_iload_n hB dX12_readStep_68) ?_
  refine fc (ok_iconst hB dX12_readStep_69) ?_
  refine fc (ok_icmp_ne hB (t := 85) (by decide) dX12_readStep_70) ?_
  refine fc (ok_aload_n hB dX12_readStep_73) ?_
  refine fc (okt_getR e1 hB hT fl_X12_61 rfl af_12_26 at_12_26 (by decide) dX12_readStep_74) ?_
  refine fc (ok_iload_n hB dX12_readStep_77) ?_
  refine fc (ok_iconst hB dX12_readStep_78) ?_
  refine fc (ok_iadd hB dX12_readStep_79) ?_
  refine fc (ok_aload_n hB dX12_readStep_80) ?_
  refine fc (ok_callM hB hT (e1 ▸ s_X12_digit) lk_X12_289 (by rw [e2]; decide) (c := 12) rfl rfl rfl wd_1635 sl_X12_digit dX12_readStep_81) ?_
  refine fc (okt_iastore e1 hB dX12_readStep_84) ?_
  refine fc (ok_vret hB dX12_readStep_85) ?_
  exact fn

def w_X12_readStep : WP := fun av σ Q => ∃ (to : Int), av = [(28, 5000), (0, to)] ∧ (∃ (m : Mem) (p : Int) (v : Int → Int), σ = seM m p (-1) v ∧ txOk m ∧ 0 ≤ p ∧ p ≤ m 5000 9 ∧ 192 ≤ to ∧ to ≤ 237 ∧ ((stepF (mtx m) (m 5000 9) p).1 = -1 → ∀ v' q, Q (6, 0) (seM m q (stepF (mtx m) (m 5000 9) p).2.1 v')) ∧ ((stepF (mtx m) (m 5000 9) p).1 ≠ -1 → Q (6, 0) (seM m (stepF (mtx m) (m 5000 9) p).2.1 (-1) (upf (upf (upf v (to - 192) (stepF (mtx m) (m 5000 9) p).1) (to + 1 - 192) (stepF (mtx m) (m 5000 9) p).2.2.1) (to + 2 - 192) (stepF (mtx m) (m 5000 9) p).2.2.2))))
theorem w_X12_readStep_e (to : Int) (σ : Mem) (Q : AV → Mem → Prop) : w_X12_readStep [(28, 5000), (0, to)] σ Q = (∃ (m : Mem) (p : Int) (v : Int → Int), σ = seM m p (-1) v ∧ txOk m ∧ 0 ≤ p ∧ p ≤ m 5000 9 ∧ 192 ≤ to ∧ to ≤ 237 ∧ ((stepF (mtx m) (m 5000 9) p).1 = -1 → ∀ v' q, Q (6, 0) (seM m q (stepF (mtx m) (m 5000 9) p).2.1 v')) ∧ ((stepF (mtx m) (m 5000 9) p).1 ≠ -1 → Q (6, 0) (seM m (stepF (mtx m) (m 5000 9) p).2.1 (-1) (upf (upf (upf v (to - 192) (stepF (mtx m) (m 5000 9) p).1) (to + 1 - 192) (stepF (mtx m) (m 5000 9) p).2.2.1) (to + 2 - 192) (stepF (mtx m) (m 5000 9) p).2.2.2)))) := by
  apply propext; constructor
  · rintro ⟨to', h9, hb9⟩; cases h9; exact hb9
  · intro hb9; exact ⟨to, rfl, hb9⟩

set_option maxRecDepth 100000 in
set_option maxHeartbeats 4000000 in
theorem s_X12_readStep : ∀ av σ Q, w_X12_readStep av σ Q → amCall 5 0 0 TT yX12_readStep cX12_readStep 3 (none) av σ Q := by
  rintro av σ Q ⟨to, rfl, m, p, v, rfl, ht, h0, h1, h2, h3, hq1, hq2⟩
  have n0 := ht.1
  have n1 := ht.2.1
  have hte := mtx_n ht
  have Mt : ∀ p f v, mtx (seM m p f v) = mtx m := fun p f v => (se_tx ht p f v).1
  have MtO : ∀ p f v, txOk (seM m p f v) = True := fun p f v => eq_true (se_tx ht p f v).2
  have w0 : ∀ p f v x, up (seM m p f v) 5013 to x = seM m p f (upf v (to - 192) x) := fun p f v x => se_w m p f x v (by omega) (by omega)
  have w1 : ∀ p f v x, up (seM m p f v) 5013 (to + 1) x = seM m p f (upf v (to + 1 - 192) x) := fun p f v x => se_w m p f x v (by omega) (by omega)
  have w2 : ∀ p f v x, up (seM m p f v) 5013 (to + 2) x = seM m p f (upf v (to + 2 - 192) x) := fun p f v x => se_w m p f x v (by omega) (by omega)
  have t3 : (3 : Int).toNat = 3 := rfl
  have s1 := sk_b (mtx m) h1
  have b1 := mtx_b ht (sk (mtx m) (m 5000 9) p)
  have fb := fidx_b (stv 20103) (mtx m (sk (mtx m) (m 5000 9) p)) 3 0 (by omega)
  have z1 : mtx m (sk (mtx m) (m 5000 9) p) = -1 → fidx (stv 20103) (mtx m (sk (mtx m) (m 5000 9) p)) 0 3 = -1 := fun e => by rw [e]; exact fidx_m1
  refine am_m0 (own := RX12) (A := look a_X12_readStep) (fun X e1 e2 hB => o_X12_readStep e1 e2 hB) rfl (by decide +kernel) rfl rfl 120 (w := 3) ?_
  change vcs _ _ _ _ 120 0 [(28, 5000), (0, to), (6, 0)] [] (seM m p (-1) v)
  simp only [↓reduceIte, inR_0, inR_1, inR_m, vSw2_e, swP_n, swP_c, vI_e, vL_e, vNull_e, vIload_e, vLload_e, vAload_e, vIstore_e, vLstore_e, vAstore_e, vIinc_e, vIadd_e, vIsub_e, vImul_e, vIand_e, vIor_e, vIxor_e, vIshl_e, vIshr_e, vIushr_e, vIdiv_e, vIrem_e, vLadd_e, vLsub_e, vLmul_e, vLand_e, vLor_e, vLxor_e, vLdiv_e, vLrem_e, vLushr_e, vLshl_e, vLcmp_e, vIneg_e, vI2l_e, vL2i_e, vI2b_e, vI2c_e, vDup_e, vPop_e, vDup2_e, vGoto_e, vIcEq_e, vIfEq_e, vIcNe_e, vIfNe_e, vIcLt_e, vIfLt_e, vIcGe_e, vIfGe_e, vIcGt_e, vIfGt_e, vIcLe_e, vIfLe_e, vNonnull_e, vSw_e, vGetI_e, vGetL_e, vGetR_e, vPutI_e, vPutZ_e, vPutL_e, vPutR_e, vIald_e, vIald_s, vLald_e, vBald_e, vBald_s, vAald_e, vIast_e, vLast_e, vBast_e, vAast_e, vAlen_e8, vAlen_e9, vAlen_e10, vAlen_e11, vAlen_e5, vAlen_e3, vGets_e, vCompact_e, vLdcS_e, vIret_e, vZret_e, vCret_e, vBret_e, vLret_e, vVret_e, vAret_e, vCallM_e0, vCallMV_e0, vCallS_e0, vCallSV_e0, vCallM_e1, vCallMV_e1, vCallS_e1, vCallSV_e1, vCallM_e2, vCallMV_e2, vCallS_e2, vCallSV_e2, vCallM_e3, vCallMV_e3, vCallS_e3, vCallSV_e3, vCallM_e4, vCallMV_e4, vCallS_e4, vCallSV_e4, vCallM_e5, vCallMV_e5, vCallS_e5, vCallSV_e5, vCallM_e6, vCallMV_e6, vCallS_e6, vCallSV_e6, vCallM_e7, vCallMV_e7, vCallS_e7, vCallSV_e7, vBad_e, vStrVal_e, vStrCod_e, vForm_e, vCallT_e0, vCallT_e1, vCallT_e2, vCopy_e, rf_0_0, rf_0_1, rf_0_2, rf_0_3, rf_0_4, rf_0_7, rf_0_10, rf_0_11, rf_0_12, rf_0_13, rf_0_14, rf_0_15, rf_0_16, rf_1_0, rf_3_0, rf_3_1, rf_6_0, rf_6_1, rf_9_0, rf_9_1, rf_9_3, rf_13_0, rf_13_1, rf_13_2, rf_16_0, rf_16_1, rf_16_2, rf_16_3, rf_21_0, rf_21_1, rf_21_2, rf_21_3, rf_26_0, rf_26_1, rf_26_2, rf_26_3, rf_26_4, rf_26_5, rf_26_6, rf_31_0, rf_31_2, rf_31_5, rf_31_6, rf_36_0, rf_36_1, rf_36_2, rf_36_3, rf_39_0, rf_39_1, rf_39_2, rf_41_0, rf_41_1, rf_41_2, rf_41_3, rf_5000_1, rf_5000_2, rf_5000_3, rf_5000_4, rf_5000_5, rf_5000_15, rf_5000_16, rf_5000_18, rf_5000_19, rf_5000_20, rf_5000_21, rf_5000_22, rf_5000_23, rf_5000_24, rf_5000_25, rf_5000_26, rf_5000_27, rf_5000_36, rf_5000_37, rf_5000_40, rf_5000_41, rf_5000_42, rf_5000_43, rf_5000_44, rf_5000_45, rf_5000_47, rf_5000_52, rf_5000_54, rf_5000_55, rf_100_0, rf_100_1, rf_103_0, rf_103_1, rf_106_0, rf_106_1, rf_109_0, rf_109_1, al_2, al_4, al_5, al_7, al_8, al_10, al_11, al_12, al_14, al_15, al_17, al_18, al_19, al_20, al_22, al_23, al_24, al_25, al_27, al_28, al_29, al_30, al_32, al_33, al_34, al_35, al_37, al_38, al_40, al_42, al_5001, al_5002, al_5003, al_5004, al_5005, al_5006, al_5007, al_5008, al_5009, al_5010, al_5011, al_5012, al_5013, al_5014, al_5015, al_5016, al_5017, al_5018, al_5019, al_5020, al_5021, al_5022, al_5023, al_5024, al_5025, al_5026, al_9000, al_101, al_102, al_104, al_105, al_107, al_108, al_110, al_111, vcs_e, lg_c0, lg_cs, lg_nil, set_c0, set_cs, okst_0, okst_s, acok_n, acok_c, List.contains_nil, List.contains_cons, Bool.or_false, Bool.false_or, Bool.false_eq_true, if_false, if_true, ite_self, ne_eq, true_and, and_true, not_false_eq_true, not_true_eq_false, false_imp_iff, true_imp_iff, Nat.ble_eq, Bool.and_eq_true, reduceCtorEq, or_false, false_or, or_true, true_or, false_and, and_false, and_self, Int.reduceLE, Int.reduceAdd, Int.reduceSub, Int.reduceMul, Int.reduceNeg, Int.reduceLT, Int.reduceEq, Int.reduceNe, Nat.reduceBEq, Nat.reduceBNe, Nat.reduceEqDiff, amCmp_in, amCmp_lt, amCmp_le, amCmp_gt, amCmp_ge, amCmp_eq, amCmp_ne, Nat.reduceLeDiff, Nat.reduceSub, Bool.and_true, Bool.true_and, Bool.and_self, Bool.or_true, Bool.true_or, isRf_3, isRf_4, isRf_5, isRf_8, isRf_9, isRf_10, isRf_11, isRf_15, isRf_16, isRf_17, isRf_18, isRf_19, isRf_20, isRf_21, isRf_22, isRf_23, isRf_24, isRf_25, isRf_26, isRf_27, isRf_28, k_X12_readStep_0, k_X12_readStep_3, k_X12_readStep_4, k_X12_readStep_7, k_X12_readStep_10, k_X12_readStep_11, k_X12_readStep_12, k_X12_readStep_13, k_X12_readStep_16, k_X12_readStep_17, k_X12_readStep_20, k_X12_readStep_21, k_X12_readStep_22, k_X12_readStep_23, k_X12_readStep_24, k_X12_readStep_27, k_X12_readStep_28, k_X12_readStep_29, k_X12_readStep_32, k_X12_readStep_33, k_X12_readStep_36, k_X12_readStep_37, k_X12_readStep_38, k_X12_readStep_39, k_X12_readStep_40, k_X12_readStep_43, k_X12_readStep_44, k_X12_readStep_45, k_X12_readStep_46, k_X12_readStep_47, k_X12_readStep_50, k_X12_readStep_51, k_X12_readStep_52, k_X12_readStep_55, k_X12_readStep_56, k_X12_readStep_57, k_X12_readStep_58, k_X12_readStep_59, k_X12_readStep_60, k_X12_readStep_61, k_X12_readStep_64, k_X12_readStep_65, k_X12_readStep_68, k_X12_readStep_69, k_X12_readStep_70, k_X12_readStep_73, k_X12_readStep_74, k_X12_readStep_77, k_X12_readStep_78, k_X12_readStep_79, k_X12_readStep_80, k_X12_readStep_81, k_X12_readStep_84, k_X12_readStep_85, w_X12_digit_e, w_X12_fails_e, w_X12_look_e, w_X12_spotOf_e, msk, Mt, MtO, se_10, se_11, se_9, se_u10, se_u11, se_fa, w0, w1, w2, Int.reduceAdd, stv_exi, stl_exi, t3]
  unfold stepF at hq1 hq2
  generalize hk : fidx (stv 20103) (mtx m (sk (mtx m) (m 5000 9) p)) 0 3 = kd at *
  by_cases c1 : kd = -1
  · rw [if_pos (Or.inr c1)] at hq1
    have h9 := hq1 rfl
    subst c1
    repeat' (first | apply And.intro | intro _)
    all_goals first | omega | exact absurd trivial (by assumption) | exact h9 _ _ | skip
  · have c0 : ¬ (mtx m (sk (mtx m) (m 5000 9) p) = -1 ∨ kd = -1) := by omega
    rw [if_neg c0] at hq1 hq2
    have s2 := sk_lt hte (q := sk (mtx m) (m 5000 9) p) (by omega)
    have s3 := sk_b (mtx m) (n := m 5000 9) (p := sk (mtx m) (m 5000 9) p + 1) (by omega)
    have b2 := mtx_b ht (sk (mtx m) (m 5000 9) (sk (mtx m) (m 5000 9) p + 1))
    by_cases c2 : 48 ≤ mtx m (sk (mtx m) (m 5000 9) (sk (mtx m) (m 5000 9) p + 1)) ∧ mtx m (sk (mtx m) (m 5000 9) (sk (mtx m) (m 5000 9) p + 1)) ≤ 57
    · rw [if_neg (fun g => g c2)] at hq1 hq2
      have s4 := sk_lt hte (q := sk (mtx m) (m 5000 9) (sk (mtx m) (m 5000 9) p + 1)) (by omega)
      by_cases c3 : kd = 1
      · rw [if_neg (fun g => g c3)] at hq1 hq2
        have s5 := sk_b (mtx m) (n := m 5000 9) (p := sk (mtx m) (m 5000 9) (sk (mtx m) (m 5000 9) p + 1) + 1) (by omega)
        have b3 := mtx_b ht (sk (mtx m) (m 5000 9) (sk (mtx m) (m 5000 9) (sk (mtx m) (m 5000 9) p + 1) + 1))
        by_cases c4 : 48 ≤ mtx m (sk (mtx m) (m 5000 9) (sk (mtx m) (m 5000 9) (sk (mtx m) (m 5000 9) p + 1) + 1)) ∧ mtx m (sk (mtx m) (m 5000 9) (sk (mtx m) (m 5000 9) (sk (mtx m) (m 5000 9) p + 1) + 1)) ≤ 57
        · rw [if_neg (fun g => g c4)] at hq2
          have h9 := hq2 (show (1 : Int) ≠ -1 by decide)
          dsimp only at h9
          subst c3
          simp only [upf_upf]
          repeat' (first | apply And.intro | intro _)
          all_goals first | omega | exact absurd trivial (by assumption) | exact h9 | skip
        · rw [if_pos c4] at hq1
          have h9 := hq1 rfl
          dsimp only at h9
          subst c3
          simp only [upf_upf]
          repeat' (first | apply And.intro | intro _)
          all_goals first | omega | exact absurd trivial (by assumption) | exact h9 _ _ | skip
      · rw [if_pos c3] at hq2
        have h9 := hq2 c1
        dsimp only at h9
        repeat' (first | apply And.intro | intro _)
        all_goals first | omega | exact absurd trivial (by assumption) | exact h9 | skip
    · rw [if_pos c2] at hq1
      have h9 := hq1 rfl
      dsimp only at h9
      repeat' (first | apply And.intro | intro _)
      all_goals first | omega | exact absurd trivial (by assumption) | exact h9 _ _ | skip
theorem sts_tx {σ : Mem} {a b n : Int} (h : txtOk σ a b n) : txOk (stsM σ a b n) ∧ mtx (stsM σ a b n) = txt σ a b n ∧ stsM σ a b n 5000 9 = n := by
  obtain ⟨h0, h1, h2, h3⟩ := h
  have e9 : stsM σ a b n 5000 9 = n := rfl
  have e5 : stsM σ a b n 5000 5 = a := rfl
  have e8 : stsM σ a b n 5000 8 = b := rfl
  have eo : ∀ c, c ≠ 5000 → stsM σ a b n c = σ c := fun c hc => by unfold stsM; simp only [up_na _ hc]
  refine ⟨?_, ?_, e9⟩
  · unfold txOk
    rw [e9, e5, e8, eo a (by omega)]
    exact ⟨h0, h1, h2, h3⟩
  · funext i; unfold mtx txt
    rw [e9, e5, e8, eo a (by omega)]
theorem se_id {m : Mem} {p f : Int} (h1 : m 5000 10 = p) (h2 : m 5000 11 = f) : seM m p f (fun k => m 5013 (192 + k)) = m := by
  funext b j; unfold seM
  by_cases h : b = 5013 ∧ 192 ≤ j ∧ j < 240
  · rw [if_pos h, h.1]; show m 5013 (192 + (j - 192)) = _; congr 1; omega
  · rw [if_neg h, ← h1, ← h2, rd_id]
/-- what reading a SEASON may change -/
def SEF (σ τ : Mem) : Prop := (∀ b, b ≠ 5000 → b ≠ 5013 → b ≠ 5014 → τ b = σ b) ∧ (∀ j, j < 192 → τ 5013 j = σ 5013 j) ∧ (∀ j, j ≠ 4 → τ 5014 j = σ 5014 j) ∧ ∀ k, k ≠ 5 → (k < 8 ∨ 12 < k) → τ 5000 k = σ 5000 k
theorem SEF_se (σ : Mem) (a b n p f : Int) (v : Int → Int) : SEF σ (seM (stsM σ a b n) p f v) := by
  have eo : ∀ c, c ≠ 5000 → stsM σ a b n c = σ c := fun c hc => by unfold stsM; simp only [up_na _ hc]
  refine ⟨fun c h1 h2 h3 => ?_, fun j hj => ?_, fun j hj => ?_, fun k h1 h2 => ?_⟩
  · rw [se_o _ _ _ _ h1 h2, eo c h1]
  · rw [se_13o _ _ _ _ hj, eo _ (by decide)]
  · rw [se_o _ _ _ _ (by decide) (by decide), eo _ (by decide)]
  · rw [se_k _ _ _ _ (by omega)]
    unfold stsM
    rw [up_nj _ (by omega), up_nj _ (by omega), up_nj _ (by omega), up_nj _ (by omega), up_nj _ (by omega)]
theorem SEF_14 {σ τ : Mem} (h : SEF σ τ) (x : Int) : SEF σ (up τ 5014 4 x) := by
  obtain ⟨h1, h2, h3, h4⟩ := h
  exact ⟨fun b a1 a2 a3 => by rw [up_na _ a3]; exact h1 b a1 a2 a3, fun j hj => by rw [up_na _ (by decide)]; exact h2 j hj, fun j hj => by rw [up_nj _ hj]; exact h3 j hj, fun k a1 a2 => by rw [up_na _ (by decide)]; exact h4 k a1 a2⟩
