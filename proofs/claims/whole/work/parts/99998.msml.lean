/-! the reference: sums and bests -/
def mfe (σ : Mem) (p k : Int) : Int := σ 5007 (4 * p + k % 3)
def a_X12_sumOf : AC := [(0, vI 0 1), (1, vIstore 2 2), (2, vI 0 3), (3, vIstore 3 4), (4, vIload 3 5), (5, vAload 0 6), (6, vIload 1 7), (7, vCallM w_X12_minutes 28 1 10), (10, vIcGe 28 13), (13, vIload 2 14), (14, vAload 0 15), (15, vIload 1 16), (16, vIload 3 17), (17, vCallM w_X12_feeling 28 2 20), (20, vIadd 21), (21, vIstore 2 22), (22, vIinc 3 1 25), (25, vGoto 4), (28, vIload 2 29), (29, vIret)]
theorem k_X12_sumOf_0 : look a_X12_sumOf 0 = vI 0 1 := rfl
theorem k_X12_sumOf_1 : look a_X12_sumOf 1 = vIstore 2 2 := rfl
theorem k_X12_sumOf_2 : look a_X12_sumOf 2 = vI 0 3 := rfl
theorem k_X12_sumOf_3 : look a_X12_sumOf 3 = vIstore 3 4 := rfl
theorem k_X12_sumOf_4 : look a_X12_sumOf 4 = vIload 3 5 := rfl
theorem k_X12_sumOf_5 : look a_X12_sumOf 5 = vAload 0 6 := rfl
theorem k_X12_sumOf_6 : look a_X12_sumOf 6 = vIload 1 7 := rfl
theorem k_X12_sumOf_7 : look a_X12_sumOf 7 = vCallM w_X12_minutes 28 1 10 := rfl
theorem k_X12_sumOf_10 : look a_X12_sumOf 10 = vIcGe 28 13 := rfl
theorem k_X12_sumOf_13 : look a_X12_sumOf 13 = vIload 2 14 := rfl
theorem k_X12_sumOf_14 : look a_X12_sumOf 14 = vAload 0 15 := rfl
theorem k_X12_sumOf_15 : look a_X12_sumOf 15 = vIload 1 16 := rfl
theorem k_X12_sumOf_16 : look a_X12_sumOf 16 = vIload 3 17 := rfl
theorem k_X12_sumOf_17 : look a_X12_sumOf 17 = vCallM w_X12_feeling 28 2 20 := rfl
theorem k_X12_sumOf_20 : look a_X12_sumOf 20 = vIadd 21 := rfl
theorem k_X12_sumOf_21 : look a_X12_sumOf 21 = vIstore 2 22 := rfl
theorem k_X12_sumOf_22 : look a_X12_sumOf 22 = vIinc 3 1 25 := rfl
theorem k_X12_sumOf_25 : look a_X12_sumOf 25 = vGoto 4 := rfl
theorem k_X12_sumOf_28 : look a_X12_sumOf 28 = vIload 2 29 := rfl
theorem k_X12_sumOf_29 : look a_X12_sumOf 29 = vIret := rfl
theorem o_X12_sumOf {X : amX} (e1 : XT X = TT) (e2 : XD X = 1) (hB : amB X RX12 cX12_sumOf (some .int) 4) : ∀ pc, amOK X pc (look a_X12_sumOf pc) := by
  have hT : amTok (XT X) := e1 ▸ TT_ok
  refine look_ok ?_
  unfold a_X12_sumOf
  refine fc (ok_iconst hB dX12_sumOf_0) ?_
  refine fc (ok_istore_n hB (by decide) dX12_sumOf_1) ?_
  refine fc (ok_iconst hB dX12_sumOf_2) ?_
  refine fc (ok_istore_n hB (by decide) dX12_sumOf_3) ?_
  refine fc (ok_iload_n hB dX12_sumOf_4) ?_
  refine fc (ok_aload_n hB dX12_sumOf_5) ?_
  refine fc (ok_iload_n hB dX12_sumOf_6) ?_
  refine fc (ok_callM hB hT (e1 ▸ s_X12_minutes) lk_X12_355 (by rw [e2]; decide) (c := 12) rfl rfl rfl wd_1702 sl_X12_minutes dX12_sumOf_7) ?_
  refine fc (ok_icmp_ge hB (t := 28) (by decide) dX12_sumOf_10) ?_
  refine fc (ok_iload_n hB dX12_sumOf_13) ?_
  refine fc (ok_aload_n hB dX12_sumOf_14) ?_
  refine fc (ok_iload_n hB dX12_sumOf_15) ?_
  refine fc (ok_iload_n hB dX12_sumOf_16) ?_
  refine fc (ok_callM hB hT (e1 ▸ s_X12_feeling) lk_X12_338 (by rw [e2]; decide) (c := 12) rfl rfl rfl wd_1714 sl_X12_feeling dX12_sumOf_17) ?_
  refine fc (ok_iadd hB dX12_sumOf_20) ?_
  refine fc (ok_istore_n hB (by decide) dX12_sumOf_21) ?_
  refine fc (ok_iinc hB (by decide) dX12_sumOf_22) ?_
  refine fc (ok_goto hB (t := 4) (by decide) dX12_sumOf_25) ?_
  refine fc (ok_iload_n hB dX12_sumOf_28) ?_
  refine fc (ok_iret hB dX12_sumOf_29) ?_
  exact fn
def inv_smo (σ : Mem) (p : Int) (n pc : Nat) (ls st : List AV) (σ' : Mem) : Prop := pc = 4 ∧ st = [] ∧ σ' = σ ∧ ∃ k : Nat, ls = [(28, 5000), (0, p), (0, fsum (mfe σ p) k), (0, (k : Int))] ∧ k + n = mMi σ p
def w_X12_sumOf : WP := fun av σ Q => ∃ (p : Int), av = [(28, 5000), (0, p)] ∧ (0 ≤ p ∧ p < 4 ∧ 0 ≤ σ 5007 (4 * p + 3) ∧ σ 5007 (4 * p + 3) ≤ 9 ∧ Q (0, fsum (mfe σ p) (mMi σ p)) σ)
theorem w_X12_sumOf_e (p : Int) (σ : Mem) (Q : AV → Mem → Prop) : w_X12_sumOf [(28, 5000), (0, p)] σ Q = (0 ≤ p ∧ p < 4 ∧ 0 ≤ σ 5007 (4 * p + 3) ∧ σ 5007 (4 * p + 3) ≤ 9 ∧ Q (0, fsum (mfe σ p) (mMi σ p)) σ) := by
  apply propext; constructor
  · rintro ⟨p', h9, hb9⟩; cases h9; exact hb9
  · intro hb9; exact ⟨p, rfl, hb9⟩

set_option maxRecDepth 100000 in
set_option maxHeartbeats 4000000 in
theorem s_X12_sumOf : ∀ av σ Q, w_X12_sumOf av σ Q → amCall 1 0 0 TT yX12_sumOf cX12_sumOf 4 (some .int) av σ Q := by
  rintro av σ Q ⟨p, rfl, p0, p1, m0, m1, h⟩
  refine am_m [4] (inv_smo σ p) (own := RX12) (A := look a_X12_sumOf) (fun X e1 e2 hB => o_X12_sumOf e1 e2 hB) rfl (by decide +kernel) rfl rfl ?_ ⟨60, ?_⟩ (w := 4)
  · rintro n pc ls st σ' ⟨rfl, rfl, rfl, k, rfl, hn⟩
    unfold mMi at hn h
    refine ⟨60, ?_⟩
    by_cases cc : (k : Int) < σ' 5007 (4 * p + 3)
    · have i9 : ∃ k', k' < n ∧ inv_smo σ' p k' 4 [(28, 5000), (0, p), (0, fsum (mfe σ' p) k + σ' 5007 (4 * p + (k : Int) % 3)), (0, (k : Int) + 1)] [] σ' := ⟨n - 1, by omega, rfl, rfl, rfl, k + 1, rfl, by unfold mMi; omega⟩
      simp only [↓reduceIte, inR_0, inR_1, inR_m, vSw2_e, swP_n, swP_c, vI_e, vL_e, vNull_e, vIload_e, vLload_e, vAload_e, vIstore_e, vLstore_e, vAstore_e, vIinc_e, vIadd_e, vIsub_e, vImul_e, vIand_e, vIor_e, vIxor_e, vIshl_e, vIshr_e, vIushr_e, vIdiv_e, vIrem_e, vLadd_e, vLsub_e, vLmul_e, vLand_e, vLor_e, vLxor_e, vLdiv_e, vLrem_e, vLushr_e, vLshl_e, vLcmp_e, vIneg_e, vI2l_e, vL2i_e, vI2b_e, vI2c_e, vDup_e, vPop_e, vDup2_e, vGoto_e, vIcEq_e, vIfEq_e, vIcNe_e, vIfNe_e, vIcLt_e, vIfLt_e, vIcGe_e, vIfGe_e, vIcGt_e, vIfGt_e, vIcLe_e, vIfLe_e, vNonnull_e, vSw_e, vGetI_e, vGetL_e, vGetR_e, vPutI_e, vPutZ_e, vPutL_e, vPutR_e, vIald_e, vIald_s, vLald_e, vBald_e, vBald_s, vAald_e, vIast_e, vLast_e, vBast_e, vAast_e, vAlen_e8, vAlen_e9, vAlen_e10, vAlen_e11, vAlen_e5, vAlen_e3, vGets_e, vCompact_e, vLdcS_e, vIret_e, vZret_e, vCret_e, vBret_e, vLret_e, vVret_e, vAret_e, vCallM_e0, vCallMV_e0, vCallS_e0, vCallSV_e0, vCallM_e1, vCallMV_e1, vCallS_e1, vCallSV_e1, vCallM_e2, vCallMV_e2, vCallS_e2, vCallSV_e2, vCallM_e3, vCallMV_e3, vCallS_e3, vCallSV_e3, vCallM_e4, vCallMV_e4, vCallS_e4, vCallSV_e4, vCallM_e5, vCallMV_e5, vCallS_e5, vCallSV_e5, vCallM_e6, vCallMV_e6, vCallS_e6, vCallSV_e6, vCallM_e7, vCallMV_e7, vCallS_e7, vCallSV_e7, vBad_e, vStrVal_e, vStrCod_e, vForm_e, vCallT_e0, vCallT_e1, vCallT_e2, vCopy_e, rf_0_0, rf_0_1, rf_0_2, rf_0_3, rf_0_4, rf_0_7, rf_0_10, rf_0_11, rf_0_12, rf_0_13, rf_0_14, rf_0_15, rf_0_16, rf_1_0, rf_3_0, rf_3_1, rf_6_0, rf_6_1, rf_9_0, rf_9_1, rf_9_3, rf_13_0, rf_13_1, rf_13_2, rf_16_0, rf_16_1, rf_16_2, rf_16_3, rf_21_0, rf_21_1, rf_21_2, rf_21_3, rf_26_0, rf_26_1, rf_26_2, rf_26_3, rf_26_4, rf_26_5, rf_26_6, rf_31_0, rf_31_2, rf_31_5, rf_31_6, rf_36_0, rf_36_1, rf_36_2, rf_36_3, rf_39_0, rf_39_1, rf_39_2, rf_41_0, rf_41_1, rf_41_2, rf_41_3, rf_5000_1, rf_5000_2, rf_5000_3, rf_5000_4, rf_5000_5, rf_5000_15, rf_5000_16, rf_5000_18, rf_5000_19, rf_5000_20, rf_5000_21, rf_5000_22, rf_5000_23, rf_5000_24, rf_5000_25, rf_5000_26, rf_5000_27, rf_5000_36, rf_5000_37, rf_5000_40, rf_5000_41, rf_5000_42, rf_5000_43, rf_5000_44, rf_5000_45, rf_5000_47, rf_5000_52, rf_5000_54, rf_5000_55, rf_100_0, rf_100_1, rf_103_0, rf_103_1, rf_106_0, rf_106_1, rf_109_0, rf_109_1, al_2, al_4, al_5, al_7, al_8, al_10, al_11, al_12, al_14, al_15, al_17, al_18, al_19, al_20, al_22, al_23, al_24, al_25, al_27, al_28, al_29, al_30, al_32, al_33, al_34, al_35, al_37, al_38, al_40, al_42, al_5001, al_5002, al_5003, al_5004, al_5005, al_5006, al_5007, al_5008, al_5009, al_5010, al_5011, al_5012, al_5013, al_5014, al_5015, al_5016, al_5017, al_5018, al_5019, al_5020, al_5021, al_5022, al_5023, al_5024, al_5025, al_5026, al_9000, al_101, al_102, al_104, al_105, al_107, al_108, al_110, al_111, vcs_e, lg_c0, lg_cs, lg_nil, set_c0, set_cs, okst_0, okst_s, acok_n, acok_c, List.contains_nil, List.contains_cons, Bool.or_false, Bool.false_or, Bool.false_eq_true, if_false, if_true, ite_self, ne_eq, true_and, and_true, not_false_eq_true, not_true_eq_false, false_imp_iff, true_imp_iff, Nat.ble_eq, Bool.and_eq_true, reduceCtorEq, or_false, false_or, or_true, true_or, false_and, and_false, and_self, Int.reduceLE, Int.reduceAdd, Int.reduceSub, Int.reduceMul, Int.reduceNeg, Int.reduceLT, Int.reduceEq, Int.reduceNe, Nat.reduceBEq, Nat.reduceBNe, Nat.reduceEqDiff, amCmp_in, amCmp_lt, amCmp_le, amCmp_gt, amCmp_ge, amCmp_eq, amCmp_ne, Nat.reduceLeDiff, Nat.reduceSub, Bool.and_true, Bool.true_and, Bool.and_self, Bool.or_true, Bool.true_or, isRf_3, isRf_4, isRf_5, isRf_8, isRf_9, isRf_10, isRf_11, isRf_15, isRf_16, isRf_17, isRf_18, isRf_19, isRf_20, isRf_21, isRf_22, isRf_23, isRf_24, isRf_25, isRf_26, isRf_27, isRf_28, k_X12_sumOf_0, k_X12_sumOf_1, k_X12_sumOf_2, k_X12_sumOf_3, k_X12_sumOf_4, k_X12_sumOf_5, k_X12_sumOf_6, k_X12_sumOf_7, k_X12_sumOf_10, k_X12_sumOf_13, k_X12_sumOf_14, k_X12_sumOf_15, k_X12_sumOf_16, k_X12_sumOf_17, k_X12_sumOf_20, k_X12_sumOf_21, k_X12_sumOf_22, k_X12_sumOf_25, k_X12_sumOf_28, k_X12_sumOf_29, w_X12_feeling_e, w_X12_minutes_e]
      repeat' (first | apply And.intro | intro _)
      all_goals first | omega | exact absurd trivial (by assumption) | exact i9
    · rw [show (σ' 5007 (4 * p + 3)).toNat = k by omega] at h
      simp only [↓reduceIte, inR_0, inR_1, inR_m, vSw2_e, swP_n, swP_c, vI_e, vL_e, vNull_e, vIload_e, vLload_e, vAload_e, vIstore_e, vLstore_e, vAstore_e, vIinc_e, vIadd_e, vIsub_e, vImul_e, vIand_e, vIor_e, vIxor_e, vIshl_e, vIshr_e, vIushr_e, vIdiv_e, vIrem_e, vLadd_e, vLsub_e, vLmul_e, vLand_e, vLor_e, vLxor_e, vLdiv_e, vLrem_e, vLushr_e, vLshl_e, vLcmp_e, vIneg_e, vI2l_e, vL2i_e, vI2b_e, vI2c_e, vDup_e, vPop_e, vDup2_e, vGoto_e, vIcEq_e, vIfEq_e, vIcNe_e, vIfNe_e, vIcLt_e, vIfLt_e, vIcGe_e, vIfGe_e, vIcGt_e, vIfGt_e, vIcLe_e, vIfLe_e, vNonnull_e, vSw_e, vGetI_e, vGetL_e, vGetR_e, vPutI_e, vPutZ_e, vPutL_e, vPutR_e, vIald_e, vIald_s, vLald_e, vBald_e, vBald_s, vAald_e, vIast_e, vLast_e, vBast_e, vAast_e, vAlen_e8, vAlen_e9, vAlen_e10, vAlen_e11, vAlen_e5, vAlen_e3, vGets_e, vCompact_e, vLdcS_e, vIret_e, vZret_e, vCret_e, vBret_e, vLret_e, vVret_e, vAret_e, vCallM_e0, vCallMV_e0, vCallS_e0, vCallSV_e0, vCallM_e1, vCallMV_e1, vCallS_e1, vCallSV_e1, vCallM_e2, vCallMV_e2, vCallS_e2, vCallSV_e2, vCallM_e3, vCallMV_e3, vCallS_e3, vCallSV_e3, vCallM_e4, vCallMV_e4, vCallS_e4, vCallSV_e4, vCallM_e5, vCallMV_e5, vCallS_e5, vCallSV_e5, vCallM_e6, vCallMV_e6, vCallS_e6, vCallSV_e6, vCallM_e7, vCallMV_e7, vCallS_e7, vCallSV_e7, vBad_e, vStrVal_e, vStrCod_e, vForm_e, vCallT_e0, vCallT_e1, vCallT_e2, vCopy_e, rf_0_0, rf_0_1, rf_0_2, rf_0_3, rf_0_4, rf_0_7, rf_0_10, rf_0_11, rf_0_12, rf_0_13, rf_0_14, rf_0_15, rf_0_16, rf_1_0, rf_3_0, rf_3_1, rf_6_0, rf_6_1, rf_9_0, rf_9_1, rf_9_3, rf_13_0, rf_13_1, rf_13_2, rf_16_0, rf_16_1, rf_16_2, rf_16_3, rf_21_0, rf_21_1, rf_21_2, rf_21_3, rf_26_0, rf_26_1, rf_26_2, rf_26_3, rf_26_4, rf_26_5, rf_26_6, rf_31_0, rf_31_2, rf_31_5, rf_31_6, rf_36_0, rf_36_1, rf_36_2, rf_36_3, rf_39_0, rf_39_1, rf_39_2, rf_41_0, rf_41_1, rf_41_2, rf_41_3, rf_5000_1, rf_5000_2, rf_5000_3, rf_5000_4, rf_5000_5, rf_5000_15, rf_5000_16, rf_5000_18, rf_5000_19, rf_5000_20, rf_5000_21, rf_5000_22, rf_5000_23, rf_5000_24, rf_5000_25, rf_5000_26, rf_5000_27, rf_5000_36, rf_5000_37, rf_5000_40, rf_5000_41, rf_5000_42, rf_5000_43, rf_5000_44, rf_5000_45, rf_5000_47, rf_5000_52, rf_5000_54, rf_5000_55, rf_100_0, rf_100_1, rf_103_0, rf_103_1, rf_106_0, rf_106_1, rf_109_0, rf_109_1, al_2, al_4, al_5, al_7, al_8, al_10, al_11, al_12, al_14, al_15, al_17, al_18, al_19, al_20, al_22, al_23, al_24, al_25, al_27, al_28, al_29, al_30, al_32, al_33, al_34, al_35, al_37, al_38, al_40, al_42, al_5001, al_5002, al_5003, al_5004, al_5005, al_5006, al_5007, al_5008, al_5009, al_5010, al_5011, al_5012, al_5013, al_5014, al_5015, al_5016, al_5017, al_5018, al_5019, al_5020, al_5021, al_5022, al_5023, al_5024, al_5025, al_5026, al_9000, al_101, al_102, al_104, al_105, al_107, al_108, al_110, al_111, vcs_e, lg_c0, lg_cs, lg_nil, set_c0, set_cs, okst_0, okst_s, acok_n, acok_c, List.contains_nil, List.contains_cons, Bool.or_false, Bool.false_or, Bool.false_eq_true, if_false, if_true, ite_self, ne_eq, true_and, and_true, not_false_eq_true, not_true_eq_false, false_imp_iff, true_imp_iff, Nat.ble_eq, Bool.and_eq_true, reduceCtorEq, or_false, false_or, or_true, true_or, false_and, and_false, and_self, Int.reduceLE, Int.reduceAdd, Int.reduceSub, Int.reduceMul, Int.reduceNeg, Int.reduceLT, Int.reduceEq, Int.reduceNe, Nat.reduceBEq, Nat.reduceBNe, Nat.reduceEqDiff, amCmp_in, amCmp_lt, amCmp_le, amCmp_gt, amCmp_ge, amCmp_eq, amCmp_ne, Nat.reduceLeDiff, Nat.reduceSub, Bool.and_true, Bool.true_and, Bool.and_self, Bool.or_true, Bool.true_or, isRf_3, isRf_4, isRf_5, isRf_8, isRf_9, isRf_10, isRf_11, isRf_15, isRf_16, isRf_17, isRf_18, isRf_19, isRf_20, isRf_21, isRf_22, isRf_23, isRf_24, isRf_25, isRf_26, isRf_27, isRf_28, k_X12_sumOf_0, k_X12_sumOf_1, k_X12_sumOf_2, k_X12_sumOf_3, k_X12_sumOf_4, k_X12_sumOf_5, k_X12_sumOf_6, k_X12_sumOf_7, k_X12_sumOf_10, k_X12_sumOf_13, k_X12_sumOf_14, k_X12_sumOf_15, k_X12_sumOf_16, k_X12_sumOf_17, k_X12_sumOf_20, k_X12_sumOf_21, k_X12_sumOf_22, k_X12_sumOf_25, k_X12_sumOf_28, k_X12_sumOf_29, w_X12_feeling_e, w_X12_minutes_e]
      repeat' (first | apply And.intro | intro _)
      all_goals first | omega | exact absurd trivial (by assumption) | exact h
  · change vcs _ _ _ _ 60 0 [(28, 5000), (0, p), (6, 0), (6, 0)] [] σ
    simp only [↓reduceIte, inR_0, inR_1, inR_m, vSw2_e, swP_n, swP_c, vI_e, vL_e, vNull_e, vIload_e, vLload_e, vAload_e, vIstore_e, vLstore_e, vAstore_e, vIinc_e, vIadd_e, vIsub_e, vImul_e, vIand_e, vIor_e, vIxor_e, vIshl_e, vIshr_e, vIushr_e, vIdiv_e, vIrem_e, vLadd_e, vLsub_e, vLmul_e, vLand_e, vLor_e, vLxor_e, vLdiv_e, vLrem_e, vLushr_e, vLshl_e, vLcmp_e, vIneg_e, vI2l_e, vL2i_e, vI2b_e, vI2c_e, vDup_e, vPop_e, vDup2_e, vGoto_e, vIcEq_e, vIfEq_e, vIcNe_e, vIfNe_e, vIcLt_e, vIfLt_e, vIcGe_e, vIfGe_e, vIcGt_e, vIfGt_e, vIcLe_e, vIfLe_e, vNonnull_e, vSw_e, vGetI_e, vGetL_e, vGetR_e, vPutI_e, vPutZ_e, vPutL_e, vPutR_e, vIald_e, vIald_s, vLald_e, vBald_e, vBald_s, vAald_e, vIast_e, vLast_e, vBast_e, vAast_e, vAlen_e8, vAlen_e9, vAlen_e10, vAlen_e11, vAlen_e5, vAlen_e3, vGets_e, vCompact_e, vLdcS_e, vIret_e, vZret_e, vCret_e, vBret_e, vLret_e, vVret_e, vAret_e, vCallM_e0, vCallMV_e0, vCallS_e0, vCallSV_e0, vCallM_e1, vCallMV_e1, vCallS_e1, vCallSV_e1, vCallM_e2, vCallMV_e2, vCallS_e2, vCallSV_e2, vCallM_e3, vCallMV_e3, vCallS_e3, vCallSV_e3, vCallM_e4, vCallMV_e4, vCallS_e4, vCallSV_e4, vCallM_e5, vCallMV_e5, vCallS_e5, vCallSV_e5, vCallM_e6, vCallMV_e6, vCallS_e6, vCallSV_e6, vCallM_e7, vCallMV_e7, vCallS_e7, vCallSV_e7, vBad_e, vStrVal_e, vStrCod_e, vForm_e, vCallT_e0, vCallT_e1, vCallT_e2, vCopy_e, rf_0_0, rf_0_1, rf_0_2, rf_0_3, rf_0_4, rf_0_7, rf_0_10, rf_0_11, rf_0_12, rf_0_13, rf_0_14, rf_0_15, rf_0_16, rf_1_0, rf_3_0, rf_3_1, rf_6_0, rf_6_1, rf_9_0, rf_9_1, rf_9_3, rf_13_0, rf_13_1, rf_13_2, rf_16_0, rf_16_1, rf_16_2, rf_16_3, rf_21_0, rf_21_1, rf_21_2, rf_21_3, rf_26_0, rf_26_1, rf_26_2, rf_26_3, rf_26_4, rf_26_5, rf_26_6, rf_31_0, rf_31_2, rf_31_5, rf_31_6, rf_36_0, rf_36_1, rf_36_2, rf_36_3, rf_39_0, rf_39_1, rf_39_2, rf_41_0, rf_41_1, rf_41_2, rf_41_3, rf_5000_1, rf_5000_2, rf_5000_3, rf_5000_4, rf_5000_5, rf_5000_15, rf_5000_16, rf_5000_18, rf_5000_19, rf_5000_20, rf_5000_21, rf_5000_22, rf_5000_23, rf_5000_24, rf_5000_25, rf_5000_26, rf_5000_27, rf_5000_36, rf_5000_37, rf_5000_40, rf_5000_41, rf_5000_42, rf_5000_43, rf_5000_44, rf_5000_45, rf_5000_47, rf_5000_52, rf_5000_54, rf_5000_55, rf_100_0, rf_100_1, rf_103_0, rf_103_1, rf_106_0, rf_106_1, rf_109_0, rf_109_1, al_2, al_4, al_5, al_7, al_8, al_10, al_11, al_12, al_14, al_15, al_17, al_18, al_19, al_20, al_22, al_23, al_24, al_25, al_27, al_28, al_29, al_30, al_32, al_33, al_34, al_35, al_37, al_38, al_40, al_42, al_5001, al_5002, al_5003, al_5004, al_5005, al_5006, al_5007, al_5008, al_5009, al_5010, al_5011, al_5012, al_5013, al_5014, al_5015, al_5016, al_5017, al_5018, al_5019, al_5020, al_5021, al_5022, al_5023, al_5024, al_5025, al_5026, al_9000, al_101, al_102, al_104, al_105, al_107, al_108, al_110, al_111, vcs_e, lg_c0, lg_cs, lg_nil, set_c0, set_cs, okst_0, okst_s, acok_n, acok_c, List.contains_nil, List.contains_cons, Bool.or_false, Bool.false_or, Bool.false_eq_true, if_false, if_true, ite_self, ne_eq, true_and, and_true, not_false_eq_true, not_true_eq_false, false_imp_iff, true_imp_iff, Nat.ble_eq, Bool.and_eq_true, reduceCtorEq, or_false, false_or, or_true, true_or, false_and, and_false, and_self, Int.reduceLE, Int.reduceAdd, Int.reduceSub, Int.reduceMul, Int.reduceNeg, Int.reduceLT, Int.reduceEq, Int.reduceNe, Nat.reduceBEq, Nat.reduceBNe, Nat.reduceEqDiff, amCmp_in, amCmp_lt, amCmp_le, amCmp_gt, amCmp_ge, amCmp_eq, amCmp_ne, Nat.reduceLeDiff, Nat.reduceSub, Bool.and_true, Bool.true_and, Bool.and_self, Bool.or_true, Bool.true_or, isRf_3, isRf_4, isRf_5, isRf_8, isRf_9, isRf_10, isRf_11, isRf_15, isRf_16, isRf_17, isRf_18, isRf_19, isRf_20, isRf_21, isRf_22, isRf_23, isRf_24, isRf_25, isRf_26, isRf_27, isRf_28, k_X12_sumOf_0, k_X12_sumOf_1, k_X12_sumOf_2, k_X12_sumOf_3, k_X12_sumOf_4, k_X12_sumOf_5, k_X12_sumOf_6, k_X12_sumOf_7, k_X12_sumOf_10, k_X12_sumOf_13, k_X12_sumOf_14, k_X12_sumOf_15, k_X12_sumOf_16, k_X12_sumOf_17, k_X12_sumOf_20, k_X12_sumOf_21, k_X12_sumOf_22, k_X12_sumOf_25, k_X12_sumOf_28, k_X12_sumOf_29]
    exact ⟨mMi σ p, rfl, rfl, rfl, 0, rfl, by omega⟩
def a_X12_greatest : AC := [(0, vI 0 1), (1, vIstore 2 2), (2, vI 1 3), (3, vIstore 3 4), (4, vIload 3 5), (5, vAload 0 6), (6, vGetI 28 29 9), (9, vIcGe 47 12), (12, vAload 0 13), (13, vGetR TT 28 36 8 16), (16, vI 4 17), (17, vIload 3 18), (18, vImul 19), (19, vIload 1 20), (20, vIadd 21), (21, vIald TT 22), (22, vAload 0 23), (23, vGetR TT 28 36 8 26), (26, vI 4 27), (27, vIload 2 28), (28, vImul 29), (29, vIload 1 30), (30, vIadd 31), (31, vIald TT 32), (32, vIcLe 39 35), (35, vIload 3 36), (36, vGoto 40), (39, vIload 2 40), (40, vIstore 2 41), (41, vIinc 3 1 44), (44, vGoto 4), (47, vIload 2 48), (48, vIret)]
theorem k_X12_greatest_0 : look a_X12_greatest 0 = vI 0 1 := rfl
theorem k_X12_greatest_1 : look a_X12_greatest 1 = vIstore 2 2 := rfl
theorem k_X12_greatest_2 : look a_X12_greatest 2 = vI 1 3 := rfl
theorem k_X12_greatest_3 : look a_X12_greatest 3 = vIstore 3 4 := rfl
theorem k_X12_greatest_4 : look a_X12_greatest 4 = vIload 3 5 := rfl
theorem k_X12_greatest_5 : look a_X12_greatest 5 = vAload 0 6 := rfl
theorem k_X12_greatest_6 : look a_X12_greatest 6 = vGetI 28 29 9 := rfl
theorem k_X12_greatest_9 : look a_X12_greatest 9 = vIcGe 47 12 := rfl
theorem k_X12_greatest_12 : look a_X12_greatest 12 = vAload 0 13 := rfl
theorem k_X12_greatest_13 : look a_X12_greatest 13 = vGetR TT 28 36 8 16 := rfl
theorem k_X12_greatest_16 : look a_X12_greatest 16 = vI 4 17 := rfl
theorem k_X12_greatest_17 : look a_X12_greatest 17 = vIload 3 18 := rfl
theorem k_X12_greatest_18 : look a_X12_greatest 18 = vImul 19 := rfl
theorem k_X12_greatest_19 : look a_X12_greatest 19 = vIload 1 20 := rfl
theorem k_X12_greatest_20 : look a_X12_greatest 20 = vIadd 21 := rfl
theorem k_X12_greatest_21 : look a_X12_greatest 21 = vIald TT 22 := rfl
theorem k_X12_greatest_22 : look a_X12_greatest 22 = vAload 0 23 := rfl
theorem k_X12_greatest_23 : look a_X12_greatest 23 = vGetR TT 28 36 8 26 := rfl
theorem k_X12_greatest_26 : look a_X12_greatest 26 = vI 4 27 := rfl
theorem k_X12_greatest_27 : look a_X12_greatest 27 = vIload 2 28 := rfl
theorem k_X12_greatest_28 : look a_X12_greatest 28 = vImul 29 := rfl
theorem k_X12_greatest_29 : look a_X12_greatest 29 = vIload 1 30 := rfl
theorem k_X12_greatest_30 : look a_X12_greatest 30 = vIadd 31 := rfl
theorem k_X12_greatest_31 : look a_X12_greatest 31 = vIald TT 32 := rfl
theorem k_X12_greatest_32 : look a_X12_greatest 32 = vIcLe 39 35 := rfl
theorem k_X12_greatest_35 : look a_X12_greatest 35 = vIload 3 36 := rfl
theorem k_X12_greatest_36 : look a_X12_greatest 36 = vGoto 40 := rfl
theorem k_X12_greatest_39 : look a_X12_greatest 39 = vIload 2 40 := rfl
theorem k_X12_greatest_40 : look a_X12_greatest 40 = vIstore 2 41 := rfl
theorem k_X12_greatest_41 : look a_X12_greatest 41 = vIinc 3 1 44 := rfl
theorem k_X12_greatest_44 : look a_X12_greatest 44 = vGoto 4 := rfl
theorem k_X12_greatest_47 : look a_X12_greatest 47 = vIload 2 48 := rfl
theorem k_X12_greatest_48 : look a_X12_greatest 48 = vIret := rfl
theorem o_X12_greatest {X : amX} (e1 : XT X = TT) (e2 : XD X = 0) (hB : amB X RX12 cX12_greatest (some .int) 4) : ∀ pc, amOK X pc (look a_X12_greatest pc) := by
  have hT : amTok (XT X) := e1 ▸ TT_ok
  refine look_ok ?_
  unfold a_X12_greatest
  refine fc (ok_iconst hB dX12_greatest_0) ?_
  refine fc (ok_istore_n hB (by decide) dX12_greatest_1) ?_
  refine fc (ok_iconst hB dX12_greatest_2) ?_
  refine fc (ok_istore_n hB (by decide) dX12_greatest_3) ?_
  refine fc (ok_iload_n hB dX12_greatest_4) ?_
  refine fc (ok_aload_n hB dX12_greatest_5) ?_
  refine fc (ok_getI hB hT fl_X12_317 rfl rfl (Or.inl af_12_29) dX12_greatest_6) ?_
  refine fc (ok_icmp_ge hB (t := 47) (by decide) dX12_greatest_9) ?_
  refine fc (ok_aload_n hB dX12_greatest_12) ?_
  refine fc (okt_getR e1 hB hT fl_X12_67 rfl af_12_36 at_12_36 (by decide) dX12_greatest_13) ?_
  refine fc (ok_iconst hB dX12_greatest_16) ?_
  refine fc (ok_iload_n hB dX12_greatest_17) ?_
  refine fc (ok_imul hB dX12_greatest_18) ?_
  refine fc (ok_iload_n hB dX12_greatest_19) ?_
  refine fc (ok_iadd hB dX12_greatest_20) ?_
  refine fc (okt_iaload e1 hB dX12_greatest_21) ?_
  refine fc (ok_aload_n hB dX12_greatest_22) ?_
  refine fc (okt_getR e1 hB hT fl_X12_67 rfl af_12_36 at_12_36 (by decide) dX12_greatest_23) ?_
  refine fc (ok_iconst hB dX12_greatest_26) ?_
  refine fc (ok_iload_n hB dX12_greatest_27) ?_
  refine fc (ok_imul hB dX12_greatest_28) ?_
  refine fc (ok_iload_n hB dX12_greatest_29) ?_
  refine fc (ok_iadd hB dX12_greatest_30) ?_
  refine fc (okt_iaload e1 hB dX12_greatest_31) ?_
  refine fc (ok_icmp_le hB (t := 39) (by decide) dX12_greatest_32) ?_
  refine fc (ok_iload_n hB dX12_greatest_35) ?_
  refine fc (ok_goto hB (t := 40) (by decide) dX12_greatest_36) ?_
  refine fc (ok_iload_n hB dX12_greatest_39) ?_
  refine fc (ok_istore_n hB (by decide) dX12_greatest_40) ?_
  refine fc (ok_iinc hB (by decide) dX12_greatest_41) ?_
  refine fc (ok_goto hB (t := 4) (by decide) dX12_greatest_44) ?_
  refine fc (ok_iload_n hB dX12_greatest_47) ?_
  refine fc (ok_iret hB dX12_greatest_48) ?_
  exact fn
def inv_grt (σ : Mem) (w : Int) (n pc : Nat) (ls st : List AV) (σ' : Mem) : Prop := pc = 4 ∧ st = [] ∧ σ' = σ ∧ ∃ k : Nat, ls = [(28, 5000), (0, w), (0, fbest (fun c => σ 5015 (4 * c + w)) k), (0, (k : Int))] ∧ 1 ≤ k ∧ (k : Int) + n = max 1 (σ 5000 29)
def w_X12_greatest : WP := fun av σ Q => ∃ (w : Int), av = [(28, 5000), (0, w)] ∧ (0 ≤ w ∧ w ≤ 3 ∧ 0 ≤ σ 5000 29 ∧ σ 5000 29 ≤ 6 ∧ (∀ c, 0 ≤ c → c < σ 5000 29 → InR (σ 5015 (4 * c + w))) ∧ Q (0, fbest (fun c => σ 5015 (4 * c + w)) (max 1 (σ 5000 29)).toNat) σ)
theorem w_X12_greatest_e (w : Int) (σ : Mem) (Q : AV → Mem → Prop) : w_X12_greatest [(28, 5000), (0, w)] σ Q = (0 ≤ w ∧ w ≤ 3 ∧ 0 ≤ σ 5000 29 ∧ σ 5000 29 ≤ 6 ∧ (∀ c, 0 ≤ c → c < σ 5000 29 → InR (σ 5015 (4 * c + w))) ∧ Q (0, fbest (fun c => σ 5015 (4 * c + w)) (max 1 (σ 5000 29)).toNat) σ) := by
  apply propext; constructor
  · rintro ⟨w', h9, hb9⟩; cases h9; exact hb9
  · intro hb9; exact ⟨w, rfl, hb9⟩

set_option maxRecDepth 100000 in
set_option maxHeartbeats 4000000 in
theorem s_X12_greatest : ∀ av σ Q, w_X12_greatest av σ Q → amCall 0 0 0 TT yX12_greatest cX12_greatest 4 (some .int) av σ Q := by
  rintro av σ Q ⟨w, rfl, w0, w1, c0, c1, hj, h⟩
  refine am_m [4] (inv_grt σ w) (own := RX12) (A := look a_X12_greatest) (fun X e1 e2 hB => o_X12_greatest e1 e2 hB) rfl (by decide +kernel) rfl rfl ?_ ⟨60, ?_⟩ (w := 4)
  · rintro n pc ls st σ' ⟨rfl, rfl, rfl, k, rfl, hk, hn⟩
    have fb := fbest_b (fun c => σ' 5015 (4 * c + w)) k
    have fs := fbest_s (fun c => σ' 5015 (4 * c + w)) k
    refine ⟨60, ?_⟩
    by_cases cc : (k : Int) < σ' 5000 29
    · have a1 := hj k (by omega) cc
      have fb2 : fbest (fun c => σ' 5015 (4 * c + w)) k < σ' 5000 29 := by omega
      have a2 := hj (fbest (fun c => σ' 5015 (4 * c + w)) k) fb.1 fb2
      have i9 : ∀ v, v = fbest (fun c => σ' 5015 (4 * c + w)) (k + 1) → ∃ k', k' < n ∧ inv_grt σ' w k' 4 [(28, 5000), (0, w), (0, v), (0, (k : Int) + 1)] [] σ' := fun v q => ⟨n - 1, by omega, rfl, rfl, rfl, k + 1, by rw [q]; rfl, by omega, by omega⟩
      generalize hB : fbest (fun c => σ' 5015 (4 * c + w)) k = B at *
      have i1 : ¬ σ' 5015 (4 * k + w) ≤ σ' 5015 (4 * B + w) → _ := fun q => i9 k (by rw [fs, if_pos (by omega)])
      have i2 : σ' 5015 (4 * k + w) ≤ σ' 5015 (4 * B + w) → _ := fun q => i9 B (by rw [fs, if_neg (by omega)])
      simp only [↓reduceIte, inR_0, inR_1, inR_m, vSw2_e, swP_n, swP_c, vI_e, vL_e, vNull_e, vIload_e, vLload_e, vAload_e, vIstore_e, vLstore_e, vAstore_e, vIinc_e, vIadd_e, vIsub_e, vImul_e, vIand_e, vIor_e, vIxor_e, vIshl_e, vIshr_e, vIushr_e, vIdiv_e, vIrem_e, vLadd_e, vLsub_e, vLmul_e, vLand_e, vLor_e, vLxor_e, vLdiv_e, vLrem_e, vLushr_e, vLshl_e, vLcmp_e, vIneg_e, vI2l_e, vL2i_e, vI2b_e, vI2c_e, vDup_e, vPop_e, vDup2_e, vGoto_e, vIcEq_e, vIfEq_e, vIcNe_e, vIfNe_e, vIcLt_e, vIfLt_e, vIcGe_e, vIfGe_e, vIcGt_e, vIfGt_e, vIcLe_e, vIfLe_e, vNonnull_e, vSw_e, vGetI_e, vGetL_e, vGetR_e, vPutI_e, vPutZ_e, vPutL_e, vPutR_e, vIald_e, vIald_s, vLald_e, vBald_e, vBald_s, vAald_e, vIast_e, vLast_e, vBast_e, vAast_e, vAlen_e8, vAlen_e9, vAlen_e10, vAlen_e11, vAlen_e5, vAlen_e3, vGets_e, vCompact_e, vLdcS_e, vIret_e, vZret_e, vCret_e, vBret_e, vLret_e, vVret_e, vAret_e, vCallM_e0, vCallMV_e0, vCallS_e0, vCallSV_e0, vCallM_e1, vCallMV_e1, vCallS_e1, vCallSV_e1, vCallM_e2, vCallMV_e2, vCallS_e2, vCallSV_e2, vCallM_e3, vCallMV_e3, vCallS_e3, vCallSV_e3, vCallM_e4, vCallMV_e4, vCallS_e4, vCallSV_e4, vCallM_e5, vCallMV_e5, vCallS_e5, vCallSV_e5, vCallM_e6, vCallMV_e6, vCallS_e6, vCallSV_e6, vCallM_e7, vCallMV_e7, vCallS_e7, vCallSV_e7, vBad_e, vStrVal_e, vStrCod_e, vForm_e, vCallT_e0, vCallT_e1, vCallT_e2, vCopy_e, rf_0_0, rf_0_1, rf_0_2, rf_0_3, rf_0_4, rf_0_7, rf_0_10, rf_0_11, rf_0_12, rf_0_13, rf_0_14, rf_0_15, rf_0_16, rf_1_0, rf_3_0, rf_3_1, rf_6_0, rf_6_1, rf_9_0, rf_9_1, rf_9_3, rf_13_0, rf_13_1, rf_13_2, rf_16_0, rf_16_1, rf_16_2, rf_16_3, rf_21_0, rf_21_1, rf_21_2, rf_21_3, rf_26_0, rf_26_1, rf_26_2, rf_26_3, rf_26_4, rf_26_5, rf_26_6, rf_31_0, rf_31_2, rf_31_5, rf_31_6, rf_36_0, rf_36_1, rf_36_2, rf_36_3, rf_39_0, rf_39_1, rf_39_2, rf_41_0, rf_41_1, rf_41_2, rf_41_3, rf_5000_1, rf_5000_2, rf_5000_3, rf_5000_4, rf_5000_5, rf_5000_15, rf_5000_16, rf_5000_18, rf_5000_19, rf_5000_20, rf_5000_21, rf_5000_22, rf_5000_23, rf_5000_24, rf_5000_25, rf_5000_26, rf_5000_27, rf_5000_36, rf_5000_37, rf_5000_40, rf_5000_41, rf_5000_42, rf_5000_43, rf_5000_44, rf_5000_45, rf_5000_47, rf_5000_52, rf_5000_54, rf_5000_55, rf_100_0, rf_100_1, rf_103_0, rf_103_1, rf_106_0, rf_106_1, rf_109_0, rf_109_1, al_2, al_4, al_5, al_7, al_8, al_10, al_11, al_12, al_14, al_15, al_17, al_18, al_19, al_20, al_22, al_23, al_24, al_25, al_27, al_28, al_29, al_30, al_32, al_33, al_34, al_35, al_37, al_38, al_40, al_42, al_5001, al_5002, al_5003, al_5004, al_5005, al_5006, al_5007, al_5008, al_5009, al_5010, al_5011, al_5012, al_5013, al_5014, al_5015, al_5016, al_5017, al_5018, al_5019, al_5020, al_5021, al_5022, al_5023, al_5024, al_5025, al_5026, al_9000, al_101, al_102, al_104, al_105, al_107, al_108, al_110, al_111, vcs_e, lg_c0, lg_cs, lg_nil, set_c0, set_cs, okst_0, okst_s, acok_n, acok_c, List.contains_nil, List.contains_cons, Bool.or_false, Bool.false_or, Bool.false_eq_true, if_false, if_true, ite_self, ne_eq, true_and, and_true, not_false_eq_true, not_true_eq_false, false_imp_iff, true_imp_iff, Nat.ble_eq, Bool.and_eq_true, reduceCtorEq, or_false, false_or, or_true, true_or, false_and, and_false, and_self, Int.reduceLE, Int.reduceAdd, Int.reduceSub, Int.reduceMul, Int.reduceNeg, Int.reduceLT, Int.reduceEq, Int.reduceNe, Nat.reduceBEq, Nat.reduceBNe, Nat.reduceEqDiff, amCmp_in, amCmp_lt, amCmp_le, amCmp_gt, amCmp_ge, amCmp_eq, amCmp_ne, Nat.reduceLeDiff, Nat.reduceSub, Bool.and_true, Bool.true_and, Bool.and_self, Bool.or_true, Bool.true_or, isRf_3, isRf_4, isRf_5, isRf_8, isRf_9, isRf_10, isRf_11, isRf_15, isRf_16, isRf_17, isRf_18, isRf_19, isRf_20, isRf_21, isRf_22, isRf_23, isRf_24, isRf_25, isRf_26, isRf_27, isRf_28, k_X12_greatest_0, k_X12_greatest_1, k_X12_greatest_2, k_X12_greatest_3, k_X12_greatest_4, k_X12_greatest_5, k_X12_greatest_6, k_X12_greatest_9, k_X12_greatest_12, k_X12_greatest_13, k_X12_greatest_16, k_X12_greatest_17, k_X12_greatest_18, k_X12_greatest_19, k_X12_greatest_20, k_X12_greatest_21, k_X12_greatest_22, k_X12_greatest_23, k_X12_greatest_26, k_X12_greatest_27, k_X12_greatest_28, k_X12_greatest_29, k_X12_greatest_30, k_X12_greatest_31, k_X12_greatest_32, k_X12_greatest_35, k_X12_greatest_36, k_X12_greatest_39, k_X12_greatest_40, k_X12_greatest_41, k_X12_greatest_44, k_X12_greatest_47, k_X12_greatest_48]
      repeat' (first | apply And.intro | intro _)
      all_goals first | omega | exact absurd trivial (by assumption) | exact i1 (by assumption) | exact i2 (by assumption)
    · rw [show (max 1 (σ' 5000 29)).toNat = k by omega] at h
      simp only [↓reduceIte, inR_0, inR_1, inR_m, vSw2_e, swP_n, swP_c, vI_e, vL_e, vNull_e, vIload_e, vLload_e, vAload_e, vIstore_e, vLstore_e, vAstore_e, vIinc_e, vIadd_e, vIsub_e, vImul_e, vIand_e, vIor_e, vIxor_e, vIshl_e, vIshr_e, vIushr_e, vIdiv_e, vIrem_e, vLadd_e, vLsub_e, vLmul_e, vLand_e, vLor_e, vLxor_e, vLdiv_e, vLrem_e, vLushr_e, vLshl_e, vLcmp_e, vIneg_e, vI2l_e, vL2i_e, vI2b_e, vI2c_e, vDup_e, vPop_e, vDup2_e, vGoto_e, vIcEq_e, vIfEq_e, vIcNe_e, vIfNe_e, vIcLt_e, vIfLt_e, vIcGe_e, vIfGe_e, vIcGt_e, vIfGt_e, vIcLe_e, vIfLe_e, vNonnull_e, vSw_e, vGetI_e, vGetL_e, vGetR_e, vPutI_e, vPutZ_e, vPutL_e, vPutR_e, vIald_e, vIald_s, vLald_e, vBald_e, vBald_s, vAald_e, vIast_e, vLast_e, vBast_e, vAast_e, vAlen_e8, vAlen_e9, vAlen_e10, vAlen_e11, vAlen_e5, vAlen_e3, vGets_e, vCompact_e, vLdcS_e, vIret_e, vZret_e, vCret_e, vBret_e, vLret_e, vVret_e, vAret_e, vCallM_e0, vCallMV_e0, vCallS_e0, vCallSV_e0, vCallM_e1, vCallMV_e1, vCallS_e1, vCallSV_e1, vCallM_e2, vCallMV_e2, vCallS_e2, vCallSV_e2, vCallM_e3, vCallMV_e3, vCallS_e3, vCallSV_e3, vCallM_e4, vCallMV_e4, vCallS_e4, vCallSV_e4, vCallM_e5, vCallMV_e5, vCallS_e5, vCallSV_e5, vCallM_e6, vCallMV_e6, vCallS_e6, vCallSV_e6, vCallM_e7, vCallMV_e7, vCallS_e7, vCallSV_e7, vBad_e, vStrVal_e, vStrCod_e, vForm_e, vCallT_e0, vCallT_e1, vCallT_e2, vCopy_e, rf_0_0, rf_0_1, rf_0_2, rf_0_3, rf_0_4, rf_0_7, rf_0_10, rf_0_11, rf_0_12, rf_0_13, rf_0_14, rf_0_15, rf_0_16, rf_1_0, rf_3_0, rf_3_1, rf_6_0, rf_6_1, rf_9_0, rf_9_1, rf_9_3, rf_13_0, rf_13_1, rf_13_2, rf_16_0, rf_16_1, rf_16_2, rf_16_3, rf_21_0, rf_21_1, rf_21_2, rf_21_3, rf_26_0, rf_26_1, rf_26_2, rf_26_3, rf_26_4, rf_26_5, rf_26_6, rf_31_0, rf_31_2, rf_31_5, rf_31_6, rf_36_0, rf_36_1, rf_36_2, rf_36_3, rf_39_0, rf_39_1, rf_39_2, rf_41_0, rf_41_1, rf_41_2, rf_41_3, rf_5000_1, rf_5000_2, rf_5000_3, rf_5000_4, rf_5000_5, rf_5000_15, rf_5000_16, rf_5000_18, rf_5000_19, rf_5000_20, rf_5000_21, rf_5000_22, rf_5000_23, rf_5000_24, rf_5000_25, rf_5000_26, rf_5000_27, rf_5000_36, rf_5000_37, rf_5000_40, rf_5000_41, rf_5000_42, rf_5000_43, rf_5000_44, rf_5000_45, rf_5000_47, rf_5000_52, rf_5000_54, rf_5000_55, rf_100_0, rf_100_1, rf_103_0, rf_103_1, rf_106_0, rf_106_1, rf_109_0, rf_109_1, al_2, al_4, al_5, al_7, al_8, al_10, al_11, al_12, al_14, al_15, al_17, al_18, al_19, al_20, al_22, al_23, al_24, al_25, al_27, al_28, al_29, al_30, al_32, al_33, al_34, al_35, al_37, al_38, al_40, al_42, al_5001, al_5002, al_5003, al_5004, al_5005, al_5006, al_5007, al_5008, al_5009, al_5010, al_5011, al_5012, al_5013, al_5014, al_5015, al_5016, al_5017, al_5018, al_5019, al_5020, al_5021, al_5022, al_5023, al_5024, al_5025, al_5026, al_9000, al_101, al_102, al_104, al_105, al_107, al_108, al_110, al_111, vcs_e, lg_c0, lg_cs, lg_nil, set_c0, set_cs, okst_0, okst_s, acok_n, acok_c, List.contains_nil, List.contains_cons, Bool.or_false, Bool.false_or, Bool.false_eq_true, if_false, if_true, ite_self, ne_eq, true_and, and_true, not_false_eq_true, not_true_eq_false, false_imp_iff, true_imp_iff, Nat.ble_eq, Bool.and_eq_true, reduceCtorEq, or_false, false_or, or_true, true_or, false_and, and_false, and_self, Int.reduceLE, Int.reduceAdd, Int.reduceSub, Int.reduceMul, Int.reduceNeg, Int.reduceLT, Int.reduceEq, Int.reduceNe, Nat.reduceBEq, Nat.reduceBNe, Nat.reduceEqDiff, amCmp_in, amCmp_lt, amCmp_le, amCmp_gt, amCmp_ge, amCmp_eq, amCmp_ne, Nat.reduceLeDiff, Nat.reduceSub, Bool.and_true, Bool.true_and, Bool.and_self, Bool.or_true, Bool.true_or, isRf_3, isRf_4, isRf_5, isRf_8, isRf_9, isRf_10, isRf_11, isRf_15, isRf_16, isRf_17, isRf_18, isRf_19, isRf_20, isRf_21, isRf_22, isRf_23, isRf_24, isRf_25, isRf_26, isRf_27, isRf_28, k_X12_greatest_0, k_X12_greatest_1, k_X12_greatest_2, k_X12_greatest_3, k_X12_greatest_4, k_X12_greatest_5, k_X12_greatest_6, k_X12_greatest_9, k_X12_greatest_12, k_X12_greatest_13, k_X12_greatest_16, k_X12_greatest_17, k_X12_greatest_18, k_X12_greatest_19, k_X12_greatest_20, k_X12_greatest_21, k_X12_greatest_22, k_X12_greatest_23, k_X12_greatest_26, k_X12_greatest_27, k_X12_greatest_28, k_X12_greatest_29, k_X12_greatest_30, k_X12_greatest_31, k_X12_greatest_32, k_X12_greatest_35, k_X12_greatest_36, k_X12_greatest_39, k_X12_greatest_40, k_X12_greatest_41, k_X12_greatest_44, k_X12_greatest_47, k_X12_greatest_48]
      repeat' (first | apply And.intro | intro _)
      all_goals first | omega | exact absurd trivial (by assumption) | exact h
  · change vcs _ _ _ _ 60 0 [(28, 5000), (0, w), (6, 0), (6, 0)] [] σ
    simp only [↓reduceIte, inR_0, inR_1, inR_m, vSw2_e, swP_n, swP_c, vI_e, vL_e, vNull_e, vIload_e, vLload_e, vAload_e, vIstore_e, vLstore_e, vAstore_e, vIinc_e, vIadd_e, vIsub_e, vImul_e, vIand_e, vIor_e, vIxor_e, vIshl_e, vIshr_e, vIushr_e, vIdiv_e, vIrem_e, vLadd_e, vLsub_e, vLmul_e, vLand_e, vLor_e, vLxor_e, vLdiv_e, vLrem_e, vLushr_e, vLshl_e, vLcmp_e, vIneg_e, vI2l_e, vL2i_e, vI2b_e, vI2c_e, vDup_e, vPop_e, vDup2_e, vGoto_e, vIcEq_e, vIfEq_e, vIcNe_e, vIfNe_e, vIcLt_e, vIfLt_e, vIcGe_e, vIfGe_e, vIcGt_e, vIfGt_e, vIcLe_e, vIfLe_e, vNonnull_e, vSw_e, vGetI_e, vGetL_e, vGetR_e, vPutI_e, vPutZ_e, vPutL_e, vPutR_e, vIald_e, vIald_s, vLald_e, vBald_e, vBald_s, vAald_e, vIast_e, vLast_e, vBast_e, vAast_e, vAlen_e8, vAlen_e9, vAlen_e10, vAlen_e11, vAlen_e5, vAlen_e3, vGets_e, vCompact_e, vLdcS_e, vIret_e, vZret_e, vCret_e, vBret_e, vLret_e, vVret_e, vAret_e, vCallM_e0, vCallMV_e0, vCallS_e0, vCallSV_e0, vCallM_e1, vCallMV_e1, vCallS_e1, vCallSV_e1, vCallM_e2, vCallMV_e2, vCallS_e2, vCallSV_e2, vCallM_e3, vCallMV_e3, vCallS_e3, vCallSV_e3, vCallM_e4, vCallMV_e4, vCallS_e4, vCallSV_e4, vCallM_e5, vCallMV_e5, vCallS_e5, vCallSV_e5, vCallM_e6, vCallMV_e6, vCallS_e6, vCallSV_e6, vCallM_e7, vCallMV_e7, vCallS_e7, vCallSV_e7, vBad_e, vStrVal_e, vStrCod_e, vForm_e, vCallT_e0, vCallT_e1, vCallT_e2, vCopy_e, rf_0_0, rf_0_1, rf_0_2, rf_0_3, rf_0_4, rf_0_7, rf_0_10, rf_0_11, rf_0_12, rf_0_13, rf_0_14, rf_0_15, rf_0_16, rf_1_0, rf_3_0, rf_3_1, rf_6_0, rf_6_1, rf_9_0, rf_9_1, rf_9_3, rf_13_0, rf_13_1, rf_13_2, rf_16_0, rf_16_1, rf_16_2, rf_16_3, rf_21_0, rf_21_1, rf_21_2, rf_21_3, rf_26_0, rf_26_1, rf_26_2, rf_26_3, rf_26_4, rf_26_5, rf_26_6, rf_31_0, rf_31_2, rf_31_5, rf_31_6, rf_36_0, rf_36_1, rf_36_2, rf_36_3, rf_39_0, rf_39_1, rf_39_2, rf_41_0, rf_41_1, rf_41_2, rf_41_3, rf_5000_1, rf_5000_2, rf_5000_3, rf_5000_4, rf_5000_5, rf_5000_15, rf_5000_16, rf_5000_18, rf_5000_19, rf_5000_20, rf_5000_21, rf_5000_22, rf_5000_23, rf_5000_24, rf_5000_25, rf_5000_26, rf_5000_27, rf_5000_36, rf_5000_37, rf_5000_40, rf_5000_41, rf_5000_42, rf_5000_43, rf_5000_44, rf_5000_45, rf_5000_47, rf_5000_52, rf_5000_54, rf_5000_55, rf_100_0, rf_100_1, rf_103_0, rf_103_1, rf_106_0, rf_106_1, rf_109_0, rf_109_1, al_2, al_4, al_5, al_7, al_8, al_10, al_11, al_12, al_14, al_15, al_17, al_18, al_19, al_20, al_22, al_23, al_24, al_25, al_27, al_28, al_29, al_30, al_32, al_33, al_34, al_35, al_37, al_38, al_40, al_42, al_5001, al_5002, al_5003, al_5004, al_5005, al_5006, al_5007, al_5008, al_5009, al_5010, al_5011, al_5012, al_5013, al_5014, al_5015, al_5016, al_5017, al_5018, al_5019, al_5020, al_5021, al_5022, al_5023, al_5024, al_5025, al_5026, al_9000, al_101, al_102, al_104, al_105, al_107, al_108, al_110, al_111, vcs_e, lg_c0, lg_cs, lg_nil, set_c0, set_cs, okst_0, okst_s, acok_n, acok_c, List.contains_nil, List.contains_cons, Bool.or_false, Bool.false_or, Bool.false_eq_true, if_false, if_true, ite_self, ne_eq, true_and, and_true, not_false_eq_true, not_true_eq_false, false_imp_iff, true_imp_iff, Nat.ble_eq, Bool.and_eq_true, reduceCtorEq, or_false, false_or, or_true, true_or, false_and, and_false, and_self, Int.reduceLE, Int.reduceAdd, Int.reduceSub, Int.reduceMul, Int.reduceNeg, Int.reduceLT, Int.reduceEq, Int.reduceNe, Nat.reduceBEq, Nat.reduceBNe, Nat.reduceEqDiff, amCmp_in, amCmp_lt, amCmp_le, amCmp_gt, amCmp_ge, amCmp_eq, amCmp_ne, Nat.reduceLeDiff, Nat.reduceSub, Bool.and_true, Bool.true_and, Bool.and_self, Bool.or_true, Bool.true_or, isRf_3, isRf_4, isRf_5, isRf_8, isRf_9, isRf_10, isRf_11, isRf_15, isRf_16, isRf_17, isRf_18, isRf_19, isRf_20, isRf_21, isRf_22, isRf_23, isRf_24, isRf_25, isRf_26, isRf_27, isRf_28, k_X12_greatest_0, k_X12_greatest_1, k_X12_greatest_2, k_X12_greatest_3, k_X12_greatest_4, k_X12_greatest_5, k_X12_greatest_6, k_X12_greatest_9, k_X12_greatest_12, k_X12_greatest_13, k_X12_greatest_16, k_X12_greatest_17, k_X12_greatest_18, k_X12_greatest_19, k_X12_greatest_20, k_X12_greatest_21, k_X12_greatest_22, k_X12_greatest_23, k_X12_greatest_26, k_X12_greatest_27, k_X12_greatest_28, k_X12_greatest_29, k_X12_greatest_30, k_X12_greatest_31, k_X12_greatest_32, k_X12_greatest_35, k_X12_greatest_36, k_X12_greatest_39, k_X12_greatest_40, k_X12_greatest_41, k_X12_greatest_44, k_X12_greatest_47, k_X12_greatest_48]
    exact ⟨(max 1 (σ 5000 29) - 1).toNat, rfl, rfl, rfl, 1, by rw [fbest_1]; rfl, by omega, by omega⟩
def a_X12_dullest : AC := [(0, vI 0 1), (1, vIstore 1 2), (2, vI 1 3), (3, vIstore 2 4), (4, vIload 2 5), (5, vAload 0 6), (6, vGetI 28 30 9), (9, vIcGe 39 12), (12, vAload 0 13), (13, vGetR TT 28 24 8 16), (16, vIload 2 17), (17, vIald TT 18), (18, vAload 0 19), (19, vGetR TT 28 24 8 22), (22, vIload 1 23), (23, vIald TT 24), (24, vIcLe 31 27), (27, vIload 2 28), (28, vGoto 32), (31, vIload 1 32), (32, vIstore 1 33), (33, vIinc 2 1 36), (36, vGoto 4), (39, vIload 1 40), (40, vIret)]
theorem k_X12_dullest_0 : look a_X12_dullest 0 = vI 0 1 := rfl
theorem k_X12_dullest_1 : look a_X12_dullest 1 = vIstore 1 2 := rfl
theorem k_X12_dullest_2 : look a_X12_dullest 2 = vI 1 3 := rfl
theorem k_X12_dullest_3 : look a_X12_dullest 3 = vIstore 2 4 := rfl
theorem k_X12_dullest_4 : look a_X12_dullest 4 = vIload 2 5 := rfl
theorem k_X12_dullest_5 : look a_X12_dullest 5 = vAload 0 6 := rfl
theorem k_X12_dullest_6 : look a_X12_dullest 6 = vGetI 28 30 9 := rfl
theorem k_X12_dullest_9 : look a_X12_dullest 9 = vIcGe 39 12 := rfl
theorem k_X12_dullest_12 : look a_X12_dullest 12 = vAload 0 13 := rfl
theorem k_X12_dullest_13 : look a_X12_dullest 13 = vGetR TT 28 24 8 16 := rfl
theorem k_X12_dullest_16 : look a_X12_dullest 16 = vIload 2 17 := rfl
theorem k_X12_dullest_17 : look a_X12_dullest 17 = vIald TT 18 := rfl
theorem k_X12_dullest_18 : look a_X12_dullest 18 = vAload 0 19 := rfl
theorem k_X12_dullest_19 : look a_X12_dullest 19 = vGetR TT 28 24 8 22 := rfl
theorem k_X12_dullest_22 : look a_X12_dullest 22 = vIload 1 23 := rfl
theorem k_X12_dullest_23 : look a_X12_dullest 23 = vIald TT 24 := rfl
theorem k_X12_dullest_24 : look a_X12_dullest 24 = vIcLe 31 27 := rfl
theorem k_X12_dullest_27 : look a_X12_dullest 27 = vIload 2 28 := rfl
theorem k_X12_dullest_28 : look a_X12_dullest 28 = vGoto 32 := rfl
theorem k_X12_dullest_31 : look a_X12_dullest 31 = vIload 1 32 := rfl
theorem k_X12_dullest_32 : look a_X12_dullest 32 = vIstore 1 33 := rfl
theorem k_X12_dullest_33 : look a_X12_dullest 33 = vIinc 2 1 36 := rfl
theorem k_X12_dullest_36 : look a_X12_dullest 36 = vGoto 4 := rfl
theorem k_X12_dullest_39 : look a_X12_dullest 39 = vIload 1 40 := rfl
theorem k_X12_dullest_40 : look a_X12_dullest 40 = vIret := rfl
theorem o_X12_dullest {X : amX} (e1 : XT X = TT) (e2 : XD X = 0) (hB : amB X RX12 cX12_dullest (some .int) 3) : ∀ pc, amOK X pc (look a_X12_dullest pc) := by
  have hT : amTok (XT X) := e1 ▸ TT_ok
  refine look_ok ?_
  unfold a_X12_dullest
  refine fc (ok_iconst hB dX12_dullest_0) ?_
  refine fc (ok_istore_n hB (by decide) dX12_dullest_1) ?_
  refine fc (ok_iconst hB dX12_dullest_2) ?_
  refine fc (ok_istore_n hB (by decide) dX12_dullest_3) ?_
  refine fc (ok_iload_n hB dX12_dullest_4) ?_
  refine fc (ok_aload_n hB dX12_dullest_5) ?_
  refine fc (ok_getI hB hT fl_X12_320 rfl rfl (Or.inl af_12_30) dX12_dullest_6) ?_
  refine fc (ok_icmp_ge hB (t := 39) (by decide) dX12_dullest_9) ?_
  refine fc (ok_aload_n hB dX12_dullest_12) ?_
  refine fc (okt_getR e1 hB hT fl_X12_55 rfl af_12_24 at_12_24 (by decide) dX12_dullest_13) ?_
  refine fc (ok_iload_n hB dX12_dullest_16) ?_
  refine fc (okt_iaload e1 hB dX12_dullest_17) ?_
  refine fc (ok_aload_n hB dX12_dullest_18) ?_
  refine fc (okt_getR e1 hB hT fl_X12_55 rfl af_12_24 at_12_24 (by decide) dX12_dullest_19) ?_
  refine fc (ok_iload_n hB dX12_dullest_22) ?_
  refine fc (okt_iaload e1 hB dX12_dullest_23) ?_
  refine fc (ok_icmp_le hB (t := 31) (by decide) dX12_dullest_24) ?_
  refine fc (ok_iload_n hB dX12_dullest_27) ?_
  refine fc (ok_goto hB (t := 32) (by decide) dX12_dullest_28) ?_
  refine fc (ok_iload_n hB dX12_dullest_31) ?_
  refine fc (ok_istore_n hB (by decide) dX12_dullest_32) ?_
  refine fc (ok_iinc hB (by decide) dX12_dullest_33) ?_
  refine fc (ok_goto hB (t := 4) (by decide) dX12_dullest_36) ?_
  refine fc (ok_iload_n hB dX12_dullest_39) ?_
  refine fc (ok_iret hB dX12_dullest_40) ?_
  exact fn
def inv_dulm (σ : Mem) (n pc : Nat) (ls st : List AV) (σ' : Mem) : Prop := pc = 4 ∧ st = [] ∧ σ' = σ ∧ ∃ k : Nat, ls = [(28, 5000), (0, fbest (σ 5011) k), (0, (k : Int))] ∧ 1 ≤ k ∧ (k : Int) + n = max 1 (σ 5000 30)
def w_X12_dullest : WP := fun av σ Q => av = [(28, 5000)] ∧ (0 ≤ σ 5000 30 ∧ σ 5000 30 ≤ 6 ∧ (∀ t, 0 ≤ t → t < σ 5000 30 → InR (σ 5011 t)) ∧ Q (0, fbest (σ 5011) (max 1 (σ 5000 30)).toNat) σ)
theorem w_X12_dullest_e  (σ : Mem) (Q : AV → Mem → Prop) : w_X12_dullest [(28, 5000)] σ Q = (0 ≤ σ 5000 30 ∧ σ 5000 30 ≤ 6 ∧ (∀ t, 0 ≤ t → t < σ 5000 30 → InR (σ 5011 t)) ∧ Q (0, fbest (σ 5011) (max 1 (σ 5000 30)).toNat) σ) := by
  apply propext; constructor
  · rintro ⟨h9, hb9⟩; cases h9; exact hb9
  · intro hb9; exact ⟨rfl, hb9⟩

set_option maxRecDepth 100000 in
set_option maxHeartbeats 4000000 in
theorem s_X12_dullest : ∀ av σ Q, w_X12_dullest av σ Q → amCall 0 0 0 TT yX12_dullest cX12_dullest 3 (some .int) av σ Q := by
  rintro av σ Q ⟨rfl, c0, c1, hj, h⟩
  refine am_m [4] (inv_dulm σ) (own := RX12) (A := look a_X12_dullest) (fun X e1 e2 hB => o_X12_dullest e1 e2 hB) rfl (by decide +kernel) rfl rfl ?_ ⟨60, ?_⟩ (w := 3)
  · rintro n pc ls st σ' ⟨rfl, rfl, rfl, k, rfl, hk, hn⟩
    have fb := fbest_b (σ' 5011) k
    have fs := fbest_s (σ' 5011) k
    refine ⟨60, ?_⟩
    by_cases cc : (k : Int) < σ' 5000 30
    · have a1 := hj k (by omega) (by omega)
      have a2 := hj (fbest (σ' 5011) k) fb.1 (by omega)
      have i9 : ∀ v, v = fbest (σ' 5011) (k + 1) → ∃ k', k' < n ∧ inv_dulm σ' k' 4 [(28, 5000), (0, v), (0, (k : Int) + 1)] [] σ' := fun v q => ⟨n - 1, by omega, rfl, rfl, rfl, k + 1, by rw [q]; rfl, by omega, by omega⟩
      generalize hB : fbest (σ' 5011) k = B at *
      have i1 : ¬ σ' 5011 k ≤ σ' 5011 B → _ := fun q => i9 k (by rw [fs, if_pos (by omega)])
      have i2 : σ' 5011 k ≤ σ' 5011 B → _ := fun q => i9 B (by rw [fs, if_neg (by omega)])
      simp only [↓reduceIte, inR_0, inR_1, inR_m, vSw2_e, swP_n, swP_c, vI_e, vL_e, vNull_e, vIload_e, vLload_e, vAload_e, vIstore_e, vLstore_e, vAstore_e, vIinc_e, vIadd_e, vIsub_e, vImul_e, vIand_e, vIor_e, vIxor_e, vIshl_e, vIshr_e, vIushr_e, vIdiv_e, vIrem_e, vLadd_e, vLsub_e, vLmul_e, vLand_e, vLor_e, vLxor_e, vLdiv_e, vLrem_e, vLushr_e, vLshl_e, vLcmp_e, vIneg_e, vI2l_e, vL2i_e, vI2b_e, vI2c_e, vDup_e, vPop_e, vDup2_e, vGoto_e, vIcEq_e, vIfEq_e, vIcNe_e, vIfNe_e, vIcLt_e, vIfLt_e, vIcGe_e, vIfGe_e, vIcGt_e, vIfGt_e, vIcLe_e, vIfLe_e, vNonnull_e, vSw_e, vGetI_e, vGetL_e, vGetR_e, vPutI_e, vPutZ_e, vPutL_e, vPutR_e, vIald_e, vIald_s, vLald_e, vBald_e, vBald_s, vAald_e, vIast_e, vLast_e, vBast_e, vAast_e, vAlen_e8, vAlen_e9, vAlen_e10, vAlen_e11, vAlen_e5, vAlen_e3, vGets_e, vCompact_e, vLdcS_e, vIret_e, vZret_e, vCret_e, vBret_e, vLret_e, vVret_e, vAret_e, vCallM_e0, vCallMV_e0, vCallS_e0, vCallSV_e0, vCallM_e1, vCallMV_e1, vCallS_e1, vCallSV_e1, vCallM_e2, vCallMV_e2, vCallS_e2, vCallSV_e2, vCallM_e3, vCallMV_e3, vCallS_e3, vCallSV_e3, vCallM_e4, vCallMV_e4, vCallS_e4, vCallSV_e4, vCallM_e5, vCallMV_e5, vCallS_e5, vCallSV_e5, vCallM_e6, vCallMV_e6, vCallS_e6, vCallSV_e6, vCallM_e7, vCallMV_e7, vCallS_e7, vCallSV_e7, vBad_e, vStrVal_e, vStrCod_e, vForm_e, vCallT_e0, vCallT_e1, vCallT_e2, vCopy_e, rf_0_0, rf_0_1, rf_0_2, rf_0_3, rf_0_4, rf_0_7, rf_0_10, rf_0_11, rf_0_12, rf_0_13, rf_0_14, rf_0_15, rf_0_16, rf_1_0, rf_3_0, rf_3_1, rf_6_0, rf_6_1, rf_9_0, rf_9_1, rf_9_3, rf_13_0, rf_13_1, rf_13_2, rf_16_0, rf_16_1, rf_16_2, rf_16_3, rf_21_0, rf_21_1, rf_21_2, rf_21_3, rf_26_0, rf_26_1, rf_26_2, rf_26_3, rf_26_4, rf_26_5, rf_26_6, rf_31_0, rf_31_2, rf_31_5, rf_31_6, rf_36_0, rf_36_1, rf_36_2, rf_36_3, rf_39_0, rf_39_1, rf_39_2, rf_41_0, rf_41_1, rf_41_2, rf_41_3, rf_5000_1, rf_5000_2, rf_5000_3, rf_5000_4, rf_5000_5, rf_5000_15, rf_5000_16, rf_5000_18, rf_5000_19, rf_5000_20, rf_5000_21, rf_5000_22, rf_5000_23, rf_5000_24, rf_5000_25, rf_5000_26, rf_5000_27, rf_5000_36, rf_5000_37, rf_5000_40, rf_5000_41, rf_5000_42, rf_5000_43, rf_5000_44, rf_5000_45, rf_5000_47, rf_5000_52, rf_5000_54, rf_5000_55, rf_100_0, rf_100_1, rf_103_0, rf_103_1, rf_106_0, rf_106_1, rf_109_0, rf_109_1, al_2, al_4, al_5, al_7, al_8, al_10, al_11, al_12, al_14, al_15, al_17, al_18, al_19, al_20, al_22, al_23, al_24, al_25, al_27, al_28, al_29, al_30, al_32, al_33, al_34, al_35, al_37, al_38, al_40, al_42, al_5001, al_5002, al_5003, al_5004, al_5005, al_5006, al_5007, al_5008, al_5009, al_5010, al_5011, al_5012, al_5013, al_5014, al_5015, al_5016, al_5017, al_5018, al_5019, al_5020, al_5021, al_5022, al_5023, al_5024, al_5025, al_5026, al_9000, al_101, al_102, al_104, al_105, al_107, al_108, al_110, al_111, vcs_e, lg_c0, lg_cs, lg_nil, set_c0, set_cs, okst_0, okst_s, acok_n, acok_c, List.contains_nil, List.contains_cons, Bool.or_false, Bool.false_or, Bool.false_eq_true, if_false, if_true, ite_self, ne_eq, true_and, and_true, not_false_eq_true, not_true_eq_false, false_imp_iff, true_imp_iff, Nat.ble_eq, Bool.and_eq_true, reduceCtorEq, or_false, false_or, or_true, true_or, false_and, and_false, and_self, Int.reduceLE, Int.reduceAdd, Int.reduceSub, Int.reduceMul, Int.reduceNeg, Int.reduceLT, Int.reduceEq, Int.reduceNe, Nat.reduceBEq, Nat.reduceBNe, Nat.reduceEqDiff, amCmp_in, amCmp_lt, amCmp_le, amCmp_gt, amCmp_ge, amCmp_eq, amCmp_ne, Nat.reduceLeDiff, Nat.reduceSub, Bool.and_true, Bool.true_and, Bool.and_self, Bool.or_true, Bool.true_or, isRf_3, isRf_4, isRf_5, isRf_8, isRf_9, isRf_10, isRf_11, isRf_15, isRf_16, isRf_17, isRf_18, isRf_19, isRf_20, isRf_21, isRf_22, isRf_23, isRf_24, isRf_25, isRf_26, isRf_27, isRf_28, k_X12_dullest_0, k_X12_dullest_1, k_X12_dullest_2, k_X12_dullest_3, k_X12_dullest_4, k_X12_dullest_5, k_X12_dullest_6, k_X12_dullest_9, k_X12_dullest_12, k_X12_dullest_13, k_X12_dullest_16, k_X12_dullest_17, k_X12_dullest_18, k_X12_dullest_19, k_X12_dullest_22, k_X12_dullest_23, k_X12_dullest_24, k_X12_dullest_27, k_X12_dullest_28, k_X12_dullest_31, k_X12_dullest_32, k_X12_dullest_33, k_X12_dullest_36, k_X12_dullest_39, k_X12_dullest_40]
      repeat' (first | apply And.intro | intro _)
      all_goals first | omega | exact absurd trivial (by assumption) | exact i1 (by assumption) | exact i2 (by assumption)
    · rw [show (max 1 (σ' 5000 30)).toNat = k by omega] at h
      simp only [↓reduceIte, inR_0, inR_1, inR_m, vSw2_e, swP_n, swP_c, vI_e, vL_e, vNull_e, vIload_e, vLload_e, vAload_e, vIstore_e, vLstore_e, vAstore_e, vIinc_e, vIadd_e, vIsub_e, vImul_e, vIand_e, vIor_e, vIxor_e, vIshl_e, vIshr_e, vIushr_e, vIdiv_e, vIrem_e, vLadd_e, vLsub_e, vLmul_e, vLand_e, vLor_e, vLxor_e, vLdiv_e, vLrem_e, vLushr_e, vLshl_e, vLcmp_e, vIneg_e, vI2l_e, vL2i_e, vI2b_e, vI2c_e, vDup_e, vPop_e, vDup2_e, vGoto_e, vIcEq_e, vIfEq_e, vIcNe_e, vIfNe_e, vIcLt_e, vIfLt_e, vIcGe_e, vIfGe_e, vIcGt_e, vIfGt_e, vIcLe_e, vIfLe_e, vNonnull_e, vSw_e, vGetI_e, vGetL_e, vGetR_e, vPutI_e, vPutZ_e, vPutL_e, vPutR_e, vIald_e, vIald_s, vLald_e, vBald_e, vBald_s, vAald_e, vIast_e, vLast_e, vBast_e, vAast_e, vAlen_e8, vAlen_e9, vAlen_e10, vAlen_e11, vAlen_e5, vAlen_e3, vGets_e, vCompact_e, vLdcS_e, vIret_e, vZret_e, vCret_e, vBret_e, vLret_e, vVret_e, vAret_e, vCallM_e0, vCallMV_e0, vCallS_e0, vCallSV_e0, vCallM_e1, vCallMV_e1, vCallS_e1, vCallSV_e1, vCallM_e2, vCallMV_e2, vCallS_e2, vCallSV_e2, vCallM_e3, vCallMV_e3, vCallS_e3, vCallSV_e3, vCallM_e4, vCallMV_e4, vCallS_e4, vCallSV_e4, vCallM_e5, vCallMV_e5, vCallS_e5, vCallSV_e5, vCallM_e6, vCallMV_e6, vCallS_e6, vCallSV_e6, vCallM_e7, vCallMV_e7, vCallS_e7, vCallSV_e7, vBad_e, vStrVal_e, vStrCod_e, vForm_e, vCallT_e0, vCallT_e1, vCallT_e2, vCopy_e, rf_0_0, rf_0_1, rf_0_2, rf_0_3, rf_0_4, rf_0_7, rf_0_10, rf_0_11, rf_0_12, rf_0_13, rf_0_14, rf_0_15, rf_0_16, rf_1_0, rf_3_0, rf_3_1, rf_6_0, rf_6_1, rf_9_0, rf_9_1, rf_9_3, rf_13_0, rf_13_1, rf_13_2, rf_16_0, rf_16_1, rf_16_2, rf_16_3, rf_21_0, rf_21_1, rf_21_2, rf_21_3, rf_26_0, rf_26_1, rf_26_2, rf_26_3, rf_26_4, rf_26_5, rf_26_6, rf_31_0, rf_31_2, rf_31_5, rf_31_6, rf_36_0, rf_36_1, rf_36_2, rf_36_3, rf_39_0, rf_39_1, rf_39_2, rf_41_0, rf_41_1, rf_41_2, rf_41_3, rf_5000_1, rf_5000_2, rf_5000_3, rf_5000_4, rf_5000_5, rf_5000_15, rf_5000_16, rf_5000_18, rf_5000_19, rf_5000_20, rf_5000_21, rf_5000_22, rf_5000_23, rf_5000_24, rf_5000_25, rf_5000_26, rf_5000_27, rf_5000_36, rf_5000_37, rf_5000_40, rf_5000_41, rf_5000_42, rf_5000_43, rf_5000_44, rf_5000_45, rf_5000_47, rf_5000_52, rf_5000_54, rf_5000_55, rf_100_0, rf_100_1, rf_103_0, rf_103_1, rf_106_0, rf_106_1, rf_109_0, rf_109_1, al_2, al_4, al_5, al_7, al_8, al_10, al_11, al_12, al_14, al_15, al_17, al_18, al_19, al_20, al_22, al_23, al_24, al_25, al_27, al_28, al_29, al_30, al_32, al_33, al_34, al_35, al_37, al_38, al_40, al_42, al_5001, al_5002, al_5003, al_5004, al_5005, al_5006, al_5007, al_5008, al_5009, al_5010, al_5011, al_5012, al_5013, al_5014, al_5015, al_5016, al_5017, al_5018, al_5019, al_5020, al_5021, al_5022, al_5023, al_5024, al_5025, al_5026, al_9000, al_101, al_102, al_104, al_105, al_107, al_108, al_110, al_111, vcs_e, lg_c0, lg_cs, lg_nil, set_c0, set_cs, okst_0, okst_s, acok_n, acok_c, List.contains_nil, List.contains_cons, Bool.or_false, Bool.false_or, Bool.false_eq_true, if_false, if_true, ite_self, ne_eq, true_and, and_true, not_false_eq_true, not_true_eq_false, false_imp_iff, true_imp_iff, Nat.ble_eq, Bool.and_eq_true, reduceCtorEq, or_false, false_or, or_true, true_or, false_and, and_false, and_self, Int.reduceLE, Int.reduceAdd, Int.reduceSub, Int.reduceMul, Int.reduceNeg, Int.reduceLT, Int.reduceEq, Int.reduceNe, Nat.reduceBEq, Nat.reduceBNe, Nat.reduceEqDiff, amCmp_in, amCmp_lt, amCmp_le, amCmp_gt, amCmp_ge, amCmp_eq, amCmp_ne, Nat.reduceLeDiff, Nat.reduceSub, Bool.and_true, Bool.true_and, Bool.and_self, Bool.or_true, Bool.true_or, isRf_3, isRf_4, isRf_5, isRf_8, isRf_9, isRf_10, isRf_11, isRf_15, isRf_16, isRf_17, isRf_18, isRf_19, isRf_20, isRf_21, isRf_22, isRf_23, isRf_24, isRf_25, isRf_26, isRf_27, isRf_28, k_X12_dullest_0, k_X12_dullest_1, k_X12_dullest_2, k_X12_dullest_3, k_X12_dullest_4, k_X12_dullest_5, k_X12_dullest_6, k_X12_dullest_9, k_X12_dullest_12, k_X12_dullest_13, k_X12_dullest_16, k_X12_dullest_17, k_X12_dullest_18, k_X12_dullest_19, k_X12_dullest_22, k_X12_dullest_23, k_X12_dullest_24, k_X12_dullest_27, k_X12_dullest_28, k_X12_dullest_31, k_X12_dullest_32, k_X12_dullest_33, k_X12_dullest_36, k_X12_dullest_39, k_X12_dullest_40]
      repeat' (first | apply And.intro | intro _)
      all_goals first | omega | exact absurd trivial (by assumption) | exact h
  · change vcs _ _ _ _ 60 0 [(28, 5000), (6, 0), (6, 0)] [] σ
    simp only [↓reduceIte, inR_0, inR_1, inR_m, vSw2_e, swP_n, swP_c, vI_e, vL_e, vNull_e, vIload_e, vLload_e, vAload_e, vIstore_e, vLstore_e, vAstore_e, vIinc_e, vIadd_e, vIsub_e, vImul_e, vIand_e, vIor_e, vIxor_e, vIshl_e, vIshr_e, vIushr_e, vIdiv_e, vIrem_e, vLadd_e, vLsub_e, vLmul_e, vLand_e, vLor_e, vLxor_e, vLdiv_e, vLrem_e, vLushr_e, vLshl_e, vLcmp_e, vIneg_e, vI2l_e, vL2i_e, vI2b_e, vI2c_e, vDup_e, vPop_e, vDup2_e, vGoto_e, vIcEq_e, vIfEq_e, vIcNe_e, vIfNe_e, vIcLt_e, vIfLt_e, vIcGe_e, vIfGe_e, vIcGt_e, vIfGt_e, vIcLe_e, vIfLe_e, vNonnull_e, vSw_e, vGetI_e, vGetL_e, vGetR_e, vPutI_e, vPutZ_e, vPutL_e, vPutR_e, vIald_e, vIald_s, vLald_e, vBald_e, vBald_s, vAald_e, vIast_e, vLast_e, vBast_e, vAast_e, vAlen_e8, vAlen_e9, vAlen_e10, vAlen_e11, vAlen_e5, vAlen_e3, vGets_e, vCompact_e, vLdcS_e, vIret_e, vZret_e, vCret_e, vBret_e, vLret_e, vVret_e, vAret_e, vCallM_e0, vCallMV_e0, vCallS_e0, vCallSV_e0, vCallM_e1, vCallMV_e1, vCallS_e1, vCallSV_e1, vCallM_e2, vCallMV_e2, vCallS_e2, vCallSV_e2, vCallM_e3, vCallMV_e3, vCallS_e3, vCallSV_e3, vCallM_e4, vCallMV_e4, vCallS_e4, vCallSV_e4, vCallM_e5, vCallMV_e5, vCallS_e5, vCallSV_e5, vCallM_e6, vCallMV_e6, vCallS_e6, vCallSV_e6, vCallM_e7, vCallMV_e7, vCallS_e7, vCallSV_e7, vBad_e, vStrVal_e, vStrCod_e, vForm_e, vCallT_e0, vCallT_e1, vCallT_e2, vCopy_e, rf_0_0, rf_0_1, rf_0_2, rf_0_3, rf_0_4, rf_0_7, rf_0_10, rf_0_11, rf_0_12, rf_0_13, rf_0_14, rf_0_15, rf_0_16, rf_1_0, rf_3_0, rf_3_1, rf_6_0, rf_6_1, rf_9_0, rf_9_1, rf_9_3, rf_13_0, rf_13_1, rf_13_2, rf_16_0, rf_16_1, rf_16_2, rf_16_3, rf_21_0, rf_21_1, rf_21_2, rf_21_3, rf_26_0, rf_26_1, rf_26_2, rf_26_3, rf_26_4, rf_26_5, rf_26_6, rf_31_0, rf_31_2, rf_31_5, rf_31_6, rf_36_0, rf_36_1, rf_36_2, rf_36_3, rf_39_0, rf_39_1, rf_39_2, rf_41_0, rf_41_1, rf_41_2, rf_41_3, rf_5000_1, rf_5000_2, rf_5000_3, rf_5000_4, rf_5000_5, rf_5000_15, rf_5000_16, rf_5000_18, rf_5000_19, rf_5000_20, rf_5000_21, rf_5000_22, rf_5000_23, rf_5000_24, rf_5000_25, rf_5000_26, rf_5000_27, rf_5000_36, rf_5000_37, rf_5000_40, rf_5000_41, rf_5000_42, rf_5000_43, rf_5000_44, rf_5000_45, rf_5000_47, rf_5000_52, rf_5000_54, rf_5000_55, rf_100_0, rf_100_1, rf_103_0, rf_103_1, rf_106_0, rf_106_1, rf_109_0, rf_109_1, al_2, al_4, al_5, al_7, al_8, al_10, al_11, al_12, al_14, al_15, al_17, al_18, al_19, al_20, al_22, al_23, al_24, al_25, al_27, al_28, al_29, al_30, al_32, al_33, al_34, al_35, al_37, al_38, al_40, al_42, al_5001, al_5002, al_5003, al_5004, al_5005, al_5006, al_5007, al_5008, al_5009, al_5010, al_5011, al_5012, al_5013, al_5014, al_5015, al_5016, al_5017, al_5018, al_5019, al_5020, al_5021, al_5022, al_5023, al_5024, al_5025, al_5026, al_9000, al_101, al_102, al_104, al_105, al_107, al_108, al_110, al_111, vcs_e, lg_c0, lg_cs, lg_nil, set_c0, set_cs, okst_0, okst_s, acok_n, acok_c, List.contains_nil, List.contains_cons, Bool.or_false, Bool.false_or, Bool.false_eq_true, if_false, if_true, ite_self, ne_eq, true_and, and_true, not_false_eq_true, not_true_eq_false, false_imp_iff, true_imp_iff, Nat.ble_eq, Bool.and_eq_true, reduceCtorEq, or_false, false_or, or_true, true_or, false_and, and_false, and_self, Int.reduceLE, Int.reduceAdd, Int.reduceSub, Int.reduceMul, Int.reduceNeg, Int.reduceLT, Int.reduceEq, Int.reduceNe, Nat.reduceBEq, Nat.reduceBNe, Nat.reduceEqDiff, amCmp_in, amCmp_lt, amCmp_le, amCmp_gt, amCmp_ge, amCmp_eq, amCmp_ne, Nat.reduceLeDiff, Nat.reduceSub, Bool.and_true, Bool.true_and, Bool.and_self, Bool.or_true, Bool.true_or, isRf_3, isRf_4, isRf_5, isRf_8, isRf_9, isRf_10, isRf_11, isRf_15, isRf_16, isRf_17, isRf_18, isRf_19, isRf_20, isRf_21, isRf_22, isRf_23, isRf_24, isRf_25, isRf_26, isRf_27, isRf_28, k_X12_dullest_0, k_X12_dullest_1, k_X12_dullest_2, k_X12_dullest_3, k_X12_dullest_4, k_X12_dullest_5, k_X12_dullest_6, k_X12_dullest_9, k_X12_dullest_12, k_X12_dullest_13, k_X12_dullest_16, k_X12_dullest_17, k_X12_dullest_18, k_X12_dullest_19, k_X12_dullest_22, k_X12_dullest_23, k_X12_dullest_24, k_X12_dullest_27, k_X12_dullest_28, k_X12_dullest_31, k_X12_dullest_32, k_X12_dullest_33, k_X12_dullest_36, k_X12_dullest_39, k_X12_dullest_40]
    exact ⟨(max 1 (σ 5000 30) - 1).toNat, rfl, rfl, rfl, 1, by rw [fbest_1]; rfl, by omega, by omega⟩
theorem bor_z0 : ∀ x : Nat, x < 64 → amIor (x : Int) 0 = (x : Int) := by decide +kernel
theorem bor_z {x : Int} (h0 : 0 ≤ x) (h1 : x < 64) : amIor x 0 = x := by
  have := bor_z0 x.toNat (by omega)
  rw [show ((x.toNat : Nat) : Int) = x by omega] at this; exact this
/-- TICKETS of the audience now -/
abbrev tkN (σ : Mem) : Int → Int := fun c => σ 5015 (4 * c + 1)
def a_X12_houseOf : AC := [(0, vI 0 1), (1, vIstore 2 2), (2, vI 0 3), (3, vIstore 3 4), (4, vIload 3 5), (5, vAload 0 6), (6, vGetI 28 29 9), (9, vIcGe 42 12), (12, vIload 2 13), (13, vAload 0 14), (14, vGetR TT 28 36 8 17), (17, vI 4 18), (18, vIload 3 19), (19, vImul 20), (20, vI 1 21), (21, vIadd 22), (22, vIald TT 23), (23, vIload 1 24), (24, vIcNe 33 27), (27, vI 1 28), (28, vIload 3 29), (29, vIshl 30), (30, vGoto 34), (33, vI 0 34), (34, vIor 35), (35, vIstore 2 36), (36, vIinc 3 1 39), (39, vGoto 4), (42, vIload 2 43), (43, vIret)]
theorem k_X12_houseOf_0 : look a_X12_houseOf 0 = vI 0 1 := rfl
theorem k_X12_houseOf_1 : look a_X12_houseOf 1 = vIstore 2 2 := rfl
theorem k_X12_houseOf_2 : look a_X12_houseOf 2 = vI 0 3 := rfl
theorem k_X12_houseOf_3 : look a_X12_houseOf 3 = vIstore 3 4 := rfl
theorem k_X12_houseOf_4 : look a_X12_houseOf 4 = vIload 3 5 := rfl
theorem k_X12_houseOf_5 : look a_X12_houseOf 5 = vAload 0 6 := rfl
theorem k_X12_houseOf_6 : look a_X12_houseOf 6 = vGetI 28 29 9 := rfl
theorem k_X12_houseOf_9 : look a_X12_houseOf 9 = vIcGe 42 12 := rfl
theorem k_X12_houseOf_12 : look a_X12_houseOf 12 = vIload 2 13 := rfl
theorem k_X12_houseOf_13 : look a_X12_houseOf 13 = vAload 0 14 := rfl
theorem k_X12_houseOf_14 : look a_X12_houseOf 14 = vGetR TT 28 36 8 17 := rfl
theorem k_X12_houseOf_17 : look a_X12_houseOf 17 = vI 4 18 := rfl
theorem k_X12_houseOf_18 : look a_X12_houseOf 18 = vIload 3 19 := rfl
theorem k_X12_houseOf_19 : look a_X12_houseOf 19 = vImul 20 := rfl
theorem k_X12_houseOf_20 : look a_X12_houseOf 20 = vI 1 21 := rfl
theorem k_X12_houseOf_21 : look a_X12_houseOf 21 = vIadd 22 := rfl
theorem k_X12_houseOf_22 : look a_X12_houseOf 22 = vIald TT 23 := rfl
theorem k_X12_houseOf_23 : look a_X12_houseOf 23 = vIload 1 24 := rfl
theorem k_X12_houseOf_24 : look a_X12_houseOf 24 = vIcNe 33 27 := rfl
theorem k_X12_houseOf_27 : look a_X12_houseOf 27 = vI 1 28 := rfl
theorem k_X12_houseOf_28 : look a_X12_houseOf 28 = vIload 3 29 := rfl
theorem k_X12_houseOf_29 : look a_X12_houseOf 29 = vIshl 30 := rfl
theorem k_X12_houseOf_30 : look a_X12_houseOf 30 = vGoto 34 := rfl
theorem k_X12_houseOf_33 : look a_X12_houseOf 33 = vI 0 34 := rfl
theorem k_X12_houseOf_34 : look a_X12_houseOf 34 = vIor 35 := rfl
theorem k_X12_houseOf_35 : look a_X12_houseOf 35 = vIstore 2 36 := rfl
theorem k_X12_houseOf_36 : look a_X12_houseOf 36 = vIinc 3 1 39 := rfl
theorem k_X12_houseOf_39 : look a_X12_houseOf 39 = vGoto 4 := rfl
theorem k_X12_houseOf_42 : look a_X12_houseOf 42 = vIload 2 43 := rfl
theorem k_X12_houseOf_43 : look a_X12_houseOf 43 = vIret := rfl
theorem o_X12_houseOf {X : amX} (e1 : XT X = TT) (e2 : XD X = 0) (hB : amB X RX12 cX12_houseOf (some .int) 4) : ∀ pc, amOK X pc (look a_X12_houseOf pc) := by
  have hT : amTok (XT X) := e1 ▸ TT_ok
  refine look_ok ?_
  unfold a_X12_houseOf
  refine fc (ok_iconst hB dX12_houseOf_0) ?_
  refine fc (ok_istore_n hB (by decide) dX12_houseOf_1) ?_
  refine fc (ok_iconst hB dX12_houseOf_2) ?_
  refine fc (ok_istore_n hB (by decide) dX12_houseOf_3) ?_
  refine fc (ok_iload_n hB dX12_houseOf_4) ?_
  refine fc (ok_aload_n hB dX12_houseOf_5) ?_
  refine fc (ok_getI hB hT fl_X12_317 rfl rfl (Or.inl af_12_29) dX12_houseOf_6) ?_
  refine fc (ok_icmp_ge hB (t := 42) (by decide) dX12_houseOf_9) ?_
  refine fc (ok_iload_n hB dX12_houseOf_12) ?_
  refine fc (ok_aload_n hB dX12_houseOf_13) ?_
  refine fc (okt_getR e1 hB hT fl_X12_67 rfl af_12_36 at_12_36 (by decide) dX12_houseOf_14) ?_
  refine fc (ok_iconst hB dX12_houseOf_17) ?_
  refine fc (ok_iload_n hB dX12_houseOf_18) ?_
  refine fc (ok_imul hB dX12_houseOf_19) ?_
  refine fc (ok_iconst hB dX12_houseOf_20) ?_
  refine fc (ok_iadd hB dX12_houseOf_21) ?_
  refine fc (okt_iaload e1 hB dX12_houseOf_22) ?_
  refine fc (ok_iload_n hB dX12_houseOf_23) ?_
  refine fc (ok_icmp_ne hB (t := 33) (by decide) dX12_houseOf_24) ?_
  refine fc (ok_iconst hB dX12_houseOf_27) ?_
  refine fc (ok_iload_n hB dX12_houseOf_28) ?_
  refine fc (ok_ishl hB dX12_houseOf_29) ?_
  refine fc (ok_goto hB (t := 34) (by decide) dX12_houseOf_30) ?_
  refine fc (ok_iconst hB dX12_houseOf_33) ?_
  refine fc (ok_ior hB dX12_houseOf_34) ?_
  refine fc (ok_istore_n hB (by decide) dX12_houseOf_35) ?_
  refine fc (ok_iinc hB (by decide) dX12_houseOf_36) ?_
  refine fc (ok_goto hB (t := 4) (by decide) dX12_houseOf_39) ?_
  refine fc (ok_iload_n hB dX12_houseOf_42) ?_
  refine fc (ok_iret hB dX12_houseOf_43) ?_
  exact fn
def inv_hof (σ : Mem) (t : Int) (n pc : Nat) (ls st : List AV) (σ' : Mem) : Prop := pc = 4 ∧ st = [] ∧ σ' = σ ∧ ∃ k : Nat, ls = [(28, 5000), (0, t), (0, hbits (tkN σ) t k), (0, (k : Int))] ∧ (k : Int) + n = σ 5000 29
def w_X12_houseOf : WP := fun av σ Q => ∃ (t : Int), av = [(28, 5000), (0, t)] ∧ (InR t ∧ 0 ≤ σ 5000 29 ∧ σ 5000 29 ≤ 6 ∧ (∀ c, 0 ≤ c → c < σ 5000 29 → InR (σ 5015 (4 * c + 1))) ∧ Q (0, hbits (tkN σ) t (σ 5000 29).toNat) σ)
theorem w_X12_houseOf_e (t : Int) (σ : Mem) (Q : AV → Mem → Prop) : w_X12_houseOf [(28, 5000), (0, t)] σ Q = (InR t ∧ 0 ≤ σ 5000 29 ∧ σ 5000 29 ≤ 6 ∧ (∀ c, 0 ≤ c → c < σ 5000 29 → InR (σ 5015 (4 * c + 1))) ∧ Q (0, hbits (tkN σ) t (σ 5000 29).toNat) σ) := by
  apply propext; constructor
  · rintro ⟨t', h9, hb9⟩; cases h9; exact hb9
  · intro hb9; exact ⟨t, rfl, hb9⟩

set_option maxRecDepth 100000 in
set_option maxHeartbeats 4000000 in
theorem s_X12_houseOf : ∀ av σ Q, w_X12_houseOf av σ Q → amCall 0 0 0 TT yX12_houseOf cX12_houseOf 4 (some .int) av σ Q := by
  rintro av σ Q ⟨t, rfl, ht, c0, c1, hj, h⟩
  refine am_m [4] (inv_hof σ t) (own := RX12) (A := look a_X12_houseOf) (fun X e1 e2 hB => o_X12_houseOf e1 e2 hB) rfl (by decide +kernel) rfl rfl ?_ ⟨60, ?_⟩ (w := 4)
  · rintro n pc ls st σ' ⟨rfl, rfl, rfl, k, rfl, hn⟩
    refine ⟨60, ?_⟩
    by_cases cc : (k : Int) < σ' 5000 29
    · have a1 := hj k (by omega) cc
      have hb := hbits_b (tkN σ') t k
      have h64 := hbits_64 (tkN σ') t (n := k) (by omega)
      have e : hbits (tkN σ') t (k + 1) = hbits (tkN σ') t k + if σ' 5015 (4 * k + 1) = t then 2 ^ k else 0 := rfl
      have i9 : ∀ v, v = hbits (tkN σ') t (k + 1) → ∃ k', k' < n ∧ inv_hof σ' t k' 4 [(28, 5000), (0, t), (0, v), (0, (k : Int) + 1)] [] σ' := fun v q => ⟨n - 1, by omega, rfl, rfl, rfl, k + 1, by rw [q]; rfl, by omega⟩
      have b6 := bor6' (i := k) (by omega) hb.1 hb.2
      have bz := bor_z h64.1 h64.2
      generalize hB : hbits (tkN σ') t k = B at *
      have i1 : σ' 5015 (4 * k + 1) = t → _ := fun q => i9 (B + 2 ^ k) (by rw [e, if_pos q])
      have i2 : ¬ σ' 5015 (4 * k + 1) = t → _ := fun q => i9 B (by rw [e, if_neg q, Int.add_zero])
      simp only [↓reduceIte, inR_0, inR_1, inR_m, vSw2_e, swP_n, swP_c, vI_e, vL_e, vNull_e, vIload_e, vLload_e, vAload_e, vIstore_e, vLstore_e, vAstore_e, vIinc_e, vIadd_e, vIsub_e, vImul_e, vIand_e, vIor_e, vIxor_e, vIshl_e, vIshr_e, vIushr_e, vIdiv_e, vIrem_e, vLadd_e, vLsub_e, vLmul_e, vLand_e, vLor_e, vLxor_e, vLdiv_e, vLrem_e, vLushr_e, vLshl_e, vLcmp_e, vIneg_e, vI2l_e, vL2i_e, vI2b_e, vI2c_e, vDup_e, vPop_e, vDup2_e, vGoto_e, vIcEq_e, vIfEq_e, vIcNe_e, vIfNe_e, vIcLt_e, vIfLt_e, vIcGe_e, vIfGe_e, vIcGt_e, vIfGt_e, vIcLe_e, vIfLe_e, vNonnull_e, vSw_e, vGetI_e, vGetL_e, vGetR_e, vPutI_e, vPutZ_e, vPutL_e, vPutR_e, vIald_e, vIald_s, vLald_e, vBald_e, vBald_s, vAald_e, vIast_e, vLast_e, vBast_e, vAast_e, vAlen_e8, vAlen_e9, vAlen_e10, vAlen_e11, vAlen_e5, vAlen_e3, vGets_e, vCompact_e, vLdcS_e, vIret_e, vZret_e, vCret_e, vBret_e, vLret_e, vVret_e, vAret_e, vCallM_e0, vCallMV_e0, vCallS_e0, vCallSV_e0, vCallM_e1, vCallMV_e1, vCallS_e1, vCallSV_e1, vCallM_e2, vCallMV_e2, vCallS_e2, vCallSV_e2, vCallM_e3, vCallMV_e3, vCallS_e3, vCallSV_e3, vCallM_e4, vCallMV_e4, vCallS_e4, vCallSV_e4, vCallM_e5, vCallMV_e5, vCallS_e5, vCallSV_e5, vCallM_e6, vCallMV_e6, vCallS_e6, vCallSV_e6, vCallM_e7, vCallMV_e7, vCallS_e7, vCallSV_e7, vBad_e, vStrVal_e, vStrCod_e, vForm_e, vCallT_e0, vCallT_e1, vCallT_e2, vCopy_e, rf_0_0, rf_0_1, rf_0_2, rf_0_3, rf_0_4, rf_0_7, rf_0_10, rf_0_11, rf_0_12, rf_0_13, rf_0_14, rf_0_15, rf_0_16, rf_1_0, rf_3_0, rf_3_1, rf_6_0, rf_6_1, rf_9_0, rf_9_1, rf_9_3, rf_13_0, rf_13_1, rf_13_2, rf_16_0, rf_16_1, rf_16_2, rf_16_3, rf_21_0, rf_21_1, rf_21_2, rf_21_3, rf_26_0, rf_26_1, rf_26_2, rf_26_3, rf_26_4, rf_26_5, rf_26_6, rf_31_0, rf_31_2, rf_31_5, rf_31_6, rf_36_0, rf_36_1, rf_36_2, rf_36_3, rf_39_0, rf_39_1, rf_39_2, rf_41_0, rf_41_1, rf_41_2, rf_41_3, rf_5000_1, rf_5000_2, rf_5000_3, rf_5000_4, rf_5000_5, rf_5000_15, rf_5000_16, rf_5000_18, rf_5000_19, rf_5000_20, rf_5000_21, rf_5000_22, rf_5000_23, rf_5000_24, rf_5000_25, rf_5000_26, rf_5000_27, rf_5000_36, rf_5000_37, rf_5000_40, rf_5000_41, rf_5000_42, rf_5000_43, rf_5000_44, rf_5000_45, rf_5000_47, rf_5000_52, rf_5000_54, rf_5000_55, rf_100_0, rf_100_1, rf_103_0, rf_103_1, rf_106_0, rf_106_1, rf_109_0, rf_109_1, al_2, al_4, al_5, al_7, al_8, al_10, al_11, al_12, al_14, al_15, al_17, al_18, al_19, al_20, al_22, al_23, al_24, al_25, al_27, al_28, al_29, al_30, al_32, al_33, al_34, al_35, al_37, al_38, al_40, al_42, al_5001, al_5002, al_5003, al_5004, al_5005, al_5006, al_5007, al_5008, al_5009, al_5010, al_5011, al_5012, al_5013, al_5014, al_5015, al_5016, al_5017, al_5018, al_5019, al_5020, al_5021, al_5022, al_5023, al_5024, al_5025, al_5026, al_9000, al_101, al_102, al_104, al_105, al_107, al_108, al_110, al_111, vcs_e, lg_c0, lg_cs, lg_nil, set_c0, set_cs, okst_0, okst_s, acok_n, acok_c, List.contains_nil, List.contains_cons, Bool.or_false, Bool.false_or, Bool.false_eq_true, if_false, if_true, ite_self, ne_eq, true_and, and_true, not_false_eq_true, not_true_eq_false, false_imp_iff, true_imp_iff, Nat.ble_eq, Bool.and_eq_true, reduceCtorEq, or_false, false_or, or_true, true_or, false_and, and_false, and_self, Int.reduceLE, Int.reduceAdd, Int.reduceSub, Int.reduceMul, Int.reduceNeg, Int.reduceLT, Int.reduceEq, Int.reduceNe, Nat.reduceBEq, Nat.reduceBNe, Nat.reduceEqDiff, amCmp_in, amCmp_lt, amCmp_le, amCmp_gt, amCmp_ge, amCmp_eq, amCmp_ne, Nat.reduceLeDiff, Nat.reduceSub, Bool.and_true, Bool.true_and, Bool.and_self, Bool.or_true, Bool.true_or, isRf_3, isRf_4, isRf_5, isRf_8, isRf_9, isRf_10, isRf_11, isRf_15, isRf_16, isRf_17, isRf_18, isRf_19, isRf_20, isRf_21, isRf_22, isRf_23, isRf_24, isRf_25, isRf_26, isRf_27, isRf_28, k_X12_houseOf_0, k_X12_houseOf_1, k_X12_houseOf_2, k_X12_houseOf_3, k_X12_houseOf_4, k_X12_houseOf_5, k_X12_houseOf_6, k_X12_houseOf_9, k_X12_houseOf_12, k_X12_houseOf_13, k_X12_houseOf_14, k_X12_houseOf_17, k_X12_houseOf_18, k_X12_houseOf_19, k_X12_houseOf_20, k_X12_houseOf_21, k_X12_houseOf_22, k_X12_houseOf_23, k_X12_houseOf_24, k_X12_houseOf_27, k_X12_houseOf_28, k_X12_houseOf_29, k_X12_houseOf_30, k_X12_houseOf_33, k_X12_houseOf_34, k_X12_houseOf_35, k_X12_houseOf_36, k_X12_houseOf_39, k_X12_houseOf_42, k_X12_houseOf_43, b6, bz]
      repeat' (first | apply And.intro | intro _)
      all_goals first | omega | exact absurd trivial (by assumption) | exact i1 (by assumption) | exact i2 (by assumption)
    · rw [show (σ' 5000 29).toNat = k by omega] at h
      simp only [↓reduceIte, inR_0, inR_1, inR_m, vSw2_e, swP_n, swP_c, vI_e, vL_e, vNull_e, vIload_e, vLload_e, vAload_e, vIstore_e, vLstore_e, vAstore_e, vIinc_e, vIadd_e, vIsub_e, vImul_e, vIand_e, vIor_e, vIxor_e, vIshl_e, vIshr_e, vIushr_e, vIdiv_e, vIrem_e, vLadd_e, vLsub_e, vLmul_e, vLand_e, vLor_e, vLxor_e, vLdiv_e, vLrem_e, vLushr_e, vLshl_e, vLcmp_e, vIneg_e, vI2l_e, vL2i_e, vI2b_e, vI2c_e, vDup_e, vPop_e, vDup2_e, vGoto_e, vIcEq_e, vIfEq_e, vIcNe_e, vIfNe_e, vIcLt_e, vIfLt_e, vIcGe_e, vIfGe_e, vIcGt_e, vIfGt_e, vIcLe_e, vIfLe_e, vNonnull_e, vSw_e, vGetI_e, vGetL_e, vGetR_e, vPutI_e, vPutZ_e, vPutL_e, vPutR_e, vIald_e, vIald_s, vLald_e, vBald_e, vBald_s, vAald_e, vIast_e, vLast_e, vBast_e, vAast_e, vAlen_e8, vAlen_e9, vAlen_e10, vAlen_e11, vAlen_e5, vAlen_e3, vGets_e, vCompact_e, vLdcS_e, vIret_e, vZret_e, vCret_e, vBret_e, vLret_e, vVret_e, vAret_e, vCallM_e0, vCallMV_e0, vCallS_e0, vCallSV_e0, vCallM_e1, vCallMV_e1, vCallS_e1, vCallSV_e1, vCallM_e2, vCallMV_e2, vCallS_e2, vCallSV_e2, vCallM_e3, vCallMV_e3, vCallS_e3, vCallSV_e3, vCallM_e4, vCallMV_e4, vCallS_e4, vCallSV_e4, vCallM_e5, vCallMV_e5, vCallS_e5, vCallSV_e5, vCallM_e6, vCallMV_e6, vCallS_e6, vCallSV_e6, vCallM_e7, vCallMV_e7, vCallS_e7, vCallSV_e7, vBad_e, vStrVal_e, vStrCod_e, vForm_e, vCallT_e0, vCallT_e1, vCallT_e2, vCopy_e, rf_0_0, rf_0_1, rf_0_2, rf_0_3, rf_0_4, rf_0_7, rf_0_10, rf_0_11, rf_0_12, rf_0_13, rf_0_14, rf_0_15, rf_0_16, rf_1_0, rf_3_0, rf_3_1, rf_6_0, rf_6_1, rf_9_0, rf_9_1, rf_9_3, rf_13_0, rf_13_1, rf_13_2, rf_16_0, rf_16_1, rf_16_2, rf_16_3, rf_21_0, rf_21_1, rf_21_2, rf_21_3, rf_26_0, rf_26_1, rf_26_2, rf_26_3, rf_26_4, rf_26_5, rf_26_6, rf_31_0, rf_31_2, rf_31_5, rf_31_6, rf_36_0, rf_36_1, rf_36_2, rf_36_3, rf_39_0, rf_39_1, rf_39_2, rf_41_0, rf_41_1, rf_41_2, rf_41_3, rf_5000_1, rf_5000_2, rf_5000_3, rf_5000_4, rf_5000_5, rf_5000_15, rf_5000_16, rf_5000_18, rf_5000_19, rf_5000_20, rf_5000_21, rf_5000_22, rf_5000_23, rf_5000_24, rf_5000_25, rf_5000_26, rf_5000_27, rf_5000_36, rf_5000_37, rf_5000_40, rf_5000_41, rf_5000_42, rf_5000_43, rf_5000_44, rf_5000_45, rf_5000_47, rf_5000_52, rf_5000_54, rf_5000_55, rf_100_0, rf_100_1, rf_103_0, rf_103_1, rf_106_0, rf_106_1, rf_109_0, rf_109_1, al_2, al_4, al_5, al_7, al_8, al_10, al_11, al_12, al_14, al_15, al_17, al_18, al_19, al_20, al_22, al_23, al_24, al_25, al_27, al_28, al_29, al_30, al_32, al_33, al_34, al_35, al_37, al_38, al_40, al_42, al_5001, al_5002, al_5003, al_5004, al_5005, al_5006, al_5007, al_5008, al_5009, al_5010, al_5011, al_5012, al_5013, al_5014, al_5015, al_5016, al_5017, al_5018, al_5019, al_5020, al_5021, al_5022, al_5023, al_5024, al_5025, al_5026, al_9000, al_101, al_102, al_104, al_105, al_107, al_108, al_110, al_111, vcs_e, lg_c0, lg_cs, lg_nil, set_c0, set_cs, okst_0, okst_s, acok_n, acok_c, List.contains_nil, List.contains_cons, Bool.or_false, Bool.false_or, Bool.false_eq_true, if_false, if_true, ite_self, ne_eq, true_and, and_true, not_false_eq_true, not_true_eq_false, false_imp_iff, true_imp_iff, Nat.ble_eq, Bool.and_eq_true, reduceCtorEq, or_false, false_or, or_true, true_or, false_and, and_false, and_self, Int.reduceLE, Int.reduceAdd, Int.reduceSub, Int.reduceMul, Int.reduceNeg, Int.reduceLT, Int.reduceEq, Int.reduceNe, Nat.reduceBEq, Nat.reduceBNe, Nat.reduceEqDiff, amCmp_in, amCmp_lt, amCmp_le, amCmp_gt, amCmp_ge, amCmp_eq, amCmp_ne, Nat.reduceLeDiff, Nat.reduceSub, Bool.and_true, Bool.true_and, Bool.and_self, Bool.or_true, Bool.true_or, isRf_3, isRf_4, isRf_5, isRf_8, isRf_9, isRf_10, isRf_11, isRf_15, isRf_16, isRf_17, isRf_18, isRf_19, isRf_20, isRf_21, isRf_22, isRf_23, isRf_24, isRf_25, isRf_26, isRf_27, isRf_28, k_X12_houseOf_0, k_X12_houseOf_1, k_X12_houseOf_2, k_X12_houseOf_3, k_X12_houseOf_4, k_X12_houseOf_5, k_X12_houseOf_6, k_X12_houseOf_9, k_X12_houseOf_12, k_X12_houseOf_13, k_X12_houseOf_14, k_X12_houseOf_17, k_X12_houseOf_18, k_X12_houseOf_19, k_X12_houseOf_20, k_X12_houseOf_21, k_X12_houseOf_22, k_X12_houseOf_23, k_X12_houseOf_24, k_X12_houseOf_27, k_X12_houseOf_28, k_X12_houseOf_29, k_X12_houseOf_30, k_X12_houseOf_33, k_X12_houseOf_34, k_X12_houseOf_35, k_X12_houseOf_36, k_X12_houseOf_39, k_X12_houseOf_42, k_X12_houseOf_43]
      repeat' (first | apply And.intro | intro _)
      all_goals first | omega | exact absurd trivial (by assumption) | exact h
  · change vcs _ _ _ _ 60 0 [(28, 5000), (0, t), (6, 0), (6, 0)] [] σ
    simp only [↓reduceIte, inR_0, inR_1, inR_m, vSw2_e, swP_n, swP_c, vI_e, vL_e, vNull_e, vIload_e, vLload_e, vAload_e, vIstore_e, vLstore_e, vAstore_e, vIinc_e, vIadd_e, vIsub_e, vImul_e, vIand_e, vIor_e, vIxor_e, vIshl_e, vIshr_e, vIushr_e, vIdiv_e, vIrem_e, vLadd_e, vLsub_e, vLmul_e, vLand_e, vLor_e, vLxor_e, vLdiv_e, vLrem_e, vLushr_e, vLshl_e, vLcmp_e, vIneg_e, vI2l_e, vL2i_e, vI2b_e, vI2c_e, vDup_e, vPop_e, vDup2_e, vGoto_e, vIcEq_e, vIfEq_e, vIcNe_e, vIfNe_e, vIcLt_e, vIfLt_e, vIcGe_e, vIfGe_e, vIcGt_e, vIfGt_e, vIcLe_e, vIfLe_e, vNonnull_e, vSw_e, vGetI_e, vGetL_e, vGetR_e, vPutI_e, vPutZ_e, vPutL_e, vPutR_e, vIald_e, vIald_s, vLald_e, vBald_e, vBald_s, vAald_e, vIast_e, vLast_e, vBast_e, vAast_e, vAlen_e8, vAlen_e9, vAlen_e10, vAlen_e11, vAlen_e5, vAlen_e3, vGets_e, vCompact_e, vLdcS_e, vIret_e, vZret_e, vCret_e, vBret_e, vLret_e, vVret_e, vAret_e, vCallM_e0, vCallMV_e0, vCallS_e0, vCallSV_e0, vCallM_e1, vCallMV_e1, vCallS_e1, vCallSV_e1, vCallM_e2, vCallMV_e2, vCallS_e2, vCallSV_e2, vCallM_e3, vCallMV_e3, vCallS_e3, vCallSV_e3, vCallM_e4, vCallMV_e4, vCallS_e4, vCallSV_e4, vCallM_e5, vCallMV_e5, vCallS_e5, vCallSV_e5, vCallM_e6, vCallMV_e6, vCallS_e6, vCallSV_e6, vCallM_e7, vCallMV_e7, vCallS_e7, vCallSV_e7, vBad_e, vStrVal_e, vStrCod_e, vForm_e, vCallT_e0, vCallT_e1, vCallT_e2, vCopy_e, rf_0_0, rf_0_1, rf_0_2, rf_0_3, rf_0_4, rf_0_7, rf_0_10, rf_0_11, rf_0_12, rf_0_13, rf_0_14, rf_0_15, rf_0_16, rf_1_0, rf_3_0, rf_3_1, rf_6_0, rf_6_1, rf_9_0, rf_9_1, rf_9_3, rf_13_0, rf_13_1, rf_13_2, rf_16_0, rf_16_1, rf_16_2, rf_16_3, rf_21_0, rf_21_1, rf_21_2, rf_21_3, rf_26_0, rf_26_1, rf_26_2, rf_26_3, rf_26_4, rf_26_5, rf_26_6, rf_31_0, rf_31_2, rf_31_5, rf_31_6, rf_36_0, rf_36_1, rf_36_2, rf_36_3, rf_39_0, rf_39_1, rf_39_2, rf_41_0, rf_41_1, rf_41_2, rf_41_3, rf_5000_1, rf_5000_2, rf_5000_3, rf_5000_4, rf_5000_5, rf_5000_15, rf_5000_16, rf_5000_18, rf_5000_19, rf_5000_20, rf_5000_21, rf_5000_22, rf_5000_23, rf_5000_24, rf_5000_25, rf_5000_26, rf_5000_27, rf_5000_36, rf_5000_37, rf_5000_40, rf_5000_41, rf_5000_42, rf_5000_43, rf_5000_44, rf_5000_45, rf_5000_47, rf_5000_52, rf_5000_54, rf_5000_55, rf_100_0, rf_100_1, rf_103_0, rf_103_1, rf_106_0, rf_106_1, rf_109_0, rf_109_1, al_2, al_4, al_5, al_7, al_8, al_10, al_11, al_12, al_14, al_15, al_17, al_18, al_19, al_20, al_22, al_23, al_24, al_25, al_27, al_28, al_29, al_30, al_32, al_33, al_34, al_35, al_37, al_38, al_40, al_42, al_5001, al_5002, al_5003, al_5004, al_5005, al_5006, al_5007, al_5008, al_5009, al_5010, al_5011, al_5012, al_5013, al_5014, al_5015, al_5016, al_5017, al_5018, al_5019, al_5020, al_5021, al_5022, al_5023, al_5024, al_5025, al_5026, al_9000, al_101, al_102, al_104, al_105, al_107, al_108, al_110, al_111, vcs_e, lg_c0, lg_cs, lg_nil, set_c0, set_cs, okst_0, okst_s, acok_n, acok_c, List.contains_nil, List.contains_cons, Bool.or_false, Bool.false_or, Bool.false_eq_true, if_false, if_true, ite_self, ne_eq, true_and, and_true, not_false_eq_true, not_true_eq_false, false_imp_iff, true_imp_iff, Nat.ble_eq, Bool.and_eq_true, reduceCtorEq, or_false, false_or, or_true, true_or, false_and, and_false, and_self, Int.reduceLE, Int.reduceAdd, Int.reduceSub, Int.reduceMul, Int.reduceNeg, Int.reduceLT, Int.reduceEq, Int.reduceNe, Nat.reduceBEq, Nat.reduceBNe, Nat.reduceEqDiff, amCmp_in, amCmp_lt, amCmp_le, amCmp_gt, amCmp_ge, amCmp_eq, amCmp_ne, Nat.reduceLeDiff, Nat.reduceSub, Bool.and_true, Bool.true_and, Bool.and_self, Bool.or_true, Bool.true_or, isRf_3, isRf_4, isRf_5, isRf_8, isRf_9, isRf_10, isRf_11, isRf_15, isRf_16, isRf_17, isRf_18, isRf_19, isRf_20, isRf_21, isRf_22, isRf_23, isRf_24, isRf_25, isRf_26, isRf_27, isRf_28, k_X12_houseOf_0, k_X12_houseOf_1, k_X12_houseOf_2, k_X12_houseOf_3, k_X12_houseOf_4, k_X12_houseOf_5, k_X12_houseOf_6, k_X12_houseOf_9, k_X12_houseOf_12, k_X12_houseOf_13, k_X12_houseOf_14, k_X12_houseOf_17, k_X12_houseOf_18, k_X12_houseOf_19, k_X12_houseOf_20, k_X12_houseOf_21, k_X12_houseOf_22, k_X12_houseOf_23, k_X12_houseOf_24, k_X12_houseOf_27, k_X12_houseOf_28, k_X12_houseOf_29, k_X12_houseOf_30, k_X12_houseOf_33, k_X12_houseOf_34, k_X12_houseOf_35, k_X12_houseOf_36, k_X12_houseOf_39, k_X12_houseOf_42, k_X12_houseOf_43]
    exact ⟨(σ 5000 29).toNat, rfl, rfl, rfl, 0, rfl, by omega⟩
theorem wd_1915 : Cond.methodLink RX12 486 yX12_houseOf ∈ TBL := tb_tab (List.mem_of_getElem? (i := 1915) (by decide +kernel)) rfl
theorem wd_1918 : Cond.code yX12_houseOf cX12_houseOf 4 (some .int) ∈ TBL := tb_tab (List.mem_of_getElem? (i := 1918) (by decide +kernel)) rfl
theorem lk_X12_486 : amLk RX12 486 yX12_houseOf cX12_houseOf 4 (some .int) 1 := ⟨wd_1915, wd_12, wd_1918, by decide +kernel, by decide +kernel, by decide⟩
theorem wd_1917 : Cond.instanceMethod yX12_houseOf ∈ TBL := tb_tab (List.mem_of_getElem? (i := 1917) (by decide +kernel)) rfl
theorem sl_X12_houseOf : Cond.selects RX12 yX12_houseOf yX12_houseOf ∈ TBL := tb_sel (List.mem_of_getElem? (i := 102) (by decide +kernel)) rfl
def a_X12_house : AC := [(0, vAload 0 1), (1, vI 0 2), (2, vPutI 28 0 5), (5, vAload 0 6), (6, vIload 1 7), (7, vCallM w_X12_isSitter 28 1 10), (10, vIfEq 21 13), (13, vAload 0 14), (14, vIload 1 15), (15, vCallM w_X12_houseOf 28 1 18), (18, vGoto 22), (21, vI (-1) 22), (22, vIret)]
theorem k_X12_house_0 : look a_X12_house 0 = vAload 0 1 := rfl
theorem k_X12_house_1 : look a_X12_house 1 = vI 0 2 := rfl
theorem k_X12_house_2 : look a_X12_house 2 = vPutI 28 0 5 := rfl
theorem k_X12_house_5 : look a_X12_house 5 = vAload 0 6 := rfl
theorem k_X12_house_6 : look a_X12_house 6 = vIload 1 7 := rfl
theorem k_X12_house_7 : look a_X12_house 7 = vCallM w_X12_isSitter 28 1 10 := rfl
theorem k_X12_house_10 : look a_X12_house 10 = vIfEq 21 13 := rfl
theorem k_X12_house_13 : look a_X12_house 13 = vAload 0 14 := rfl
theorem k_X12_house_14 : look a_X12_house 14 = vIload 1 15 := rfl
theorem k_X12_house_15 : look a_X12_house 15 = vCallM w_X12_houseOf 28 1 18 := rfl
theorem k_X12_house_18 : look a_X12_house 18 = vGoto 22 := rfl
theorem k_X12_house_21 : look a_X12_house 21 = vI (-1) 22 := rfl
theorem k_X12_house_22 : look a_X12_house 22 = vIret := rfl
theorem o_X12_house {X : amX} (e1 : XT X = TT) (e2 : XD X = 1) (hB : amB X RX12 cX12_house (some .int) 2) : ∀ pc, amOK X pc (look a_X12_house pc) := by
  have hT : amTok (XT X) := e1 ▸ TT_ok
  refine look_ok ?_
  unfold a_X12_house
  refine fc (ok_aload_n hB dX12_house_0) ?_
  refine fc (ok_iconst hB dX12_house_1) ?_
  refine fc (ok_putI hB hT fp_X12_111 rfl rfl rfl af_12_0 dX12_house_2) ?_
  refine fc (ok_aload_n hB dX12_house_5) ?_
  refine fc (ok_iload_n hB dX12_house_6) ?_
  refine fc (ok_callM hB hT (e1 ▸ s_X12_isSitter) lk_X12_374 (by rw [e2]; decide) (c := 12) rfl rfl rfl wd_1669 sl_X12_isSitter dX12_house_7) ?_
  refine fc (ok_if_eq hB (t := 21) (by decide) dX12_house_10) ?_
  refine fc (ok_aload_n hB dX12_house_13) ?_
  refine fc (ok_iload_n hB dX12_house_14) ?_
  refine fc (ok_callM hB hT (e1 ▸ s_X12_houseOf) lk_X12_486 (by rw [e2]; decide) (c := 12) rfl rfl rfl wd_1917 sl_X12_houseOf dX12_house_15) ?_
  refine fc (ok_goto hB (t := 22) (by decide) dX12_house_18) ?_
  refine fc (ok_iconst hB dX12_house_21) ?_
  refine fc (ok_iret hB dX12_house_22) ?_
  exact fn

def w_X12_house : WP := fun av σ Q => ∃ (t : Int), av = [(28, 5000), (0, t)] ∧ (InR t ∧ mX σ 5015 ∧ (¬ (0 ≤ t ∧ t < σ 5000 30) → Q (0, -1) (th0 σ)) ∧ (0 ≤ t ∧ t < σ 5000 30 → Q (0, hbits (tkN σ) t (σ 5000 29).toNat) (th0 σ)))
theorem w_X12_house_e (t : Int) (σ : Mem) (Q : AV → Mem → Prop) : w_X12_house [(28, 5000), (0, t)] σ Q = (InR t ∧ mX σ 5015 ∧ (¬ (0 ≤ t ∧ t < σ 5000 30) → Q (0, -1) (th0 σ)) ∧ (0 ≤ t ∧ t < σ 5000 30 → Q (0, hbits (tkN σ) t (σ 5000 29).toNat) (th0 σ))) := by
  apply propext; constructor
  · rintro ⟨t', h9, hb9⟩; cases h9; exact hb9
  · intro hb9; exact ⟨t, rfl, hb9⟩

set_option maxRecDepth 100000 in
set_option maxHeartbeats 4000000 in
theorem s_X12_house : ∀ av σ Q, w_X12_house av σ Q → amCall 1 0 0 TT yX12_house cX12_house 2 (some .int) av σ Q := by
  rintro av σ Q ⟨t, rfl, ht, hx, h1, h2⟩
  have e30 : th0 σ 5000 30 = σ 5000 30 := th_k σ (by decide)
  have e29 : th0 σ 5000 29 = σ 5000 29 := th_k σ (by decide)
  have t15 : th0 σ 5015 = σ 5015 := th_o σ (by decide)
  have n29 := hx.2.1.2.2.1
  have n30 := hx.2.1.2.2.2.1
  have hj := fun c a b => ((mX_j hx).1 c a b).1
  have et : tkN (th0 σ) = tkN σ := by unfold tkN; rw [t15]
  refine am_m0 (own := RX12) (A := look a_X12_house) (fun X e1 e2 hB => o_X12_house e1 e2 hB) rfl (by decide +kernel) rfl rfl 190 (w := 2) ?_
  change vcs _ _ _ _ 190 0 [(28, 5000), (0, t)] [] σ
  simp only [↓reduceIte, inR_0, inR_1, inR_m, vSw2_e, swP_n, swP_c, vI_e, vL_e, vNull_e, vIload_e, vLload_e, vAload_e, vIstore_e, vLstore_e, vAstore_e, vIinc_e, vIadd_e, vIsub_e, vImul_e, vIand_e, vIor_e, vIxor_e, vIshl_e, vIshr_e, vIushr_e, vIdiv_e, vIrem_e, vLadd_e, vLsub_e, vLmul_e, vLand_e, vLor_e, vLxor_e, vLdiv_e, vLrem_e, vLushr_e, vLshl_e, vLcmp_e, vIneg_e, vI2l_e, vL2i_e, vI2b_e, vI2c_e, vDup_e, vPop_e, vDup2_e, vGoto_e, vIcEq_e, vIfEq_e, vIcNe_e, vIfNe_e, vIcLt_e, vIfLt_e, vIcGe_e, vIfGe_e, vIcGt_e, vIfGt_e, vIcLe_e, vIfLe_e, vNonnull_e, vSw_e, vGetI_e, vGetL_e, vGetR_e, vPutI_e, vPutZ_e, vPutL_e, vPutR_e, vIald_e, vIald_s, vLald_e, vBald_e, vBald_s, vAald_e, vIast_e, vLast_e, vBast_e, vAast_e, vAlen_e8, vAlen_e9, vAlen_e10, vAlen_e11, vAlen_e5, vAlen_e3, vGets_e, vCompact_e, vLdcS_e, vIret_e, vZret_e, vCret_e, vBret_e, vLret_e, vVret_e, vAret_e, vCallM_e0, vCallMV_e0, vCallS_e0, vCallSV_e0, vCallM_e1, vCallMV_e1, vCallS_e1, vCallSV_e1, vCallM_e2, vCallMV_e2, vCallS_e2, vCallSV_e2, vCallM_e3, vCallMV_e3, vCallS_e3, vCallSV_e3, vCallM_e4, vCallMV_e4, vCallS_e4, vCallSV_e4, vCallM_e5, vCallMV_e5, vCallS_e5, vCallSV_e5, vCallM_e6, vCallMV_e6, vCallS_e6, vCallSV_e6, vCallM_e7, vCallMV_e7, vCallS_e7, vCallSV_e7, vBad_e, vStrVal_e, vStrCod_e, vForm_e, vCallT_e0, vCallT_e1, vCallT_e2, vCopy_e, rf_0_0, rf_0_1, rf_0_2, rf_0_3, rf_0_4, rf_0_7, rf_0_10, rf_0_11, rf_0_12, rf_0_13, rf_0_14, rf_0_15, rf_0_16, rf_1_0, rf_3_0, rf_3_1, rf_6_0, rf_6_1, rf_9_0, rf_9_1, rf_9_3, rf_13_0, rf_13_1, rf_13_2, rf_16_0, rf_16_1, rf_16_2, rf_16_3, rf_21_0, rf_21_1, rf_21_2, rf_21_3, rf_26_0, rf_26_1, rf_26_2, rf_26_3, rf_26_4, rf_26_5, rf_26_6, rf_31_0, rf_31_2, rf_31_5, rf_31_6, rf_36_0, rf_36_1, rf_36_2, rf_36_3, rf_39_0, rf_39_1, rf_39_2, rf_41_0, rf_41_1, rf_41_2, rf_41_3, rf_5000_1, rf_5000_2, rf_5000_3, rf_5000_4, rf_5000_5, rf_5000_15, rf_5000_16, rf_5000_18, rf_5000_19, rf_5000_20, rf_5000_21, rf_5000_22, rf_5000_23, rf_5000_24, rf_5000_25, rf_5000_26, rf_5000_27, rf_5000_36, rf_5000_37, rf_5000_40, rf_5000_41, rf_5000_42, rf_5000_43, rf_5000_44, rf_5000_45, rf_5000_47, rf_5000_52, rf_5000_54, rf_5000_55, rf_100_0, rf_100_1, rf_103_0, rf_103_1, rf_106_0, rf_106_1, rf_109_0, rf_109_1, al_2, al_4, al_5, al_7, al_8, al_10, al_11, al_12, al_14, al_15, al_17, al_18, al_19, al_20, al_22, al_23, al_24, al_25, al_27, al_28, al_29, al_30, al_32, al_33, al_34, al_35, al_37, al_38, al_40, al_42, al_5001, al_5002, al_5003, al_5004, al_5005, al_5006, al_5007, al_5008, al_5009, al_5010, al_5011, al_5012, al_5013, al_5014, al_5015, al_5016, al_5017, al_5018, al_5019, al_5020, al_5021, al_5022, al_5023, al_5024, al_5025, al_5026, al_9000, al_101, al_102, al_104, al_105, al_107, al_108, al_110, al_111, vcs_e, lg_c0, lg_cs, lg_nil, set_c0, set_cs, okst_0, okst_s, acok_n, acok_c, List.contains_nil, List.contains_cons, Bool.or_false, Bool.false_or, Bool.false_eq_true, if_false, if_true, ite_self, ne_eq, true_and, and_true, not_false_eq_true, not_true_eq_false, false_imp_iff, true_imp_iff, Nat.ble_eq, Bool.and_eq_true, reduceCtorEq, or_false, false_or, or_true, true_or, false_and, and_false, and_self, Int.reduceLE, Int.reduceAdd, Int.reduceSub, Int.reduceMul, Int.reduceNeg, Int.reduceLT, Int.reduceEq, Int.reduceNe, Nat.reduceBEq, Nat.reduceBNe, Nat.reduceEqDiff, amCmp_in, amCmp_lt, amCmp_le, amCmp_gt, amCmp_ge, amCmp_eq, amCmp_ne, Nat.reduceLeDiff, Nat.reduceSub, Bool.and_true, Bool.true_and, Bool.and_self, Bool.or_true, Bool.true_or, isRf_3, isRf_4, isRf_5, isRf_8, isRf_9, isRf_10, isRf_11, isRf_15, isRf_16, isRf_17, isRf_18, isRf_19, isRf_20, isRf_21, isRf_22, isRf_23, isRf_24, isRf_25, isRf_26, isRf_27, isRf_28, k_X12_house_0, k_X12_house_1, k_X12_house_2, k_X12_house_5, k_X12_house_6, k_X12_house_7, k_X12_house_10, k_X12_house_13, k_X12_house_14, k_X12_house_15, k_X12_house_18, k_X12_house_21, k_X12_house_22, w_X12_houseOf_e, w_X12_isSitter_e, up_s, up_nj, up_na, up_up, savR_o, cpy_o, fillm_o, setAud_o, setv_o, setv_s, Int.reduceNe, Int.reduceEq, Int.reduceLT, Int.reduceAdd, not_false_eq_true, ne_eq, or_true, true_or, e30, e29, t15, et]
  by_cases d : 0 ≤ t ∧ t < σ 5000 30
  · rw [if_pos d]
    have q8 := h2 d
    repeat' (first | assumption | exact hj | apply And.intro | intro _)
    all_goals first | omega | exact absurd trivial (by assumption) | exact q8
  · rw [if_neg d]
    have q8 := h1 d
    repeat' (first | assumption | exact hj | apply And.intro | intro _)
    all_goals first | omega | exact absurd trivial (by assumption) | exact q8
theorem wd_1893 : Cond.methodLink RX12 479 yJ6_bitCount_0f7a4 ∈ TBL := tb_tab (List.mem_of_getElem? (i := 1893) (by decide +kernel)) rfl
theorem lk_X12_479 : amLk RX12 479 yJ6_bitCount_0f7a4 cJ6_bitCount_0f7a4 1 (some .int) 1 := ⟨wd_1893, wd_26, wd_804, by decide +kernel, by decide +kernel, by decide⟩
def a_X12_soldTo : AC := [(0, vI 0 1), (1, vIstore 3 2), (2, vI 0 3), (3, vIstore 4 5), (5, vIload 4 7), (7, vAload 0 8), (8, vGetI 28 30 11), (11, vIcGe 51 14), (14, vIload 3 15), (15, vAload 0 16), (16, vIload 4 18), (18, vCallM w_X12_houseOf 28 1 21), (21, vCallS w_J6_bitCount_0f7a4 1 24), (24, vI2l 25), (25, vIload 1 26), (26, vI2l 27), (27, vIload 2 28), (28, vI2l 29), (29, vCallS w_X12_isIn 3 32), (32, vIfEq 42 35), (35, vI 1 36), (36, vIload 4 38), (38, vIshl 39), (39, vGoto 43), (42, vI 0 43), (43, vIor 44), (44, vIstore 3 45), (45, vIinc 4 1 48), (48, vGoto 5), (51, vIload 3 52), (52, vIret)]
theorem k_X12_soldTo_0 : look a_X12_soldTo 0 = vI 0 1 := rfl
theorem k_X12_soldTo_1 : look a_X12_soldTo 1 = vIstore 3 2 := rfl
theorem k_X12_soldTo_2 : look a_X12_soldTo 2 = vI 0 3 := rfl
theorem k_X12_soldTo_3 : look a_X12_soldTo 3 = vIstore 4 5 := rfl
theorem k_X12_soldTo_5 : look a_X12_soldTo 5 = vIload 4 7 := rfl
theorem k_X12_soldTo_7 : look a_X12_soldTo 7 = vAload 0 8 := rfl
theorem k_X12_soldTo_8 : look a_X12_soldTo 8 = vGetI 28 30 11 := rfl
theorem k_X12_soldTo_11 : look a_X12_soldTo 11 = vIcGe 51 14 := rfl
theorem k_X12_soldTo_14 : look a_X12_soldTo 14 = vIload 3 15 := rfl
theorem k_X12_soldTo_15 : look a_X12_soldTo 15 = vAload 0 16 := rfl
theorem k_X12_soldTo_16 : look a_X12_soldTo 16 = vIload 4 18 := rfl
theorem k_X12_soldTo_18 : look a_X12_soldTo 18 = vCallM w_X12_houseOf 28 1 21 := rfl
theorem k_X12_soldTo_21 : look a_X12_soldTo 21 = vCallS w_J6_bitCount_0f7a4 1 24 := rfl
theorem k_X12_soldTo_24 : look a_X12_soldTo 24 = vI2l 25 := rfl
theorem k_X12_soldTo_25 : look a_X12_soldTo 25 = vIload 1 26 := rfl
theorem k_X12_soldTo_26 : look a_X12_soldTo 26 = vI2l 27 := rfl
theorem k_X12_soldTo_27 : look a_X12_soldTo 27 = vIload 2 28 := rfl
theorem k_X12_soldTo_28 : look a_X12_soldTo 28 = vI2l 29 := rfl
theorem k_X12_soldTo_29 : look a_X12_soldTo 29 = vCallS w_X12_isIn 3 32 := rfl
theorem k_X12_soldTo_32 : look a_X12_soldTo 32 = vIfEq 42 35 := rfl
theorem k_X12_soldTo_35 : look a_X12_soldTo 35 = vI 1 36 := rfl
theorem k_X12_soldTo_36 : look a_X12_soldTo 36 = vIload 4 38 := rfl
theorem k_X12_soldTo_38 : look a_X12_soldTo 38 = vIshl 39 := rfl
theorem k_X12_soldTo_39 : look a_X12_soldTo 39 = vGoto 43 := rfl
theorem k_X12_soldTo_42 : look a_X12_soldTo 42 = vI 0 43 := rfl
theorem k_X12_soldTo_43 : look a_X12_soldTo 43 = vIor 44 := rfl
theorem k_X12_soldTo_44 : look a_X12_soldTo 44 = vIstore 3 45 := rfl
theorem k_X12_soldTo_45 : look a_X12_soldTo 45 = vIinc 4 1 48 := rfl
theorem k_X12_soldTo_48 : look a_X12_soldTo 48 = vGoto 5 := rfl
theorem k_X12_soldTo_51 : look a_X12_soldTo 51 = vIload 3 52 := rfl
theorem k_X12_soldTo_52 : look a_X12_soldTo 52 = vIret := rfl
theorem o_X12_soldTo {X : amX} (e1 : XT X = TT) (e2 : XD X = 1) (hB : amB X RX12 cX12_soldTo (some .int) 5) : ∀ pc, amOK X pc (look a_X12_soldTo pc) := by
  have hT : amTok (XT X) := e1 ▸ TT_ok
  refine look_ok ?_
  unfold a_X12_soldTo
  refine fc (ok_iconst hB dX12_soldTo_0) ?_
  refine fc (ok_istore_n hB (by decide) dX12_soldTo_1) ?_
  refine fc (ok_iconst hB dX12_soldTo_2) ?_
  refine fc (ok_istore hB (by decide) dX12_soldTo_3) ?_
  refine fc (ok_iload hB dX12_soldTo_5) ?_
  refine fc (ok_aload_n hB dX12_soldTo_7) ?_
  refine fc (ok_getI hB hT fl_X12_320 rfl rfl (Or.inl af_12_30) dX12_soldTo_8) ?_
  refine fc (ok_icmp_ge hB (t := 51) (by decide) dX12_soldTo_11) ?_
  refine fc (ok_iload_n hB dX12_soldTo_14) ?_
  refine fc (ok_aload_n hB dX12_soldTo_15) ?_
  refine fc (ok_iload hB dX12_soldTo_16) ?_
  refine fc (ok_callM hB hT (e1 ▸ s_X12_houseOf) lk_X12_486 (by rw [e2]; decide) (c := 12) rfl rfl rfl wd_1917 sl_X12_houseOf dX12_soldTo_18) ?_
  refine fc (ok_callS hB (e1 ▸ s_J6_bitCount_0f7a4) lk_X12_479 (by rw [e2]; decide) wd_803 dX12_soldTo_21) ?_
  refine fc (ok_i2l hB dX12_soldTo_24) ?_
  refine fc (ok_iload_n hB dX12_soldTo_25) ?_
  refine fc (ok_i2l hB dX12_soldTo_26) ?_
  refine fc (ok_iload_n hB dX12_soldTo_27) ?_
  refine fc (ok_i2l hB dX12_soldTo_28) ?_
  refine fc (ok_callS hB (e1 ▸ s_X12_isIn) lk_X12_232 (by rw [e2]; decide) wd_1502 dX12_soldTo_29) ?_
  refine fc (ok_if_eq hB (t := 42) (by decide) dX12_soldTo_32) ?_
  refine fc (ok_iconst hB dX12_soldTo_35) ?_
  refine fc (ok_iload hB dX12_soldTo_36) ?_
  refine fc (ok_ishl hB dX12_soldTo_38) ?_
  refine fc (ok_goto hB (t := 43) (by decide) dX12_soldTo_39) ?_
  refine fc (ok_iconst hB dX12_soldTo_42) ?_
  refine fc (ok_ior hB dX12_soldTo_43) ?_
  refine fc (ok_istore_n hB (by decide) dX12_soldTo_44) ?_
  refine fc (ok_iinc hB (by decide) dX12_soldTo_45) ?_
  refine fc (ok_goto hB (t := 5) (by decide) dX12_soldTo_48) ?_
  refine fc (ok_iload_n hB dX12_soldTo_51) ?_
  refine fc (ok_iret hB dX12_soldTo_52) ?_
  exact fn
def sdB (σ : Mem) (f g t : Int) : Bool := decide (f ≤ popc (hbits (tkN σ) t (σ 5000 29).toNat) ∧ popc (hbits (tkN σ) t (σ 5000 29).toNat) ≤ g)
def inv_sdt (σ : Mem) (f g : Int) (n pc : Nat) (ls st : List AV) (σ' : Mem) : Prop := pc = 5 ∧ st = [] ∧ σ' = σ ∧ ∃ k : Nat, ls = [(28, 5000), (0, f), (0, g), (0, gb (sdB σ f g) k), (0, (k : Int))] ∧ (k : Int) + n = σ 5000 30
def w_X12_soldTo : WP := fun av σ Q => ∃ (f : Int) (g : Int), av = [(28, 5000), (0, f), (0, g)] ∧ (InR f ∧ InR g ∧ 0 ≤ σ 5000 29 ∧ σ 5000 29 ≤ 6 ∧ 0 ≤ σ 5000 30 ∧ σ 5000 30 ≤ 6 ∧ (∀ c, 0 ≤ c → c < σ 5000 29 → InR (σ 5015 (4 * c + 1))) ∧ Q (0, gb (sdB σ f g) (σ 5000 30).toNat) σ)
theorem w_X12_soldTo_e (f : Int) (g : Int) (σ : Mem) (Q : AV → Mem → Prop) : w_X12_soldTo [(28, 5000), (0, f), (0, g)] σ Q = (InR f ∧ InR g ∧ 0 ≤ σ 5000 29 ∧ σ 5000 29 ≤ 6 ∧ 0 ≤ σ 5000 30 ∧ σ 5000 30 ≤ 6 ∧ (∀ c, 0 ≤ c → c < σ 5000 29 → InR (σ 5015 (4 * c + 1))) ∧ Q (0, gb (sdB σ f g) (σ 5000 30).toNat) σ) := by
  apply propext; constructor
  · rintro ⟨f', g', h9, hb9⟩; cases h9; exact hb9
  · intro hb9; exact ⟨f, g, rfl, hb9⟩

set_option maxRecDepth 100000 in
set_option maxHeartbeats 4000000 in
theorem s_X12_soldTo : ∀ av σ Q, w_X12_soldTo av σ Q → amCall 1 0 0 TT yX12_soldTo cX12_soldTo 5 (some .int) av σ Q := by
  rintro av σ Q ⟨f, g, rfl, hf, hg, c0, c1, s0, s1, hj, h⟩
  refine am_m [5] (inv_sdt σ f g) (own := RX12) (A := look a_X12_soldTo) (fun X e1 e2 hB => o_X12_soldTo e1 e2 hB) rfl (by decide +kernel) rfl rfl ?_ ⟨60, ?_⟩ (w := 5)
  · rintro n pc ls st σ' ⟨rfl, rfl, rfl, k, rfl, hn⟩
    refine ⟨60, ?_⟩
    by_cases cc : (k : Int) < σ' 5000 30
    · have hb := gb_b (sdB σ' f g) k
      have h64 := gb_64 (sdB σ' f g) (n := k) (by omega)
      have hh := hbits_64 (tkN σ') k (n := (σ' 5000 29).toNat) (by omega)
      have pc' := bcx_popc hh.1 hh.2
      have pb := popc_b (hbits (tkN σ') k (σ' 5000 29).toNat)
      have e : gb (sdB σ' f g) (k + 1) = gb (sdB σ' f g) k + if sdB σ' f g k = true then 2 ^ k else 0 := rfl
      have i9 : ∀ v, v = gb (sdB σ' f g) (k + 1) → ∃ k', k' < n ∧ inv_sdt σ' f g k' 5 [(28, 5000), (0, f), (0, g), (0, v), (0, (k : Int) + 1)] [] σ' := fun v q => ⟨n - 1, by omega, rfl, rfl, rfl, k + 1, by rw [q]; rfl, by omega⟩
      have b6 := bor6' (i := k) (by omega) hb.1 hb.2
      have bz := bor_z h64.1 h64.2
      have sd : sdB σ' f g k = decide (f ≤ popc (hbits (tkN σ') k (σ' 5000 29).toNat) ∧ popc (hbits (tkN σ') k (σ' 5000 29).toNat) ≤ g) := rfl
      by_cases d : f ≤ popc (hbits (tkN σ') k (σ' 5000 29).toNat) ∧ popc (hbits (tkN σ') k (σ' 5000 29).toNat) ≤ g
      · have i8 := i9 (gb (sdB σ' f g) k + 2 ^ k) (by rw [e, sd, if_pos (decide_eq_true d)])
        simp only [↓reduceIte, inR_0, inR_1, inR_m, vSw2_e, swP_n, swP_c, vI_e, vL_e, vNull_e, vIload_e, vLload_e, vAload_e, vIstore_e, vLstore_e, vAstore_e, vIinc_e, vIadd_e, vIsub_e, vImul_e, vIand_e, vIor_e, vIxor_e, vIshl_e, vIshr_e, vIushr_e, vIdiv_e, vIrem_e, vLadd_e, vLsub_e, vLmul_e, vLand_e, vLor_e, vLxor_e, vLdiv_e, vLrem_e, vLushr_e, vLshl_e, vLcmp_e, vIneg_e, vI2l_e, vL2i_e, vI2b_e, vI2c_e, vDup_e, vPop_e, vDup2_e, vGoto_e, vIcEq_e, vIfEq_e, vIcNe_e, vIfNe_e, vIcLt_e, vIfLt_e, vIcGe_e, vIfGe_e, vIcGt_e, vIfGt_e, vIcLe_e, vIfLe_e, vNonnull_e, vSw_e, vGetI_e, vGetL_e, vGetR_e, vPutI_e, vPutZ_e, vPutL_e, vPutR_e, vIald_e, vIald_s, vLald_e, vBald_e, vBald_s, vAald_e, vIast_e, vLast_e, vBast_e, vAast_e, vAlen_e8, vAlen_e9, vAlen_e10, vAlen_e11, vAlen_e5, vAlen_e3, vGets_e, vCompact_e, vLdcS_e, vIret_e, vZret_e, vCret_e, vBret_e, vLret_e, vVret_e, vAret_e, vCallM_e0, vCallMV_e0, vCallS_e0, vCallSV_e0, vCallM_e1, vCallMV_e1, vCallS_e1, vCallSV_e1, vCallM_e2, vCallMV_e2, vCallS_e2, vCallSV_e2, vCallM_e3, vCallMV_e3, vCallS_e3, vCallSV_e3, vCallM_e4, vCallMV_e4, vCallS_e4, vCallSV_e4, vCallM_e5, vCallMV_e5, vCallS_e5, vCallSV_e5, vCallM_e6, vCallMV_e6, vCallS_e6, vCallSV_e6, vCallM_e7, vCallMV_e7, vCallS_e7, vCallSV_e7, vBad_e, vStrVal_e, vStrCod_e, vForm_e, vCallT_e0, vCallT_e1, vCallT_e2, vCopy_e, rf_0_0, rf_0_1, rf_0_2, rf_0_3, rf_0_4, rf_0_7, rf_0_10, rf_0_11, rf_0_12, rf_0_13, rf_0_14, rf_0_15, rf_0_16, rf_1_0, rf_3_0, rf_3_1, rf_6_0, rf_6_1, rf_9_0, rf_9_1, rf_9_3, rf_13_0, rf_13_1, rf_13_2, rf_16_0, rf_16_1, rf_16_2, rf_16_3, rf_21_0, rf_21_1, rf_21_2, rf_21_3, rf_26_0, rf_26_1, rf_26_2, rf_26_3, rf_26_4, rf_26_5, rf_26_6, rf_31_0, rf_31_2, rf_31_5, rf_31_6, rf_36_0, rf_36_1, rf_36_2, rf_36_3, rf_39_0, rf_39_1, rf_39_2, rf_41_0, rf_41_1, rf_41_2, rf_41_3, rf_5000_1, rf_5000_2, rf_5000_3, rf_5000_4, rf_5000_5, rf_5000_15, rf_5000_16, rf_5000_18, rf_5000_19, rf_5000_20, rf_5000_21, rf_5000_22, rf_5000_23, rf_5000_24, rf_5000_25, rf_5000_26, rf_5000_27, rf_5000_36, rf_5000_37, rf_5000_40, rf_5000_41, rf_5000_42, rf_5000_43, rf_5000_44, rf_5000_45, rf_5000_47, rf_5000_52, rf_5000_54, rf_5000_55, rf_100_0, rf_100_1, rf_103_0, rf_103_1, rf_106_0, rf_106_1, rf_109_0, rf_109_1, al_2, al_4, al_5, al_7, al_8, al_10, al_11, al_12, al_14, al_15, al_17, al_18, al_19, al_20, al_22, al_23, al_24, al_25, al_27, al_28, al_29, al_30, al_32, al_33, al_34, al_35, al_37, al_38, al_40, al_42, al_5001, al_5002, al_5003, al_5004, al_5005, al_5006, al_5007, al_5008, al_5009, al_5010, al_5011, al_5012, al_5013, al_5014, al_5015, al_5016, al_5017, al_5018, al_5019, al_5020, al_5021, al_5022, al_5023, al_5024, al_5025, al_5026, al_9000, al_101, al_102, al_104, al_105, al_107, al_108, al_110, al_111, vcs_e, lg_c0, lg_cs, lg_nil, set_c0, set_cs, okst_0, okst_s, acok_n, acok_c, List.contains_nil, List.contains_cons, Bool.or_false, Bool.false_or, Bool.false_eq_true, if_false, if_true, ite_self, ne_eq, true_and, and_true, not_false_eq_true, not_true_eq_false, false_imp_iff, true_imp_iff, Nat.ble_eq, Bool.and_eq_true, reduceCtorEq, or_false, false_or, or_true, true_or, false_and, and_false, and_self, Int.reduceLE, Int.reduceAdd, Int.reduceSub, Int.reduceMul, Int.reduceNeg, Int.reduceLT, Int.reduceEq, Int.reduceNe, Nat.reduceBEq, Nat.reduceBNe, Nat.reduceEqDiff, amCmp_in, amCmp_lt, amCmp_le, amCmp_gt, amCmp_ge, amCmp_eq, amCmp_ne, Nat.reduceLeDiff, Nat.reduceSub, Bool.and_true, Bool.true_and, Bool.and_self, Bool.or_true, Bool.true_or, isRf_3, isRf_4, isRf_5, isRf_8, isRf_9, isRf_10, isRf_11, isRf_15, isRf_16, isRf_17, isRf_18, isRf_19, isRf_20, isRf_21, isRf_22, isRf_23, isRf_24, isRf_25, isRf_26, isRf_27, isRf_28, k_X12_soldTo_0, k_X12_soldTo_1, k_X12_soldTo_2, k_X12_soldTo_3, k_X12_soldTo_5, k_X12_soldTo_7, k_X12_soldTo_8, k_X12_soldTo_11, k_X12_soldTo_14, k_X12_soldTo_15, k_X12_soldTo_16, k_X12_soldTo_18, k_X12_soldTo_21, k_X12_soldTo_24, k_X12_soldTo_25, k_X12_soldTo_26, k_X12_soldTo_27, k_X12_soldTo_28, k_X12_soldTo_29, k_X12_soldTo_32, k_X12_soldTo_35, k_X12_soldTo_36, k_X12_soldTo_38, k_X12_soldTo_39, k_X12_soldTo_42, k_X12_soldTo_43, k_X12_soldTo_44, k_X12_soldTo_45, k_X12_soldTo_48, k_X12_soldTo_51, k_X12_soldTo_52, w_J6_bitCount_0f7a4_e, w_X12_houseOf_e, w_X12_isIn_e, b6, bz, pc', if_pos d]
        repeat' (first | assumption | exact hj | apply And.intro | intro _)
        all_goals first | omega | exact absurd trivial (by assumption) | exact i8
      · have i8 := i9 (gb (sdB σ' f g) k) (by rw [e, sd, decide_eq_false d, if_neg (by decide), Int.add_zero])
        simp only [↓reduceIte, inR_0, inR_1, inR_m, vSw2_e, swP_n, swP_c, vI_e, vL_e, vNull_e, vIload_e, vLload_e, vAload_e, vIstore_e, vLstore_e, vAstore_e, vIinc_e, vIadd_e, vIsub_e, vImul_e, vIand_e, vIor_e, vIxor_e, vIshl_e, vIshr_e, vIushr_e, vIdiv_e, vIrem_e, vLadd_e, vLsub_e, vLmul_e, vLand_e, vLor_e, vLxor_e, vLdiv_e, vLrem_e, vLushr_e, vLshl_e, vLcmp_e, vIneg_e, vI2l_e, vL2i_e, vI2b_e, vI2c_e, vDup_e, vPop_e, vDup2_e, vGoto_e, vIcEq_e, vIfEq_e, vIcNe_e, vIfNe_e, vIcLt_e, vIfLt_e, vIcGe_e, vIfGe_e, vIcGt_e, vIfGt_e, vIcLe_e, vIfLe_e, vNonnull_e, vSw_e, vGetI_e, vGetL_e, vGetR_e, vPutI_e, vPutZ_e, vPutL_e, vPutR_e, vIald_e, vIald_s, vLald_e, vBald_e, vBald_s, vAald_e, vIast_e, vLast_e, vBast_e, vAast_e, vAlen_e8, vAlen_e9, vAlen_e10, vAlen_e11, vAlen_e5, vAlen_e3, vGets_e, vCompact_e, vLdcS_e, vIret_e, vZret_e, vCret_e, vBret_e, vLret_e, vVret_e, vAret_e, vCallM_e0, vCallMV_e0, vCallS_e0, vCallSV_e0, vCallM_e1, vCallMV_e1, vCallS_e1, vCallSV_e1, vCallM_e2, vCallMV_e2, vCallS_e2, vCallSV_e2, vCallM_e3, vCallMV_e3, vCallS_e3, vCallSV_e3, vCallM_e4, vCallMV_e4, vCallS_e4, vCallSV_e4, vCallM_e5, vCallMV_e5, vCallS_e5, vCallSV_e5, vCallM_e6, vCallMV_e6, vCallS_e6, vCallSV_e6, vCallM_e7, vCallMV_e7, vCallS_e7, vCallSV_e7, vBad_e, vStrVal_e, vStrCod_e, vForm_e, vCallT_e0, vCallT_e1, vCallT_e2, vCopy_e, rf_0_0, rf_0_1, rf_0_2, rf_0_3, rf_0_4, rf_0_7, rf_0_10, rf_0_11, rf_0_12, rf_0_13, rf_0_14, rf_0_15, rf_0_16, rf_1_0, rf_3_0, rf_3_1, rf_6_0, rf_6_1, rf_9_0, rf_9_1, rf_9_3, rf_13_0, rf_13_1, rf_13_2, rf_16_0, rf_16_1, rf_16_2, rf_16_3, rf_21_0, rf_21_1, rf_21_2, rf_21_3, rf_26_0, rf_26_1, rf_26_2, rf_26_3, rf_26_4, rf_26_5, rf_26_6, rf_31_0, rf_31_2, rf_31_5, rf_31_6, rf_36_0, rf_36_1, rf_36_2, rf_36_3, rf_39_0, rf_39_1, rf_39_2, rf_41_0, rf_41_1, rf_41_2, rf_41_3, rf_5000_1, rf_5000_2, rf_5000_3, rf_5000_4, rf_5000_5, rf_5000_15, rf_5000_16, rf_5000_18, rf_5000_19, rf_5000_20, rf_5000_21, rf_5000_22, rf_5000_23, rf_5000_24, rf_5000_25, rf_5000_26, rf_5000_27, rf_5000_36, rf_5000_37, rf_5000_40, rf_5000_41, rf_5000_42, rf_5000_43, rf_5000_44, rf_5000_45, rf_5000_47, rf_5000_52, rf_5000_54, rf_5000_55, rf_100_0, rf_100_1, rf_103_0, rf_103_1, rf_106_0, rf_106_1, rf_109_0, rf_109_1, al_2, al_4, al_5, al_7, al_8, al_10, al_11, al_12, al_14, al_15, al_17, al_18, al_19, al_20, al_22, al_23, al_24, al_25, al_27, al_28, al_29, al_30, al_32, al_33, al_34, al_35, al_37, al_38, al_40, al_42, al_5001, al_5002, al_5003, al_5004, al_5005, al_5006, al_5007, al_5008, al_5009, al_5010, al_5011, al_5012, al_5013, al_5014, al_5015, al_5016, al_5017, al_5018, al_5019, al_5020, al_5021, al_5022, al_5023, al_5024, al_5025, al_5026, al_9000, al_101, al_102, al_104, al_105, al_107, al_108, al_110, al_111, vcs_e, lg_c0, lg_cs, lg_nil, set_c0, set_cs, okst_0, okst_s, acok_n, acok_c, List.contains_nil, List.contains_cons, Bool.or_false, Bool.false_or, Bool.false_eq_true, if_false, if_true, ite_self, ne_eq, true_and, and_true, not_false_eq_true, not_true_eq_false, false_imp_iff, true_imp_iff, Nat.ble_eq, Bool.and_eq_true, reduceCtorEq, or_false, false_or, or_true, true_or, false_and, and_false, and_self, Int.reduceLE, Int.reduceAdd, Int.reduceSub, Int.reduceMul, Int.reduceNeg, Int.reduceLT, Int.reduceEq, Int.reduceNe, Nat.reduceBEq, Nat.reduceBNe, Nat.reduceEqDiff, amCmp_in, amCmp_lt, amCmp_le, amCmp_gt, amCmp_ge, amCmp_eq, amCmp_ne, Nat.reduceLeDiff, Nat.reduceSub, Bool.and_true, Bool.true_and, Bool.and_self, Bool.or_true, Bool.true_or, isRf_3, isRf_4, isRf_5, isRf_8, isRf_9, isRf_10, isRf_11, isRf_15, isRf_16, isRf_17, isRf_18, isRf_19, isRf_20, isRf_21, isRf_22, isRf_23, isRf_24, isRf_25, isRf_26, isRf_27, isRf_28, k_X12_soldTo_0, k_X12_soldTo_1, k_X12_soldTo_2, k_X12_soldTo_3, k_X12_soldTo_5, k_X12_soldTo_7, k_X12_soldTo_8, k_X12_soldTo_11, k_X12_soldTo_14, k_X12_soldTo_15, k_X12_soldTo_16, k_X12_soldTo_18, k_X12_soldTo_21, k_X12_soldTo_24, k_X12_soldTo_25, k_X12_soldTo_26, k_X12_soldTo_27, k_X12_soldTo_28, k_X12_soldTo_29, k_X12_soldTo_32, k_X12_soldTo_35, k_X12_soldTo_36, k_X12_soldTo_38, k_X12_soldTo_39, k_X12_soldTo_42, k_X12_soldTo_43, k_X12_soldTo_44, k_X12_soldTo_45, k_X12_soldTo_48, k_X12_soldTo_51, k_X12_soldTo_52, w_J6_bitCount_0f7a4_e, w_X12_houseOf_e, w_X12_isIn_e, b6, bz, pc', if_neg d]
        repeat' (first | assumption | exact hj | apply And.intro | intro _)
        all_goals first | omega | exact absurd trivial (by assumption) | exact i8
    · rw [show (σ' 5000 30).toNat = k by omega] at h
      simp only [↓reduceIte, inR_0, inR_1, inR_m, vSw2_e, swP_n, swP_c, vI_e, vL_e, vNull_e, vIload_e, vLload_e, vAload_e, vIstore_e, vLstore_e, vAstore_e, vIinc_e, vIadd_e, vIsub_e, vImul_e, vIand_e, vIor_e, vIxor_e, vIshl_e, vIshr_e, vIushr_e, vIdiv_e, vIrem_e, vLadd_e, vLsub_e, vLmul_e, vLand_e, vLor_e, vLxor_e, vLdiv_e, vLrem_e, vLushr_e, vLshl_e, vLcmp_e, vIneg_e, vI2l_e, vL2i_e, vI2b_e, vI2c_e, vDup_e, vPop_e, vDup2_e, vGoto_e, vIcEq_e, vIfEq_e, vIcNe_e, vIfNe_e, vIcLt_e, vIfLt_e, vIcGe_e, vIfGe_e, vIcGt_e, vIfGt_e, vIcLe_e, vIfLe_e, vNonnull_e, vSw_e, vGetI_e, vGetL_e, vGetR_e, vPutI_e, vPutZ_e, vPutL_e, vPutR_e, vIald_e, vIald_s, vLald_e, vBald_e, vBald_s, vAald_e, vIast_e, vLast_e, vBast_e, vAast_e, vAlen_e8, vAlen_e9, vAlen_e10, vAlen_e11, vAlen_e5, vAlen_e3, vGets_e, vCompact_e, vLdcS_e, vIret_e, vZret_e, vCret_e, vBret_e, vLret_e, vVret_e, vAret_e, vCallM_e0, vCallMV_e0, vCallS_e0, vCallSV_e0, vCallM_e1, vCallMV_e1, vCallS_e1, vCallSV_e1, vCallM_e2, vCallMV_e2, vCallS_e2, vCallSV_e2, vCallM_e3, vCallMV_e3, vCallS_e3, vCallSV_e3, vCallM_e4, vCallMV_e4, vCallS_e4, vCallSV_e4, vCallM_e5, vCallMV_e5, vCallS_e5, vCallSV_e5, vCallM_e6, vCallMV_e6, vCallS_e6, vCallSV_e6, vCallM_e7, vCallMV_e7, vCallS_e7, vCallSV_e7, vBad_e, vStrVal_e, vStrCod_e, vForm_e, vCallT_e0, vCallT_e1, vCallT_e2, vCopy_e, rf_0_0, rf_0_1, rf_0_2, rf_0_3, rf_0_4, rf_0_7, rf_0_10, rf_0_11, rf_0_12, rf_0_13, rf_0_14, rf_0_15, rf_0_16, rf_1_0, rf_3_0, rf_3_1, rf_6_0, rf_6_1, rf_9_0, rf_9_1, rf_9_3, rf_13_0, rf_13_1, rf_13_2, rf_16_0, rf_16_1, rf_16_2, rf_16_3, rf_21_0, rf_21_1, rf_21_2, rf_21_3, rf_26_0, rf_26_1, rf_26_2, rf_26_3, rf_26_4, rf_26_5, rf_26_6, rf_31_0, rf_31_2, rf_31_5, rf_31_6, rf_36_0, rf_36_1, rf_36_2, rf_36_3, rf_39_0, rf_39_1, rf_39_2, rf_41_0, rf_41_1, rf_41_2, rf_41_3, rf_5000_1, rf_5000_2, rf_5000_3, rf_5000_4, rf_5000_5, rf_5000_15, rf_5000_16, rf_5000_18, rf_5000_19, rf_5000_20, rf_5000_21, rf_5000_22, rf_5000_23, rf_5000_24, rf_5000_25, rf_5000_26, rf_5000_27, rf_5000_36, rf_5000_37, rf_5000_40, rf_5000_41, rf_5000_42, rf_5000_43, rf_5000_44, rf_5000_45, rf_5000_47, rf_5000_52, rf_5000_54, rf_5000_55, rf_100_0, rf_100_1, rf_103_0, rf_103_1, rf_106_0, rf_106_1, rf_109_0, rf_109_1, al_2, al_4, al_5, al_7, al_8, al_10, al_11, al_12, al_14, al_15, al_17, al_18, al_19, al_20, al_22, al_23, al_24, al_25, al_27, al_28, al_29, al_30, al_32, al_33, al_34, al_35, al_37, al_38, al_40, al_42, al_5001, al_5002, al_5003, al_5004, al_5005, al_5006, al_5007, al_5008, al_5009, al_5010, al_5011, al_5012, al_5013, al_5014, al_5015, al_5016, al_5017, al_5018, al_5019, al_5020, al_5021, al_5022, al_5023, al_5024, al_5025, al_5026, al_9000, al_101, al_102, al_104, al_105, al_107, al_108, al_110, al_111, vcs_e, lg_c0, lg_cs, lg_nil, set_c0, set_cs, okst_0, okst_s, acok_n, acok_c, List.contains_nil, List.contains_cons, Bool.or_false, Bool.false_or, Bool.false_eq_true, if_false, if_true, ite_self, ne_eq, true_and, and_true, not_false_eq_true, not_true_eq_false, false_imp_iff, true_imp_iff, Nat.ble_eq, Bool.and_eq_true, reduceCtorEq, or_false, false_or, or_true, true_or, false_and, and_false, and_self, Int.reduceLE, Int.reduceAdd, Int.reduceSub, Int.reduceMul, Int.reduceNeg, Int.reduceLT, Int.reduceEq, Int.reduceNe, Nat.reduceBEq, Nat.reduceBNe, Nat.reduceEqDiff, amCmp_in, amCmp_lt, amCmp_le, amCmp_gt, amCmp_ge, amCmp_eq, amCmp_ne, Nat.reduceLeDiff, Nat.reduceSub, Bool.and_true, Bool.true_and, Bool.and_self, Bool.or_true, Bool.true_or, isRf_3, isRf_4, isRf_5, isRf_8, isRf_9, isRf_10, isRf_11, isRf_15, isRf_16, isRf_17, isRf_18, isRf_19, isRf_20, isRf_21, isRf_22, isRf_23, isRf_24, isRf_25, isRf_26, isRf_27, isRf_28, k_X12_soldTo_0, k_X12_soldTo_1, k_X12_soldTo_2, k_X12_soldTo_3, k_X12_soldTo_5, k_X12_soldTo_7, k_X12_soldTo_8, k_X12_soldTo_11, k_X12_soldTo_14, k_X12_soldTo_15, k_X12_soldTo_16, k_X12_soldTo_18, k_X12_soldTo_21, k_X12_soldTo_24, k_X12_soldTo_25, k_X12_soldTo_26, k_X12_soldTo_27, k_X12_soldTo_28, k_X12_soldTo_29, k_X12_soldTo_32, k_X12_soldTo_35, k_X12_soldTo_36, k_X12_soldTo_38, k_X12_soldTo_39, k_X12_soldTo_42, k_X12_soldTo_43, k_X12_soldTo_44, k_X12_soldTo_45, k_X12_soldTo_48, k_X12_soldTo_51, k_X12_soldTo_52, w_J6_bitCount_0f7a4_e, w_X12_houseOf_e, w_X12_isIn_e]
      repeat' (first | apply And.intro | intro _)
      all_goals first | omega | exact absurd trivial (by assumption) | exact h
  · change vcs _ _ _ _ 60 0 [(28, 5000), (0, f), (0, g), (6, 0), (6, 0)] [] σ
    simp only [↓reduceIte, inR_0, inR_1, inR_m, vSw2_e, swP_n, swP_c, vI_e, vL_e, vNull_e, vIload_e, vLload_e, vAload_e, vIstore_e, vLstore_e, vAstore_e, vIinc_e, vIadd_e, vIsub_e, vImul_e, vIand_e, vIor_e, vIxor_e, vIshl_e, vIshr_e, vIushr_e, vIdiv_e, vIrem_e, vLadd_e, vLsub_e, vLmul_e, vLand_e, vLor_e, vLxor_e, vLdiv_e, vLrem_e, vLushr_e, vLshl_e, vLcmp_e, vIneg_e, vI2l_e, vL2i_e, vI2b_e, vI2c_e, vDup_e, vPop_e, vDup2_e, vGoto_e, vIcEq_e, vIfEq_e, vIcNe_e, vIfNe_e, vIcLt_e, vIfLt_e, vIcGe_e, vIfGe_e, vIcGt_e, vIfGt_e, vIcLe_e, vIfLe_e, vNonnull_e, vSw_e, vGetI_e, vGetL_e, vGetR_e, vPutI_e, vPutZ_e, vPutL_e, vPutR_e, vIald_e, vIald_s, vLald_e, vBald_e, vBald_s, vAald_e, vIast_e, vLast_e, vBast_e, vAast_e, vAlen_e8, vAlen_e9, vAlen_e10, vAlen_e11, vAlen_e5, vAlen_e3, vGets_e, vCompact_e, vLdcS_e, vIret_e, vZret_e, vCret_e, vBret_e, vLret_e, vVret_e, vAret_e, vCallM_e0, vCallMV_e0, vCallS_e0, vCallSV_e0, vCallM_e1, vCallMV_e1, vCallS_e1, vCallSV_e1, vCallM_e2, vCallMV_e2, vCallS_e2, vCallSV_e2, vCallM_e3, vCallMV_e3, vCallS_e3, vCallSV_e3, vCallM_e4, vCallMV_e4, vCallS_e4, vCallSV_e4, vCallM_e5, vCallMV_e5, vCallS_e5, vCallSV_e5, vCallM_e6, vCallMV_e6, vCallS_e6, vCallSV_e6, vCallM_e7, vCallMV_e7, vCallS_e7, vCallSV_e7, vBad_e, vStrVal_e, vStrCod_e, vForm_e, vCallT_e0, vCallT_e1, vCallT_e2, vCopy_e, rf_0_0, rf_0_1, rf_0_2, rf_0_3, rf_0_4, rf_0_7, rf_0_10, rf_0_11, rf_0_12, rf_0_13, rf_0_14, rf_0_15, rf_0_16, rf_1_0, rf_3_0, rf_3_1, rf_6_0, rf_6_1, rf_9_0, rf_9_1, rf_9_3, rf_13_0, rf_13_1, rf_13_2, rf_16_0, rf_16_1, rf_16_2, rf_16_3, rf_21_0, rf_21_1, rf_21_2, rf_21_3, rf_26_0, rf_26_1, rf_26_2, rf_26_3, rf_26_4, rf_26_5, rf_26_6, rf_31_0, rf_31_2, rf_31_5, rf_31_6, rf_36_0, rf_36_1, rf_36_2, rf_36_3, rf_39_0, rf_39_1, rf_39_2, rf_41_0, rf_41_1, rf_41_2, rf_41_3, rf_5000_1, rf_5000_2, rf_5000_3, rf_5000_4, rf_5000_5, rf_5000_15, rf_5000_16, rf_5000_18, rf_5000_19, rf_5000_20, rf_5000_21, rf_5000_22, rf_5000_23, rf_5000_24, rf_5000_25, rf_5000_26, rf_5000_27, rf_5000_36, rf_5000_37, rf_5000_40, rf_5000_41, rf_5000_42, rf_5000_43, rf_5000_44, rf_5000_45, rf_5000_47, rf_5000_52, rf_5000_54, rf_5000_55, rf_100_0, rf_100_1, rf_103_0, rf_103_1, rf_106_0, rf_106_1, rf_109_0, rf_109_1, al_2, al_4, al_5, al_7, al_8, al_10, al_11, al_12, al_14, al_15, al_17, al_18, al_19, al_20, al_22, al_23, al_24, al_25, al_27, al_28, al_29, al_30, al_32, al_33, al_34, al_35, al_37, al_38, al_40, al_42, al_5001, al_5002, al_5003, al_5004, al_5005, al_5006, al_5007, al_5008, al_5009, al_5010, al_5011, al_5012, al_5013, al_5014, al_5015, al_5016, al_5017, al_5018, al_5019, al_5020, al_5021, al_5022, al_5023, al_5024, al_5025, al_5026, al_9000, al_101, al_102, al_104, al_105, al_107, al_108, al_110, al_111, vcs_e, lg_c0, lg_cs, lg_nil, set_c0, set_cs, okst_0, okst_s, acok_n, acok_c, List.contains_nil, List.contains_cons, Bool.or_false, Bool.false_or, Bool.false_eq_true, if_false, if_true, ite_self, ne_eq, true_and, and_true, not_false_eq_true, not_true_eq_false, false_imp_iff, true_imp_iff, Nat.ble_eq, Bool.and_eq_true, reduceCtorEq, or_false, false_or, or_true, true_or, false_and, and_false, and_self, Int.reduceLE, Int.reduceAdd, Int.reduceSub, Int.reduceMul, Int.reduceNeg, Int.reduceLT, Int.reduceEq, Int.reduceNe, Nat.reduceBEq, Nat.reduceBNe, Nat.reduceEqDiff, amCmp_in, amCmp_lt, amCmp_le, amCmp_gt, amCmp_ge, amCmp_eq, amCmp_ne, Nat.reduceLeDiff, Nat.reduceSub, Bool.and_true, Bool.true_and, Bool.and_self, Bool.or_true, Bool.true_or, isRf_3, isRf_4, isRf_5, isRf_8, isRf_9, isRf_10, isRf_11, isRf_15, isRf_16, isRf_17, isRf_18, isRf_19, isRf_20, isRf_21, isRf_22, isRf_23, isRf_24, isRf_25, isRf_26, isRf_27, isRf_28, k_X12_soldTo_0, k_X12_soldTo_1, k_X12_soldTo_2, k_X12_soldTo_3, k_X12_soldTo_5, k_X12_soldTo_7, k_X12_soldTo_8, k_X12_soldTo_11, k_X12_soldTo_14, k_X12_soldTo_15, k_X12_soldTo_16, k_X12_soldTo_18, k_X12_soldTo_21, k_X12_soldTo_24, k_X12_soldTo_25, k_X12_soldTo_26, k_X12_soldTo_27, k_X12_soldTo_28, k_X12_soldTo_29, k_X12_soldTo_32, k_X12_soldTo_35, k_X12_soldTo_36, k_X12_soldTo_38, k_X12_soldTo_39, k_X12_soldTo_42, k_X12_soldTo_43, k_X12_soldTo_44, k_X12_soldTo_45, k_X12_soldTo_48, k_X12_soldTo_51, k_X12_soldTo_52]
    exact ⟨(σ 5000 30).toNat, rfl, rfl, rfl, 0, rfl, by omega⟩
def a_X12_isGame : AC := [(0, vAload 0 1), (1, vIload 1 2), (2, vCallM w_X12_isChair 28 1 5), (5, vIfEq 33 8), (8, vAload 0 9), (9, vIload 2 10), (10, vCallM w_X12_isChair 28 1 13), (13, vIfEq 33 16), (16, vIload 1 17), (17, vIload 2 18), (18, vIcEq 33 21), (21, vAload 0 22), (22, vIload 3 23), (23, vCallM w_X12_isPlay 28 1 26), (26, vIfEq 33 29), (29, vI 1 30), (30, vGoto 34), (33, vI 0 34), (34, vZret)]
theorem k_X12_isGame_0 : look a_X12_isGame 0 = vAload 0 1 := rfl
theorem k_X12_isGame_1 : look a_X12_isGame 1 = vIload 1 2 := rfl
theorem k_X12_isGame_2 : look a_X12_isGame 2 = vCallM w_X12_isChair 28 1 5 := rfl
theorem k_X12_isGame_5 : look a_X12_isGame 5 = vIfEq 33 8 := rfl
theorem k_X12_isGame_8 : look a_X12_isGame 8 = vAload 0 9 := rfl
theorem k_X12_isGame_9 : look a_X12_isGame 9 = vIload 2 10 := rfl
theorem k_X12_isGame_10 : look a_X12_isGame 10 = vCallM w_X12_isChair 28 1 13 := rfl
theorem k_X12_isGame_13 : look a_X12_isGame 13 = vIfEq 33 16 := rfl
theorem k_X12_isGame_16 : look a_X12_isGame 16 = vIload 1 17 := rfl
theorem k_X12_isGame_17 : look a_X12_isGame 17 = vIload 2 18 := rfl
theorem k_X12_isGame_18 : look a_X12_isGame 18 = vIcEq 33 21 := rfl
theorem k_X12_isGame_21 : look a_X12_isGame 21 = vAload 0 22 := rfl
theorem k_X12_isGame_22 : look a_X12_isGame 22 = vIload 3 23 := rfl
theorem k_X12_isGame_23 : look a_X12_isGame 23 = vCallM w_X12_isPlay 28 1 26 := rfl
theorem k_X12_isGame_26 : look a_X12_isGame 26 = vIfEq 33 29 := rfl
theorem k_X12_isGame_29 : look a_X12_isGame 29 = vI 1 30 := rfl
theorem k_X12_isGame_30 : look a_X12_isGame 30 = vGoto 34 := rfl
theorem k_X12_isGame_33 : look a_X12_isGame 33 = vI 0 34 := rfl
theorem k_X12_isGame_34 : look a_X12_isGame 34 = vZret := rfl
theorem o_X12_isGame {X : amX} (e1 : XT X = TT) (e2 : XD X = 1) (hB : amB X RX12 cX12_isGame (some .boolean) 4) : ∀ pc, amOK X pc (look a_X12_isGame pc) := by
  have hT : amTok (XT X) := e1 ▸ TT_ok
  refine look_ok ?_
  unfold a_X12_isGame
  refine fc (ok_aload_n hB dX12_isGame_0) ?_
  refine fc (ok_iload_n hB dX12_isGame_1) ?_
  refine fc (ok_callM hB hT (e1 ▸ s_X12_isChair) lk_X12_371 (by rw [e2]; decide) (c := 12) rfl rfl rfl wd_1661 sl_X12_isChair dX12_isGame_2) ?_
  refine fc (ok_if_eq hB (t := 33) (by decide) dX12_isGame_5) ?_
  refine fc (ok_aload_n hB dX12_isGame_8) ?_
  refine fc (ok_iload_n hB dX12_isGame_9) ?_
  refine fc (ok_callM hB hT (e1 ▸ s_X12_isChair) lk_X12_371 (by rw [e2]; decide) (c := 12) rfl rfl rfl wd_1661 sl_X12_isChair dX12_isGame_10) ?_
  refine fc (ok_if_eq hB (t := 33) (by decide) dX12_isGame_13) ?_
  refine fc (ok_iload_n hB dX12_isGame_16) ?_
  refine fc (ok_iload_n hB dX12_isGame_17) ?_
  refine fc (ok_icmp_eq hB (t := 33) (by decide) dX12_isGame_18) ?_
  refine fc (ok_aload_n hB dX12_isGame_21) ?_
  refine fc (ok_iload_n hB dX12_isGame_22) ?_
  refine fc (ok_callM hB hT (e1 ▸ s_X12_isPlay) lk_X12_366 (by rw [e2]; decide) (c := 12) rfl rfl rfl wd_1652 sl_X12_isPlay dX12_isGame_23) ?_
  refine fc (ok_if_eq hB (t := 33) (by decide) dX12_isGame_26) ?_
  refine fc (ok_iconst hB dX12_isGame_29) ?_
  refine fc (ok_goto hB (t := 34) (by decide) dX12_isGame_30) ?_
  refine fc (ok_iconst hB dX12_isGame_33) ?_
  refine fc (ok_zret hB dX12_isGame_34) ?_
  exact fn
def gmP (σ : Mem) (o r p : Int) : Prop := (0 ≤ o ∧ o < σ 5000 29) ∧ (0 ≤ r ∧ r < σ 5000 29) ∧ o ≠ r ∧ 0 ≤ p ∧ p < σ 5000 28
def w_X12_isGame : WP := fun av σ Q => ∃ (o : Int) (r : Int) (p : Int), av = [(28, 5000), (0, o), (0, r), (0, p)] ∧ (InR o ∧ InR r ∧ InR p ∧ InR (σ 5000 29) ∧ InR (σ 5000 28) ∧ (gmP σ o r p → Q (0, 1) σ) ∧ (¬ gmP σ o r p → Q (0, 0) σ))
theorem w_X12_isGame_e (o : Int) (r : Int) (p : Int) (σ : Mem) (Q : AV → Mem → Prop) : w_X12_isGame [(28, 5000), (0, o), (0, r), (0, p)] σ Q = (InR o ∧ InR r ∧ InR p ∧ InR (σ 5000 29) ∧ InR (σ 5000 28) ∧ (gmP σ o r p → Q (0, 1) σ) ∧ (¬ gmP σ o r p → Q (0, 0) σ)) := by
  apply propext; constructor
  · rintro ⟨o', r', p', h9, hb9⟩; cases h9; exact hb9
  · intro hb9; exact ⟨o, r, p, rfl, hb9⟩

set_option maxRecDepth 100000 in
set_option maxHeartbeats 4000000 in
theorem s_X12_isGame : ∀ av σ Q, w_X12_isGame av σ Q → amCall 1 0 0 TT yX12_isGame cX12_isGame 4 (some .boolean) av σ Q := by
  rintro av σ Q ⟨o, r, p, rfl, ho, hr, hp, h29, h28, h1, h2⟩
  unfold gmP at h1 h2
  refine am_m0 (own := RX12) (A := look a_X12_isGame) (fun X e1 e2 hB => o_X12_isGame e1 e2 hB) rfl (by decide +kernel) rfl rfl 190 (w := 4) ?_
  change vcs _ _ _ _ 190 0 [(28, 5000), (0, o), (0, r), (0, p)] [] σ
  simp only [↓reduceIte, inR_0, inR_1, inR_m, vSw2_e, swP_n, swP_c, vI_e, vL_e, vNull_e, vIload_e, vLload_e, vAload_e, vIstore_e, vLstore_e, vAstore_e, vIinc_e, vIadd_e, vIsub_e, vImul_e, vIand_e, vIor_e, vIxor_e, vIshl_e, vIshr_e, vIushr_e, vIdiv_e, vIrem_e, vLadd_e, vLsub_e, vLmul_e, vLand_e, vLor_e, vLxor_e, vLdiv_e, vLrem_e, vLushr_e, vLshl_e, vLcmp_e, vIneg_e, vI2l_e, vL2i_e, vI2b_e, vI2c_e, vDup_e, vPop_e, vDup2_e, vGoto_e, vIcEq_e, vIfEq_e, vIcNe_e, vIfNe_e, vIcLt_e, vIfLt_e, vIcGe_e, vIfGe_e, vIcGt_e, vIfGt_e, vIcLe_e, vIfLe_e, vNonnull_e, vSw_e, vGetI_e, vGetL_e, vGetR_e, vPutI_e, vPutZ_e, vPutL_e, vPutR_e, vIald_e, vIald_s, vLald_e, vBald_e, vBald_s, vAald_e, vIast_e, vLast_e, vBast_e, vAast_e, vAlen_e8, vAlen_e9, vAlen_e10, vAlen_e11, vAlen_e5, vAlen_e3, vGets_e, vCompact_e, vLdcS_e, vIret_e, vZret_e, vCret_e, vBret_e, vLret_e, vVret_e, vAret_e, vCallM_e0, vCallMV_e0, vCallS_e0, vCallSV_e0, vCallM_e1, vCallMV_e1, vCallS_e1, vCallSV_e1, vCallM_e2, vCallMV_e2, vCallS_e2, vCallSV_e2, vCallM_e3, vCallMV_e3, vCallS_e3, vCallSV_e3, vCallM_e4, vCallMV_e4, vCallS_e4, vCallSV_e4, vCallM_e5, vCallMV_e5, vCallS_e5, vCallSV_e5, vCallM_e6, vCallMV_e6, vCallS_e6, vCallSV_e6, vCallM_e7, vCallMV_e7, vCallS_e7, vCallSV_e7, vBad_e, vStrVal_e, vStrCod_e, vForm_e, vCallT_e0, vCallT_e1, vCallT_e2, vCopy_e, rf_0_0, rf_0_1, rf_0_2, rf_0_3, rf_0_4, rf_0_7, rf_0_10, rf_0_11, rf_0_12, rf_0_13, rf_0_14, rf_0_15, rf_0_16, rf_1_0, rf_3_0, rf_3_1, rf_6_0, rf_6_1, rf_9_0, rf_9_1, rf_9_3, rf_13_0, rf_13_1, rf_13_2, rf_16_0, rf_16_1, rf_16_2, rf_16_3, rf_21_0, rf_21_1, rf_21_2, rf_21_3, rf_26_0, rf_26_1, rf_26_2, rf_26_3, rf_26_4, rf_26_5, rf_26_6, rf_31_0, rf_31_2, rf_31_5, rf_31_6, rf_36_0, rf_36_1, rf_36_2, rf_36_3, rf_39_0, rf_39_1, rf_39_2, rf_41_0, rf_41_1, rf_41_2, rf_41_3, rf_5000_1, rf_5000_2, rf_5000_3, rf_5000_4, rf_5000_5, rf_5000_15, rf_5000_16, rf_5000_18, rf_5000_19, rf_5000_20, rf_5000_21, rf_5000_22, rf_5000_23, rf_5000_24, rf_5000_25, rf_5000_26, rf_5000_27, rf_5000_36, rf_5000_37, rf_5000_40, rf_5000_41, rf_5000_42, rf_5000_43, rf_5000_44, rf_5000_45, rf_5000_47, rf_5000_52, rf_5000_54, rf_5000_55, rf_100_0, rf_100_1, rf_103_0, rf_103_1, rf_106_0, rf_106_1, rf_109_0, rf_109_1, al_2, al_4, al_5, al_7, al_8, al_10, al_11, al_12, al_14, al_15, al_17, al_18, al_19, al_20, al_22, al_23, al_24, al_25, al_27, al_28, al_29, al_30, al_32, al_33, al_34, al_35, al_37, al_38, al_40, al_42, al_5001, al_5002, al_5003, al_5004, al_5005, al_5006, al_5007, al_5008, al_5009, al_5010, al_5011, al_5012, al_5013, al_5014, al_5015, al_5016, al_5017, al_5018, al_5019, al_5020, al_5021, al_5022, al_5023, al_5024, al_5025, al_5026, al_9000, al_101, al_102, al_104, al_105, al_107, al_108, al_110, al_111, vcs_e, lg_c0, lg_cs, lg_nil, set_c0, set_cs, okst_0, okst_s, acok_n, acok_c, List.contains_nil, List.contains_cons, Bool.or_false, Bool.false_or, Bool.false_eq_true, if_false, if_true, ite_self, ne_eq, true_and, and_true, not_false_eq_true, not_true_eq_false, false_imp_iff, true_imp_iff, Nat.ble_eq, Bool.and_eq_true, reduceCtorEq, or_false, false_or, or_true, true_or, false_and, and_false, and_self, Int.reduceLE, Int.reduceAdd, Int.reduceSub, Int.reduceMul, Int.reduceNeg, Int.reduceLT, Int.reduceEq, Int.reduceNe, Nat.reduceBEq, Nat.reduceBNe, Nat.reduceEqDiff, amCmp_in, amCmp_lt, amCmp_le, amCmp_gt, amCmp_ge, amCmp_eq, amCmp_ne, Nat.reduceLeDiff, Nat.reduceSub, Bool.and_true, Bool.true_and, Bool.and_self, Bool.or_true, Bool.true_or, isRf_3, isRf_4, isRf_5, isRf_8, isRf_9, isRf_10, isRf_11, isRf_15, isRf_16, isRf_17, isRf_18, isRf_19, isRf_20, isRf_21, isRf_22, isRf_23, isRf_24, isRf_25, isRf_26, isRf_27, isRf_28, k_X12_isGame_0, k_X12_isGame_1, k_X12_isGame_2, k_X12_isGame_5, k_X12_isGame_8, k_X12_isGame_9, k_X12_isGame_10, k_X12_isGame_13, k_X12_isGame_16, k_X12_isGame_17, k_X12_isGame_18, k_X12_isGame_21, k_X12_isGame_22, k_X12_isGame_23, k_X12_isGame_26, k_X12_isGame_29, k_X12_isGame_30, k_X12_isGame_33, k_X12_isGame_34, w_X12_isChair_e, w_X12_isPlay_e, up_s, up_nj, up_na, up_up, savR_o, cpy_o, fillm_o, setAud_o, setv_o, setv_s, Int.reduceNe, Int.reduceEq, Int.reduceLT, Int.reduceAdd, not_false_eq_true, ne_eq, or_true, true_or]
  by_cases d1 : 0 ≤ o ∧ o < σ 5000 29
  · rw [if_pos d1]
    by_cases d2 : 0 ≤ r ∧ r < σ 5000 29
    · rw [if_pos d2]
      by_cases d3 : 0 ≤ p ∧ p < σ 5000 28
      · rw [if_pos d3]
        repeat' (first | apply And.intro | intro _)
        all_goals first | omega | exact absurd trivial (by assumption) | exact h1 ⟨d1, d2, by omega, d3⟩ | exact h2 (by omega)
      · rw [if_neg d3]
        repeat' (first | apply And.intro | intro _)
        all_goals first | omega | exact absurd trivial (by assumption) | exact h2 (by omega)
    · rw [if_neg d2]
      repeat' (first | apply And.intro | intro _)
      all_goals first | omega | exact absurd trivial (by assumption) | exact h2 (by omega)
  · rw [if_neg d1]
    repeat' (first | apply And.intro | intro _)
    all_goals first | omega | exact absurd trivial (by assumption) | exact h2 (by omega)
theorem wd_1837 : Cond.constantLong RX12 449 8 ∈ TBL := tb_tab (List.mem_of_getElem? (i := 1837) (by decide +kernel)) rfl
theorem wd_1816 : Cond.constantLong RX12 443 99 ∈ TBL := tb_tab (List.mem_of_getElem? (i := 1816) (by decide +kernel)) rfl
theorem wd_1358 : Cond.fieldLink RX12 323 "ArmchairHouseModel" "howls" "I" ∈ TBL := tb_tab (List.mem_of_getElem? (i := 1358) (by decide +kernel)) rfl
theorem fl_X12_323 : amFl RX12 12 53 323 RX12 TX12 57 := ⟨rfl, inT_12, by decide, wd_1358⟩
theorem wd_1357 : Cond.fieldLink RX12 102 "ArmchairHouseModel" "howl" "[I" ∈ TBL := tb_tab (List.mem_of_getElem? (i := 1357) (by decide +kernel)) rfl
theorem fl_X12_102 : amFl RX12 12 52 102 RX12 TX12 57 := ⟨rfl, inT_12, by decide, wd_1357⟩
theorem fp_X12_323 : amFp RX12 12 53 323 RX12 TX12 57 tyX12 .int := ⟨fl_X12_323, tyX12_ok, nmX12, by decide +kernel⟩
def a_X12_howled : AC := [(0, vAload 0 1), (1, vI 0 2), (2, vPutI 28 0 5), (5, vAload 0 6), (6, vIload 1 7), (7, vCallM w_X12_isChair 28 1 10), (10, vIfEq 55 13), (13, vAload 0 14), (14, vIload 2 15), (15, vCallM w_X12_isPlay 28 1 18), (18, vIfEq 55 21), (21, vIload 3 22), (22, vI2l 23), (23, vL 0 24), (24, vL 8 27), (27, vCallS w_X12_isIn 3 30), (30, vIfEq 55 33), (33, vIload 4 35), (35, vI2l 36), (36, vL 0 37), (37, vL 99 40), (40, vCallS w_X12_isIn 3 43), (43, vIfEq 55 46), (46, vAload 0 47), (47, vGetI 28 53 50), (50, vI 10 52), (52, vIcNe 57 55), (55, vI (-1) 56), (56, vIret), (57, vI 5 58), (58, vAload 0 59), (59, vGetI 28 53 62), (62, vImul 63), (63, vIstore 6 65), (65, vAload 0 66), (66, vGetR TT 28 52 8 69), (69, vIload 6 71), (71, vIload 1 72), (72, vIast TT 73), (73, vAload 0 74), (74, vGetR TT 28 52 8 77), (77, vIload 6 79), (79, vI 1 80), (80, vIadd 81), (81, vIload 2 82), (82, vIast TT 83), (83, vAload 0 84), (84, vGetR TT 28 52 8 87), (87, vIload 6 89), (89, vI 2 90), (90, vIadd 91), (91, vIload 3 92), (92, vIast TT 93), (93, vAload 0 94), (94, vGetR TT 28 52 8 97), (97, vIload 6 99), (99, vI 3 100), (100, vIadd 101), (101, vIload 4 103), (103, vIast TT 104), (104, vAload 0 105), (105, vGetR TT 28 52 8 108), (108, vIload 6 110), (110, vI 4 111), (111, vIadd 112), (112, vIload 5 114), (114, vIfEq 121 117), (117, vI 1 118), (118, vGoto 122), (121, vI 0 122), (122, vIast TT 123), (123, vAload 0 124), (124, vDup 125), (125, vGetI 28 53 128), (128, vI 1 129), (129, vIadd 130), (130, vPutI 28 53 133), (133, vAload 0 134), (134, vGetI 28 53 137), (137, vIret)]
theorem k_X12_howled_0 : look a_X12_howled 0 = vAload 0 1 := rfl
theorem k_X12_howled_1 : look a_X12_howled 1 = vI 0 2 := rfl
theorem k_X12_howled_2 : look a_X12_howled 2 = vPutI 28 0 5 := rfl
theorem k_X12_howled_5 : look a_X12_howled 5 = vAload 0 6 := rfl
theorem k_X12_howled_6 : look a_X12_howled 6 = vIload 1 7 := rfl
theorem k_X12_howled_7 : look a_X12_howled 7 = vCallM w_X12_isChair 28 1 10 := rfl
theorem k_X12_howled_10 : look a_X12_howled 10 = vIfEq 55 13 := rfl
theorem k_X12_howled_13 : look a_X12_howled 13 = vAload 0 14 := rfl
theorem k_X12_howled_14 : look a_X12_howled 14 = vIload 2 15 := rfl
theorem k_X12_howled_15 : look a_X12_howled 15 = vCallM w_X12_isPlay 28 1 18 := rfl
theorem k_X12_howled_18 : look a_X12_howled 18 = vIfEq 55 21 := rfl
theorem k_X12_howled_21 : look a_X12_howled 21 = vIload 3 22 := rfl
theorem k_X12_howled_22 : look a_X12_howled 22 = vI2l 23 := rfl
theorem k_X12_howled_23 : look a_X12_howled 23 = vL 0 24 := rfl
theorem k_X12_howled_24 : look a_X12_howled 24 = vL 8 27 := rfl
theorem k_X12_howled_27 : look a_X12_howled 27 = vCallS w_X12_isIn 3 30 := rfl
theorem k_X12_howled_30 : look a_X12_howled 30 = vIfEq 55 33 := rfl
theorem k_X12_howled_33 : look a_X12_howled 33 = vIload 4 35 := rfl
theorem k_X12_howled_35 : look a_X12_howled 35 = vI2l 36 := rfl
theorem k_X12_howled_36 : look a_X12_howled 36 = vL 0 37 := rfl
theorem k_X12_howled_37 : look a_X12_howled 37 = vL 99 40 := rfl
theorem k_X12_howled_40 : look a_X12_howled 40 = vCallS w_X12_isIn 3 43 := rfl
theorem k_X12_howled_43 : look a_X12_howled 43 = vIfEq 55 46 := rfl
theorem k_X12_howled_46 : look a_X12_howled 46 = vAload 0 47 := rfl
theorem k_X12_howled_47 : look a_X12_howled 47 = vGetI 28 53 50 := rfl
theorem k_X12_howled_50 : look a_X12_howled 50 = vI 10 52 := rfl
theorem k_X12_howled_52 : look a_X12_howled 52 = vIcNe 57 55 := rfl
theorem k_X12_howled_55 : look a_X12_howled 55 = vI (-1) 56 := rfl
theorem k_X12_howled_56 : look a_X12_howled 56 = vIret := rfl
theorem k_X12_howled_57 : look a_X12_howled 57 = vI 5 58 := rfl
theorem k_X12_howled_58 : look a_X12_howled 58 = vAload 0 59 := rfl
theorem k_X12_howled_59 : look a_X12_howled 59 = vGetI 28 53 62 := rfl
theorem k_X12_howled_62 : look a_X12_howled 62 = vImul 63 := rfl
theorem k_X12_howled_63 : look a_X12_howled 63 = vIstore 6 65 := rfl
theorem k_X12_howled_65 : look a_X12_howled 65 = vAload 0 66 := rfl
theorem k_X12_howled_66 : look a_X12_howled 66 = vGetR TT 28 52 8 69 := rfl
theorem k_X12_howled_69 : look a_X12_howled 69 = vIload 6 71 := rfl
theorem k_X12_howled_71 : look a_X12_howled 71 = vIload 1 72 := rfl
theorem k_X12_howled_72 : look a_X12_howled 72 = vIast TT 73 := rfl
theorem k_X12_howled_73 : look a_X12_howled 73 = vAload 0 74 := rfl
theorem k_X12_howled_74 : look a_X12_howled 74 = vGetR TT 28 52 8 77 := rfl
theorem k_X12_howled_77 : look a_X12_howled 77 = vIload 6 79 := rfl
theorem k_X12_howled_79 : look a_X12_howled 79 = vI 1 80 := rfl
theorem k_X12_howled_80 : look a_X12_howled 80 = vIadd 81 := rfl
theorem k_X12_howled_81 : look a_X12_howled 81 = vIload 2 82 := rfl
theorem k_X12_howled_82 : look a_X12_howled 82 = vIast TT 83 := rfl
theorem k_X12_howled_83 : look a_X12_howled 83 = vAload 0 84 := rfl
theorem k_X12_howled_84 : look a_X12_howled 84 = vGetR TT 28 52 8 87 := rfl
theorem k_X12_howled_87 : look a_X12_howled 87 = vIload 6 89 := rfl
theorem k_X12_howled_89 : look a_X12_howled 89 = vI 2 90 := rfl
theorem k_X12_howled_90 : look a_X12_howled 90 = vIadd 91 := rfl
theorem k_X12_howled_91 : look a_X12_howled 91 = vIload 3 92 := rfl
theorem k_X12_howled_92 : look a_X12_howled 92 = vIast TT 93 := rfl
theorem k_X12_howled_93 : look a_X12_howled 93 = vAload 0 94 := rfl
theorem k_X12_howled_94 : look a_X12_howled 94 = vGetR TT 28 52 8 97 := rfl
theorem k_X12_howled_97 : look a_X12_howled 97 = vIload 6 99 := rfl
theorem k_X12_howled_99 : look a_X12_howled 99 = vI 3 100 := rfl
theorem k_X12_howled_100 : look a_X12_howled 100 = vIadd 101 := rfl
theorem k_X12_howled_101 : look a_X12_howled 101 = vIload 4 103 := rfl
theorem k_X12_howled_103 : look a_X12_howled 103 = vIast TT 104 := rfl
theorem k_X12_howled_104 : look a_X12_howled 104 = vAload 0 105 := rfl
theorem k_X12_howled_105 : look a_X12_howled 105 = vGetR TT 28 52 8 108 := rfl
theorem k_X12_howled_108 : look a_X12_howled 108 = vIload 6 110 := rfl
theorem k_X12_howled_110 : look a_X12_howled 110 = vI 4 111 := rfl
theorem k_X12_howled_111 : look a_X12_howled 111 = vIadd 112 := rfl
theorem k_X12_howled_112 : look a_X12_howled 112 = vIload 5 114 := rfl
theorem k_X12_howled_114 : look a_X12_howled 114 = vIfEq 121 117 := rfl
theorem k_X12_howled_117 : look a_X12_howled 117 = vI 1 118 := rfl
theorem k_X12_howled_118 : look a_X12_howled 118 = vGoto 122 := rfl
theorem k_X12_howled_121 : look a_X12_howled 121 = vI 0 122 := rfl
theorem k_X12_howled_122 : look a_X12_howled 122 = vIast TT 123 := rfl
theorem k_X12_howled_123 : look a_X12_howled 123 = vAload 0 124 := rfl
theorem k_X12_howled_124 : look a_X12_howled 124 = vDup 125 := rfl
theorem k_X12_howled_125 : look a_X12_howled 125 = vGetI 28 53 128 := rfl
theorem k_X12_howled_128 : look a_X12_howled 128 = vI 1 129 := rfl
theorem k_X12_howled_129 : look a_X12_howled 129 = vIadd 130 := rfl
theorem k_X12_howled_130 : look a_X12_howled 130 = vPutI 28 53 133 := rfl
theorem k_X12_howled_133 : look a_X12_howled 133 = vAload 0 134 := rfl
theorem k_X12_howled_134 : look a_X12_howled 134 = vGetI 28 53 137 := rfl
theorem k_X12_howled_137 : look a_X12_howled 137 = vIret := rfl
theorem o_X12_howled {X : amX} (e1 : XT X = TT) (e2 : XD X = 1) (hB : amB X RX12 cX12_howled (some .int) 7) : ∀ pc, amOK X pc (look a_X12_howled pc) := by
  have hT : amTok (XT X) := e1 ▸ TT_ok
  refine look_ok ?_
  unfold a_X12_howled
  refine fc (ok_aload_n hB dX12_howled_0) ?_
  refine fc (ok_iconst hB dX12_howled_1) ?_
  refine fc (ok_putI hB hT fp_X12_111 rfl rfl rfl af_12_0 dX12_howled_2) ?_
  refine fc (ok_aload_n hB dX12_howled_5) ?_
  refine fc (ok_iload_n hB dX12_howled_6) ?_
  refine fc (ok_callM hB hT (e1 ▸ s_X12_isChair) lk_X12_371 (by rw [e2]; decide) (c := 12) rfl rfl rfl wd_1661 sl_X12_isChair dX12_howled_7) ?_
  refine fc (ok_if_eq hB (t := 55) (by decide) dX12_howled_10) ?_
  refine fc (ok_aload_n hB dX12_howled_13) ?_
  refine fc (ok_iload_n hB dX12_howled_14) ?_
  refine fc (ok_callM hB hT (e1 ▸ s_X12_isPlay) lk_X12_366 (by rw [e2]; decide) (c := 12) rfl rfl rfl wd_1652 sl_X12_isPlay dX12_howled_15) ?_
  refine fc (ok_if_eq hB (t := 55) (by decide) dX12_howled_18) ?_
  refine fc (ok_iload_n hB dX12_howled_21) ?_
  refine fc (ok_i2l hB dX12_howled_22) ?_
  refine fc (ok_lconst hB (z := 0) (by decide) dX12_howled_23) ?_
  refine fc (ok_ldc2 hB wd_1837 rfl dX12_howled_24) ?_
  refine fc (ok_callS hB (e1 ▸ s_X12_isIn) lk_X12_232 (by rw [e2]; decide) wd_1502 dX12_howled_27) ?_
  refine fc (ok_if_eq hB (t := 55) (by decide) dX12_howled_30) ?_
  refine fc (ok_iload hB dX12_howled_33) ?_
  refine fc (ok_i2l hB dX12_howled_35) ?_
  refine fc (ok_lconst hB (z := 0) (by decide) dX12_howled_36) ?_
  refine fc (ok_ldc2 hB wd_1816 rfl dX12_howled_37) ?_
  refine fc (ok_callS hB (e1 ▸ s_X12_isIn) lk_X12_232 (by rw [e2]; decide) wd_1502 dX12_howled_40) ?_
  refine fc (ok_if_eq hB (t := 55) (by decide) dX12_howled_43) ?_
  refine fc (ok_aload_n hB dX12_howled_46) ?_
  refine fc (ok_getI hB hT fl_X12_323 rfl rfl (Or.inl af_12_53) dX12_howled_47) ?_
  refine fc (ok_bipush hB dX12_howled_50 (by decide)) ?_
  refine fc (ok_icmp_ne hB (t := 57) (by decide) dX12_howled_52) ?_
  refine fc (ok_iconst hB dX12_howled_55) ?_
  refine fc (ok_iret hB dX12_howled_56) ?_
  refine fc (ok_iconst hB dX12_howled_57) ?_
  refine fc (ok_aload_n hB dX12_howled_58) ?_
  refine fc (ok_getI hB hT fl_X12_323 rfl rfl (Or.inl af_12_53) dX12_howled_59) ?_
  refine fc (ok_imul hB dX12_howled_62) ?_
  refine fc (ok_istore hB (by decide) dX12_howled_63) ?_
  refine fc (ok_aload_n hB dX12_howled_65) ?_
  refine fc (okt_getR e1 hB hT fl_X12_102 rfl af_12_52 at_12_52 (by decide) dX12_howled_66) ?_
  refine fc (ok_iload hB dX12_howled_69) ?_
  refine fc (ok_iload_n hB dX12_howled_71) ?_
  refine fc (okt_iastore e1 hB dX12_howled_72) ?_
  refine fc (ok_aload_n hB dX12_howled_73) ?_
  refine fc (okt_getR e1 hB hT fl_X12_102 rfl af_12_52 at_12_52 (by decide) dX12_howled_74) ?_
  refine fc (ok_iload hB dX12_howled_77) ?_
  refine fc (ok_iconst hB dX12_howled_79) ?_
  refine fc (ok_iadd hB dX12_howled_80) ?_
  refine fc (ok_iload_n hB dX12_howled_81) ?_
  refine fc (okt_iastore e1 hB dX12_howled_82) ?_
  refine fc (ok_aload_n hB dX12_howled_83) ?_
  refine fc (okt_getR e1 hB hT fl_X12_102 rfl af_12_52 at_12_52 (by decide) dX12_howled_84) ?_
  refine fc (ok_iload hB dX12_howled_87) ?_
  refine fc (ok_iconst hB dX12_howled_89) ?_
  refine fc (ok_iadd hB dX12_howled_90) ?_
  refine fc (ok_iload_n hB dX12_howled_91) ?_
  refine fc (okt_iastore e1 hB dX12_howled_92) ?_
  refine fc (ok_aload_n hB dX12_howled_93) ?_
  refine fc (okt_getR e1 hB hT fl_X12_102 rfl af_12_52 at_12_52 (by decide) dX12_howled_94) ?_
  refine fc (ok_iload hB dX12_howled_97) ?_
  refine fc (ok_iconst hB dX12_howled_99) ?_
  refine fc (ok_iadd hB dX12_howled_100) ?_
  refine fc (ok_iload hB dX12_howled_101) ?_
  refine fc (okt_iastore e1 hB dX12_howled_103) ?_
  refine fc (ok_aload_n hB dX12_howled_104) ?_
  refine fc (okt_getR e1 hB hT fl_X12_102 rfl af_12_52 at_12_52 (by decide) dX12_howled_105) ?_
  refine fc (ok_iload hB dX12_howled_108) ?_
  refine fc (ok_iconst hB dX12_howled_110) ?_
  refine fc (ok_iadd hB dX12_howled_111) ?_
  refine fc (ok_iload hB dX12_howled_112) ?_
  refine fc (ok_if_eq hB (t := 121) (by decide) dX12_howled_114) ?_
  refine fc (ok_iconst hB dX12_howled_117) ?_
  refine fc (ok_goto hB (t := 122) (by decide) dX12_howled_118) ?_
  refine fc (ok_iconst hB dX12_howled_121) ?_
  refine fc (okt_iastore e1 hB dX12_howled_122) ?_
  refine fc (ok_aload_n hB dX12_howled_123) ?_
  refine fc (ok_dup hB dX12_howled_124) ?_
  refine fc (ok_getI hB hT fl_X12_323 rfl rfl (Or.inl af_12_53) dX12_howled_125) ?_
  refine fc (ok_iconst hB dX12_howled_128) ?_
  refine fc (ok_iadd hB dX12_howled_129) ?_
  refine fc (ok_putI hB hT fp_X12_323 rfl rfl rfl af_12_53 dX12_howled_130) ?_
  refine fc (ok_aload_n hB dX12_howled_133) ?_
  refine fc (ok_getI hB hT fl_X12_323 rfl rfl (Or.inl af_12_53) dX12_howled_134) ?_
  refine fc (ok_iret hB dX12_howled_137) ?_
  exact fn

def w_X12_howled : WP := fun av σ Q => ∃ (c : Int) (p : Int) (k : Int) (v : Int) (u : Int), av = [(28, 5000), (0, c), (0, p), (0, k), (0, v), (0, u)] ∧ (InR c ∧ InR p ∧ InR k ∧ InR v ∧ (u = 0 ∨ u = 1) ∧ InR (σ 5000 29) ∧ InR (σ 5000 28) ∧ 0 ≤ σ 5000 53 ∧ σ 5000 53 ≤ 10 ∧ (¬ (0 ≤ c ∧ c < σ 5000 29 ∧ 0 ≤ p ∧ p < σ 5000 28 ∧ 0 ≤ k ∧ k ≤ 8 ∧ 0 ≤ v ∧ v ≤ 99 ∧ σ 5000 53 ≠ 10) → Q (0, -1) (th0 σ)) ∧ (0 ≤ c ∧ c < σ 5000 29 ∧ 0 ≤ p ∧ p < σ 5000 28 ∧ 0 ≤ k ∧ k ≤ 8 ∧ 0 ≤ v ∧ v ≤ 99 ∧ σ 5000 53 ≠ 10 → Q (0, σ 5000 53 + 1) (up (up (up (up (up (up (th0 σ) 5024 (5 * σ 5000 53) c) 5024 (5 * σ 5000 53 + 1) p) 5024 (5 * σ 5000 53 + 2) k) 5024 (5 * σ 5000 53 + 3) v) 5024 (5 * σ 5000 53 + 4) u) 5000 53 (σ 5000 53 + 1))))
theorem w_X12_howled_e (c : Int) (p : Int) (k : Int) (v : Int) (u : Int) (σ : Mem) (Q : AV → Mem → Prop) : w_X12_howled [(28, 5000), (0, c), (0, p), (0, k), (0, v), (0, u)] σ Q = (InR c ∧ InR p ∧ InR k ∧ InR v ∧ (u = 0 ∨ u = 1) ∧ InR (σ 5000 29) ∧ InR (σ 5000 28) ∧ 0 ≤ σ 5000 53 ∧ σ 5000 53 ≤ 10 ∧ (¬ (0 ≤ c ∧ c < σ 5000 29 ∧ 0 ≤ p ∧ p < σ 5000 28 ∧ 0 ≤ k ∧ k ≤ 8 ∧ 0 ≤ v ∧ v ≤ 99 ∧ σ 5000 53 ≠ 10) → Q (0, -1) (th0 σ)) ∧ (0 ≤ c ∧ c < σ 5000 29 ∧ 0 ≤ p ∧ p < σ 5000 28 ∧ 0 ≤ k ∧ k ≤ 8 ∧ 0 ≤ v ∧ v ≤ 99 ∧ σ 5000 53 ≠ 10 → Q (0, σ 5000 53 + 1) (up (up (up (up (up (up (th0 σ) 5024 (5 * σ 5000 53) c) 5024 (5 * σ 5000 53 + 1) p) 5024 (5 * σ 5000 53 + 2) k) 5024 (5 * σ 5000 53 + 3) v) 5024 (5 * σ 5000 53 + 4) u) 5000 53 (σ 5000 53 + 1)))) := by
  apply propext; constructor
  · rintro ⟨c', p', k', v', u', h9, hb9⟩; cases h9; exact hb9
  · intro hb9; exact ⟨c, p, k, v, u, rfl, hb9⟩

set_option maxRecDepth 100000 in
set_option maxHeartbeats 4000000 in
theorem s_X12_howled : ∀ av σ Q, w_X12_howled av σ Q → amCall 1 0 0 TT yX12_howled cX12_howled 7 (some .int) av σ Q := by
  rintro av σ Q ⟨c, p, k, v, u, rfl, hc, hp, hk, hv, hu, h29, h28, w0, w1, h1, h2⟩
  have e28 : th0 σ 5000 28 = σ 5000 28 := th_k σ (by decide)
  have e29 : th0 σ 5000 29 = σ 5000 29 := th_k σ (by decide)
  have e53 : th0 σ 5000 53 = σ 5000 53 := th_k σ (by decide)
  by_cases d : 0 ≤ c ∧ c < σ 5000 29
  · by_cases g : 0 ≤ p ∧ p < σ 5000 28
    · by_cases f : 0 ≤ k ∧ k ≤ 8
      · by_cases b : 0 ≤ v ∧ v ≤ 99
        · have q8 := fun q : ¬ σ 5000 53 = 10 => h2 ⟨d.1, d.2, g.1, g.2, f.1, f.2, b.1, b.2, q⟩
          have q9 := fun q : σ 5000 53 = 10 => h1 (by omega)
          rcases hu with rfl | rfl
          · have d' := d
            refine am_m0 (own := RX12) (A := look a_X12_howled) (fun X e1 e2 hB => o_X12_howled e1 e2 hB) rfl (by decide +kernel) rfl rfl 300 (w := 7) ?_
            change vcs _ _ _ _ 300 0 [(28, 5000), (0, c), (0, p), (0, k), (0, v), (0, 0), (6, 0)] [] σ
            simp only [↓reduceIte, inR_0, inR_1, inR_m, vSw2_e, swP_n, swP_c, vI_e, vL_e, vNull_e, vIload_e, vLload_e, vAload_e, vIstore_e, vLstore_e, vAstore_e, vIinc_e, vIadd_e, vIsub_e, vImul_e, vIand_e, vIor_e, vIxor_e, vIshl_e, vIshr_e, vIushr_e, vIdiv_e, vIrem_e, vLadd_e, vLsub_e, vLmul_e, vLand_e, vLor_e, vLxor_e, vLdiv_e, vLrem_e, vLushr_e, vLshl_e, vLcmp_e, vIneg_e, vI2l_e, vL2i_e, vI2b_e, vI2c_e, vDup_e, vPop_e, vDup2_e, vGoto_e, vIcEq_e, vIfEq_e, vIcNe_e, vIfNe_e, vIcLt_e, vIfLt_e, vIcGe_e, vIfGe_e, vIcGt_e, vIfGt_e, vIcLe_e, vIfLe_e, vNonnull_e, vSw_e, vGetI_e, vGetL_e, vGetR_e, vPutI_e, vPutZ_e, vPutL_e, vPutR_e, vIald_e, vIald_s, vLald_e, vBald_e, vBald_s, vAald_e, vIast_e, vLast_e, vBast_e, vAast_e, vAlen_e8, vAlen_e9, vAlen_e10, vAlen_e11, vAlen_e5, vAlen_e3, vGets_e, vCompact_e, vLdcS_e, vIret_e, vZret_e, vCret_e, vBret_e, vLret_e, vVret_e, vAret_e, vCallM_e0, vCallMV_e0, vCallS_e0, vCallSV_e0, vCallM_e1, vCallMV_e1, vCallS_e1, vCallSV_e1, vCallM_e2, vCallMV_e2, vCallS_e2, vCallSV_e2, vCallM_e3, vCallMV_e3, vCallS_e3, vCallSV_e3, vCallM_e4, vCallMV_e4, vCallS_e4, vCallSV_e4, vCallM_e5, vCallMV_e5, vCallS_e5, vCallSV_e5, vCallM_e6, vCallMV_e6, vCallS_e6, vCallSV_e6, vCallM_e7, vCallMV_e7, vCallS_e7, vCallSV_e7, vBad_e, vStrVal_e, vStrCod_e, vForm_e, vCallT_e0, vCallT_e1, vCallT_e2, vCopy_e, rf_0_0, rf_0_1, rf_0_2, rf_0_3, rf_0_4, rf_0_7, rf_0_10, rf_0_11, rf_0_12, rf_0_13, rf_0_14, rf_0_15, rf_0_16, rf_1_0, rf_3_0, rf_3_1, rf_6_0, rf_6_1, rf_9_0, rf_9_1, rf_9_3, rf_13_0, rf_13_1, rf_13_2, rf_16_0, rf_16_1, rf_16_2, rf_16_3, rf_21_0, rf_21_1, rf_21_2, rf_21_3, rf_26_0, rf_26_1, rf_26_2, rf_26_3, rf_26_4, rf_26_5, rf_26_6, rf_31_0, rf_31_2, rf_31_5, rf_31_6, rf_36_0, rf_36_1, rf_36_2, rf_36_3, rf_39_0, rf_39_1, rf_39_2, rf_41_0, rf_41_1, rf_41_2, rf_41_3, rf_5000_1, rf_5000_2, rf_5000_3, rf_5000_4, rf_5000_5, rf_5000_15, rf_5000_16, rf_5000_18, rf_5000_19, rf_5000_20, rf_5000_21, rf_5000_22, rf_5000_23, rf_5000_24, rf_5000_25, rf_5000_26, rf_5000_27, rf_5000_36, rf_5000_37, rf_5000_40, rf_5000_41, rf_5000_42, rf_5000_43, rf_5000_44, rf_5000_45, rf_5000_47, rf_5000_52, rf_5000_54, rf_5000_55, rf_100_0, rf_100_1, rf_103_0, rf_103_1, rf_106_0, rf_106_1, rf_109_0, rf_109_1, al_2, al_4, al_5, al_7, al_8, al_10, al_11, al_12, al_14, al_15, al_17, al_18, al_19, al_20, al_22, al_23, al_24, al_25, al_27, al_28, al_29, al_30, al_32, al_33, al_34, al_35, al_37, al_38, al_40, al_42, al_5001, al_5002, al_5003, al_5004, al_5005, al_5006, al_5007, al_5008, al_5009, al_5010, al_5011, al_5012, al_5013, al_5014, al_5015, al_5016, al_5017, al_5018, al_5019, al_5020, al_5021, al_5022, al_5023, al_5024, al_5025, al_5026, al_9000, al_101, al_102, al_104, al_105, al_107, al_108, al_110, al_111, vcs_e, lg_c0, lg_cs, lg_nil, set_c0, set_cs, okst_0, okst_s, acok_n, acok_c, List.contains_nil, List.contains_cons, Bool.or_false, Bool.false_or, Bool.false_eq_true, if_false, if_true, ite_self, ne_eq, true_and, and_true, not_false_eq_true, not_true_eq_false, false_imp_iff, true_imp_iff, Nat.ble_eq, Bool.and_eq_true, reduceCtorEq, or_false, false_or, or_true, true_or, false_and, and_false, and_self, Int.reduceLE, Int.reduceAdd, Int.reduceSub, Int.reduceMul, Int.reduceNeg, Int.reduceLT, Int.reduceEq, Int.reduceNe, Nat.reduceBEq, Nat.reduceBNe, Nat.reduceEqDiff, amCmp_in, amCmp_lt, amCmp_le, amCmp_gt, amCmp_ge, amCmp_eq, amCmp_ne, Nat.reduceLeDiff, Nat.reduceSub, Bool.and_true, Bool.true_and, Bool.and_self, Bool.or_true, Bool.true_or, isRf_3, isRf_4, isRf_5, isRf_8, isRf_9, isRf_10, isRf_11, isRf_15, isRf_16, isRf_17, isRf_18, isRf_19, isRf_20, isRf_21, isRf_22, isRf_23, isRf_24, isRf_25, isRf_26, isRf_27, isRf_28, k_X12_howled_0, k_X12_howled_1, k_X12_howled_2, k_X12_howled_5, k_X12_howled_6, k_X12_howled_7, k_X12_howled_10, k_X12_howled_13, k_X12_howled_14, k_X12_howled_15, k_X12_howled_18, k_X12_howled_21, k_X12_howled_22, k_X12_howled_23, k_X12_howled_24, k_X12_howled_27, k_X12_howled_30, k_X12_howled_33, k_X12_howled_35, k_X12_howled_36, k_X12_howled_37, k_X12_howled_40, k_X12_howled_43, k_X12_howled_46, k_X12_howled_47, k_X12_howled_50, k_X12_howled_52, k_X12_howled_55, k_X12_howled_56, k_X12_howled_57, k_X12_howled_58, k_X12_howled_59, k_X12_howled_62, k_X12_howled_63, k_X12_howled_65, k_X12_howled_66, k_X12_howled_69, k_X12_howled_71, k_X12_howled_72, k_X12_howled_73, k_X12_howled_74, k_X12_howled_77, k_X12_howled_79, k_X12_howled_80, k_X12_howled_81, k_X12_howled_82, k_X12_howled_83, k_X12_howled_84, k_X12_howled_87, k_X12_howled_89, k_X12_howled_90, k_X12_howled_91, k_X12_howled_92, k_X12_howled_93, k_X12_howled_94, k_X12_howled_97, k_X12_howled_99, k_X12_howled_100, k_X12_howled_101, k_X12_howled_103, k_X12_howled_104, k_X12_howled_105, k_X12_howled_108, k_X12_howled_110, k_X12_howled_111, k_X12_howled_112, k_X12_howled_114, k_X12_howled_117, k_X12_howled_118, k_X12_howled_121, k_X12_howled_122, k_X12_howled_123, k_X12_howled_124, k_X12_howled_125, k_X12_howled_128, k_X12_howled_129, k_X12_howled_130, k_X12_howled_133, k_X12_howled_134, k_X12_howled_137, w_X12_isChair_e, w_X12_isIn_e, w_X12_isPlay_e, up_s, up_nj, up_na, up_up, savR_o, cpy_o, fillm_o, setAud_o, setv_o, setv_s, Int.reduceNe, Int.reduceEq, Int.reduceLT, Int.reduceAdd, not_false_eq_true, ne_eq, or_true, true_or, e28, e29, e53, if_pos d, if_pos g, if_pos f, if_pos b]
            repeat' (first | apply And.intro | intro _)
            all_goals first | omega | exact absurd trivial (by assumption) | exact q8 (by assumption) | exact q9 (by assumption)
          · have d' := d
            refine am_m0 (own := RX12) (A := look a_X12_howled) (fun X e1 e2 hB => o_X12_howled e1 e2 hB) rfl (by decide +kernel) rfl rfl 300 (w := 7) ?_
            change vcs _ _ _ _ 300 0 [(28, 5000), (0, c), (0, p), (0, k), (0, v), (0, 1), (6, 0)] [] σ
            simp only [↓reduceIte, inR_0, inR_1, inR_m, vSw2_e, swP_n, swP_c, vI_e, vL_e, vNull_e, vIload_e, vLload_e, vAload_e, vIstore_e, vLstore_e, vAstore_e, vIinc_e, vIadd_e, vIsub_e, vImul_e, vIand_e, vIor_e, vIxor_e, vIshl_e, vIshr_e, vIushr_e, vIdiv_e, vIrem_e, vLadd_e, vLsub_e, vLmul_e, vLand_e, vLor_e, vLxor_e, vLdiv_e, vLrem_e, vLushr_e, vLshl_e, vLcmp_e, vIneg_e, vI2l_e, vL2i_e, vI2b_e, vI2c_e, vDup_e, vPop_e, vDup2_e, vGoto_e, vIcEq_e, vIfEq_e, vIcNe_e, vIfNe_e, vIcLt_e, vIfLt_e, vIcGe_e, vIfGe_e, vIcGt_e, vIfGt_e, vIcLe_e, vIfLe_e, vNonnull_e, vSw_e, vGetI_e, vGetL_e, vGetR_e, vPutI_e, vPutZ_e, vPutL_e, vPutR_e, vIald_e, vIald_s, vLald_e, vBald_e, vBald_s, vAald_e, vIast_e, vLast_e, vBast_e, vAast_e, vAlen_e8, vAlen_e9, vAlen_e10, vAlen_e11, vAlen_e5, vAlen_e3, vGets_e, vCompact_e, vLdcS_e, vIret_e, vZret_e, vCret_e, vBret_e, vLret_e, vVret_e, vAret_e, vCallM_e0, vCallMV_e0, vCallS_e0, vCallSV_e0, vCallM_e1, vCallMV_e1, vCallS_e1, vCallSV_e1, vCallM_e2, vCallMV_e2, vCallS_e2, vCallSV_e2, vCallM_e3, vCallMV_e3, vCallS_e3, vCallSV_e3, vCallM_e4, vCallMV_e4, vCallS_e4, vCallSV_e4, vCallM_e5, vCallMV_e5, vCallS_e5, vCallSV_e5, vCallM_e6, vCallMV_e6, vCallS_e6, vCallSV_e6, vCallM_e7, vCallMV_e7, vCallS_e7, vCallSV_e7, vBad_e, vStrVal_e, vStrCod_e, vForm_e, vCallT_e0, vCallT_e1, vCallT_e2, vCopy_e, rf_0_0, rf_0_1, rf_0_2, rf_0_3, rf_0_4, rf_0_7, rf_0_10, rf_0_11, rf_0_12, rf_0_13, rf_0_14, rf_0_15, rf_0_16, rf_1_0, rf_3_0, rf_3_1, rf_6_0, rf_6_1, rf_9_0, rf_9_1, rf_9_3, rf_13_0, rf_13_1, rf_13_2, rf_16_0, rf_16_1, rf_16_2, rf_16_3, rf_21_0, rf_21_1, rf_21_2, rf_21_3, rf_26_0, rf_26_1, rf_26_2, rf_26_3, rf_26_4, rf_26_5, rf_26_6, rf_31_0, rf_31_2, rf_31_5, rf_31_6, rf_36_0, rf_36_1, rf_36_2, rf_36_3, rf_39_0, rf_39_1, rf_39_2, rf_41_0, rf_41_1, rf_41_2, rf_41_3, rf_5000_1, rf_5000_2, rf_5000_3, rf_5000_4, rf_5000_5, rf_5000_15, rf_5000_16, rf_5000_18, rf_5000_19, rf_5000_20, rf_5000_21, rf_5000_22, rf_5000_23, rf_5000_24, rf_5000_25, rf_5000_26, rf_5000_27, rf_5000_36, rf_5000_37, rf_5000_40, rf_5000_41, rf_5000_42, rf_5000_43, rf_5000_44, rf_5000_45, rf_5000_47, rf_5000_52, rf_5000_54, rf_5000_55, rf_100_0, rf_100_1, rf_103_0, rf_103_1, rf_106_0, rf_106_1, rf_109_0, rf_109_1, al_2, al_4, al_5, al_7, al_8, al_10, al_11, al_12, al_14, al_15, al_17, al_18, al_19, al_20, al_22, al_23, al_24, al_25, al_27, al_28, al_29, al_30, al_32, al_33, al_34, al_35, al_37, al_38, al_40, al_42, al_5001, al_5002, al_5003, al_5004, al_5005, al_5006, al_5007, al_5008, al_5009, al_5010, al_5011, al_5012, al_5013, al_5014, al_5015, al_5016, al_5017, al_5018, al_5019, al_5020, al_5021, al_5022, al_5023, al_5024, al_5025, al_5026, al_9000, al_101, al_102, al_104, al_105, al_107, al_108, al_110, al_111, vcs_e, lg_c0, lg_cs, lg_nil, set_c0, set_cs, okst_0, okst_s, acok_n, acok_c, List.contains_nil, List.contains_cons, Bool.or_false, Bool.false_or, Bool.false_eq_true, if_false, if_true, ite_self, ne_eq, true_and, and_true, not_false_eq_true, not_true_eq_false, false_imp_iff, true_imp_iff, Nat.ble_eq, Bool.and_eq_true, reduceCtorEq, or_false, false_or, or_true, true_or, false_and, and_false, and_self, Int.reduceLE, Int.reduceAdd, Int.reduceSub, Int.reduceMul, Int.reduceNeg, Int.reduceLT, Int.reduceEq, Int.reduceNe, Nat.reduceBEq, Nat.reduceBNe, Nat.reduceEqDiff, amCmp_in, amCmp_lt, amCmp_le, amCmp_gt, amCmp_ge, amCmp_eq, amCmp_ne, Nat.reduceLeDiff, Nat.reduceSub, Bool.and_true, Bool.true_and, Bool.and_self, Bool.or_true, Bool.true_or, isRf_3, isRf_4, isRf_5, isRf_8, isRf_9, isRf_10, isRf_11, isRf_15, isRf_16, isRf_17, isRf_18, isRf_19, isRf_20, isRf_21, isRf_22, isRf_23, isRf_24, isRf_25, isRf_26, isRf_27, isRf_28, k_X12_howled_0, k_X12_howled_1, k_X12_howled_2, k_X12_howled_5, k_X12_howled_6, k_X12_howled_7, k_X12_howled_10, k_X12_howled_13, k_X12_howled_14, k_X12_howled_15, k_X12_howled_18, k_X12_howled_21, k_X12_howled_22, k_X12_howled_23, k_X12_howled_24, k_X12_howled_27, k_X12_howled_30, k_X12_howled_33, k_X12_howled_35, k_X12_howled_36, k_X12_howled_37, k_X12_howled_40, k_X12_howled_43, k_X12_howled_46, k_X12_howled_47, k_X12_howled_50, k_X12_howled_52, k_X12_howled_55, k_X12_howled_56, k_X12_howled_57, k_X12_howled_58, k_X12_howled_59, k_X12_howled_62, k_X12_howled_63, k_X12_howled_65, k_X12_howled_66, k_X12_howled_69, k_X12_howled_71, k_X12_howled_72, k_X12_howled_73, k_X12_howled_74, k_X12_howled_77, k_X12_howled_79, k_X12_howled_80, k_X12_howled_81, k_X12_howled_82, k_X12_howled_83, k_X12_howled_84, k_X12_howled_87, k_X12_howled_89, k_X12_howled_90, k_X12_howled_91, k_X12_howled_92, k_X12_howled_93, k_X12_howled_94, k_X12_howled_97, k_X12_howled_99, k_X12_howled_100, k_X12_howled_101, k_X12_howled_103, k_X12_howled_104, k_X12_howled_105, k_X12_howled_108, k_X12_howled_110, k_X12_howled_111, k_X12_howled_112, k_X12_howled_114, k_X12_howled_117, k_X12_howled_118, k_X12_howled_121, k_X12_howled_122, k_X12_howled_123, k_X12_howled_124, k_X12_howled_125, k_X12_howled_128, k_X12_howled_129, k_X12_howled_130, k_X12_howled_133, k_X12_howled_134, k_X12_howled_137, w_X12_isChair_e, w_X12_isIn_e, w_X12_isPlay_e, up_s, up_nj, up_na, up_up, savR_o, cpy_o, fillm_o, setAud_o, setv_o, setv_s, Int.reduceNe, Int.reduceEq, Int.reduceLT, Int.reduceAdd, not_false_eq_true, ne_eq, or_true, true_or, e28, e29, e53, if_pos d, if_pos g, if_pos f, if_pos b]
            repeat' (first | apply And.intro | intro _)
            all_goals first | omega | exact absurd trivial (by assumption) | exact q8 (by assumption) | exact q9 (by assumption)
        · have q9 := h1 (by omega)
          refine am_m0 (own := RX12) (A := look a_X12_howled) (fun X e1 e2 hB => o_X12_howled e1 e2 hB) rfl (by decide +kernel) rfl rfl 300 (w := 7) ?_
          change vcs _ _ _ _ 300 0 [(28, 5000), (0, c), (0, p), (0, k), (0, v), (0, u), (6, 0)] [] σ
          simp only [↓reduceIte, inR_0, inR_1, inR_m, vSw2_e, swP_n, swP_c, vI_e, vL_e, vNull_e, vIload_e, vLload_e, vAload_e, vIstore_e, vLstore_e, vAstore_e, vIinc_e, vIadd_e, vIsub_e, vImul_e, vIand_e, vIor_e, vIxor_e, vIshl_e, vIshr_e, vIushr_e, vIdiv_e, vIrem_e, vLadd_e, vLsub_e, vLmul_e, vLand_e, vLor_e, vLxor_e, vLdiv_e, vLrem_e, vLushr_e, vLshl_e, vLcmp_e, vIneg_e, vI2l_e, vL2i_e, vI2b_e, vI2c_e, vDup_e, vPop_e, vDup2_e, vGoto_e, vIcEq_e, vIfEq_e, vIcNe_e, vIfNe_e, vIcLt_e, vIfLt_e, vIcGe_e, vIfGe_e, vIcGt_e, vIfGt_e, vIcLe_e, vIfLe_e, vNonnull_e, vSw_e, vGetI_e, vGetL_e, vGetR_e, vPutI_e, vPutZ_e, vPutL_e, vPutR_e, vIald_e, vIald_s, vLald_e, vBald_e, vBald_s, vAald_e, vIast_e, vLast_e, vBast_e, vAast_e, vAlen_e8, vAlen_e9, vAlen_e10, vAlen_e11, vAlen_e5, vAlen_e3, vGets_e, vCompact_e, vLdcS_e, vIret_e, vZret_e, vCret_e, vBret_e, vLret_e, vVret_e, vAret_e, vCallM_e0, vCallMV_e0, vCallS_e0, vCallSV_e0, vCallM_e1, vCallMV_e1, vCallS_e1, vCallSV_e1, vCallM_e2, vCallMV_e2, vCallS_e2, vCallSV_e2, vCallM_e3, vCallMV_e3, vCallS_e3, vCallSV_e3, vCallM_e4, vCallMV_e4, vCallS_e4, vCallSV_e4, vCallM_e5, vCallMV_e5, vCallS_e5, vCallSV_e5, vCallM_e6, vCallMV_e6, vCallS_e6, vCallSV_e6, vCallM_e7, vCallMV_e7, vCallS_e7, vCallSV_e7, vBad_e, vStrVal_e, vStrCod_e, vForm_e, vCallT_e0, vCallT_e1, vCallT_e2, vCopy_e, rf_0_0, rf_0_1, rf_0_2, rf_0_3, rf_0_4, rf_0_7, rf_0_10, rf_0_11, rf_0_12, rf_0_13, rf_0_14, rf_0_15, rf_0_16, rf_1_0, rf_3_0, rf_3_1, rf_6_0, rf_6_1, rf_9_0, rf_9_1, rf_9_3, rf_13_0, rf_13_1, rf_13_2, rf_16_0, rf_16_1, rf_16_2, rf_16_3, rf_21_0, rf_21_1, rf_21_2, rf_21_3, rf_26_0, rf_26_1, rf_26_2, rf_26_3, rf_26_4, rf_26_5, rf_26_6, rf_31_0, rf_31_2, rf_31_5, rf_31_6, rf_36_0, rf_36_1, rf_36_2, rf_36_3, rf_39_0, rf_39_1, rf_39_2, rf_41_0, rf_41_1, rf_41_2, rf_41_3, rf_5000_1, rf_5000_2, rf_5000_3, rf_5000_4, rf_5000_5, rf_5000_15, rf_5000_16, rf_5000_18, rf_5000_19, rf_5000_20, rf_5000_21, rf_5000_22, rf_5000_23, rf_5000_24, rf_5000_25, rf_5000_26, rf_5000_27, rf_5000_36, rf_5000_37, rf_5000_40, rf_5000_41, rf_5000_42, rf_5000_43, rf_5000_44, rf_5000_45, rf_5000_47, rf_5000_52, rf_5000_54, rf_5000_55, rf_100_0, rf_100_1, rf_103_0, rf_103_1, rf_106_0, rf_106_1, rf_109_0, rf_109_1, al_2, al_4, al_5, al_7, al_8, al_10, al_11, al_12, al_14, al_15, al_17, al_18, al_19, al_20, al_22, al_23, al_24, al_25, al_27, al_28, al_29, al_30, al_32, al_33, al_34, al_35, al_37, al_38, al_40, al_42, al_5001, al_5002, al_5003, al_5004, al_5005, al_5006, al_5007, al_5008, al_5009, al_5010, al_5011, al_5012, al_5013, al_5014, al_5015, al_5016, al_5017, al_5018, al_5019, al_5020, al_5021, al_5022, al_5023, al_5024, al_5025, al_5026, al_9000, al_101, al_102, al_104, al_105, al_107, al_108, al_110, al_111, vcs_e, lg_c0, lg_cs, lg_nil, set_c0, set_cs, okst_0, okst_s, acok_n, acok_c, List.contains_nil, List.contains_cons, Bool.or_false, Bool.false_or, Bool.false_eq_true, if_false, if_true, ite_self, ne_eq, true_and, and_true, not_false_eq_true, not_true_eq_false, false_imp_iff, true_imp_iff, Nat.ble_eq, Bool.and_eq_true, reduceCtorEq, or_false, false_or, or_true, true_or, false_and, and_false, and_self, Int.reduceLE, Int.reduceAdd, Int.reduceSub, Int.reduceMul, Int.reduceNeg, Int.reduceLT, Int.reduceEq, Int.reduceNe, Nat.reduceBEq, Nat.reduceBNe, Nat.reduceEqDiff, amCmp_in, amCmp_lt, amCmp_le, amCmp_gt, amCmp_ge, amCmp_eq, amCmp_ne, Nat.reduceLeDiff, Nat.reduceSub, Bool.and_true, Bool.true_and, Bool.and_self, Bool.or_true, Bool.true_or, isRf_3, isRf_4, isRf_5, isRf_8, isRf_9, isRf_10, isRf_11, isRf_15, isRf_16, isRf_17, isRf_18, isRf_19, isRf_20, isRf_21, isRf_22, isRf_23, isRf_24, isRf_25, isRf_26, isRf_27, isRf_28, k_X12_howled_0, k_X12_howled_1, k_X12_howled_2, k_X12_howled_5, k_X12_howled_6, k_X12_howled_7, k_X12_howled_10, k_X12_howled_13, k_X12_howled_14, k_X12_howled_15, k_X12_howled_18, k_X12_howled_21, k_X12_howled_22, k_X12_howled_23, k_X12_howled_24, k_X12_howled_27, k_X12_howled_30, k_X12_howled_33, k_X12_howled_35, k_X12_howled_36, k_X12_howled_37, k_X12_howled_40, k_X12_howled_43, k_X12_howled_46, k_X12_howled_47, k_X12_howled_50, k_X12_howled_52, k_X12_howled_55, k_X12_howled_56, k_X12_howled_57, k_X12_howled_58, k_X12_howled_59, k_X12_howled_62, k_X12_howled_63, k_X12_howled_65, k_X12_howled_66, k_X12_howled_69, k_X12_howled_71, k_X12_howled_72, k_X12_howled_73, k_X12_howled_74, k_X12_howled_77, k_X12_howled_79, k_X12_howled_80, k_X12_howled_81, k_X12_howled_82, k_X12_howled_83, k_X12_howled_84, k_X12_howled_87, k_X12_howled_89, k_X12_howled_90, k_X12_howled_91, k_X12_howled_92, k_X12_howled_93, k_X12_howled_94, k_X12_howled_97, k_X12_howled_99, k_X12_howled_100, k_X12_howled_101, k_X12_howled_103, k_X12_howled_104, k_X12_howled_105, k_X12_howled_108, k_X12_howled_110, k_X12_howled_111, k_X12_howled_112, k_X12_howled_114, k_X12_howled_117, k_X12_howled_118, k_X12_howled_121, k_X12_howled_122, k_X12_howled_123, k_X12_howled_124, k_X12_howled_125, k_X12_howled_128, k_X12_howled_129, k_X12_howled_130, k_X12_howled_133, k_X12_howled_134, k_X12_howled_137, w_X12_isChair_e, w_X12_isIn_e, w_X12_isPlay_e, up_s, up_nj, up_na, up_up, savR_o, cpy_o, fillm_o, setAud_o, setv_o, setv_s, Int.reduceNe, Int.reduceEq, Int.reduceLT, Int.reduceAdd, not_false_eq_true, ne_eq, or_true, true_or, e28, e29, e53, if_pos d, if_pos g, if_pos f, if_neg b]
          repeat' (first | apply And.intro | intro _)
          all_goals first | omega | exact absurd trivial (by assumption) | exact q9
      · have q9 := h1 (by omega)
        refine am_m0 (own := RX12) (A := look a_X12_howled) (fun X e1 e2 hB => o_X12_howled e1 e2 hB) rfl (by decide +kernel) rfl rfl 300 (w := 7) ?_
        change vcs _ _ _ _ 300 0 [(28, 5000), (0, c), (0, p), (0, k), (0, v), (0, u), (6, 0)] [] σ
        simp only [↓reduceIte, inR_0, inR_1, inR_m, vSw2_e, swP_n, swP_c, vI_e, vL_e, vNull_e, vIload_e, vLload_e, vAload_e, vIstore_e, vLstore_e, vAstore_e, vIinc_e, vIadd_e, vIsub_e, vImul_e, vIand_e, vIor_e, vIxor_e, vIshl_e, vIshr_e, vIushr_e, vIdiv_e, vIrem_e, vLadd_e, vLsub_e, vLmul_e, vLand_e, vLor_e, vLxor_e, vLdiv_e, vLrem_e, vLushr_e, vLshl_e, vLcmp_e, vIneg_e, vI2l_e, vL2i_e, vI2b_e, vI2c_e, vDup_e, vPop_e, vDup2_e, vGoto_e, vIcEq_e, vIfEq_e, vIcNe_e, vIfNe_e, vIcLt_e, vIfLt_e, vIcGe_e, vIfGe_e, vIcGt_e, vIfGt_e, vIcLe_e, vIfLe_e, vNonnull_e, vSw_e, vGetI_e, vGetL_e, vGetR_e, vPutI_e, vPutZ_e, vPutL_e, vPutR_e, vIald_e, vIald_s, vLald_e, vBald_e, vBald_s, vAald_e, vIast_e, vLast_e, vBast_e, vAast_e, vAlen_e8, vAlen_e9, vAlen_e10, vAlen_e11, vAlen_e5, vAlen_e3, vGets_e, vCompact_e, vLdcS_e, vIret_e, vZret_e, vCret_e, vBret_e, vLret_e, vVret_e, vAret_e, vCallM_e0, vCallMV_e0, vCallS_e0, vCallSV_e0, vCallM_e1, vCallMV_e1, vCallS_e1, vCallSV_e1, vCallM_e2, vCallMV_e2, vCallS_e2, vCallSV_e2, vCallM_e3, vCallMV_e3, vCallS_e3, vCallSV_e3, vCallM_e4, vCallMV_e4, vCallS_e4, vCallSV_e4, vCallM_e5, vCallMV_e5, vCallS_e5, vCallSV_e5, vCallM_e6, vCallMV_e6, vCallS_e6, vCallSV_e6, vCallM_e7, vCallMV_e7, vCallS_e7, vCallSV_e7, vBad_e, vStrVal_e, vStrCod_e, vForm_e, vCallT_e0, vCallT_e1, vCallT_e2, vCopy_e, rf_0_0, rf_0_1, rf_0_2, rf_0_3, rf_0_4, rf_0_7, rf_0_10, rf_0_11, rf_0_12, rf_0_13, rf_0_14, rf_0_15, rf_0_16, rf_1_0, rf_3_0, rf_3_1, rf_6_0, rf_6_1, rf_9_0, rf_9_1, rf_9_3, rf_13_0, rf_13_1, rf_13_2, rf_16_0, rf_16_1, rf_16_2, rf_16_3, rf_21_0, rf_21_1, rf_21_2, rf_21_3, rf_26_0, rf_26_1, rf_26_2, rf_26_3, rf_26_4, rf_26_5, rf_26_6, rf_31_0, rf_31_2, rf_31_5, rf_31_6, rf_36_0, rf_36_1, rf_36_2, rf_36_3, rf_39_0, rf_39_1, rf_39_2, rf_41_0, rf_41_1, rf_41_2, rf_41_3, rf_5000_1, rf_5000_2, rf_5000_3, rf_5000_4, rf_5000_5, rf_5000_15, rf_5000_16, rf_5000_18, rf_5000_19, rf_5000_20, rf_5000_21, rf_5000_22, rf_5000_23, rf_5000_24, rf_5000_25, rf_5000_26, rf_5000_27, rf_5000_36, rf_5000_37, rf_5000_40, rf_5000_41, rf_5000_42, rf_5000_43, rf_5000_44, rf_5000_45, rf_5000_47, rf_5000_52, rf_5000_54, rf_5000_55, rf_100_0, rf_100_1, rf_103_0, rf_103_1, rf_106_0, rf_106_1, rf_109_0, rf_109_1, al_2, al_4, al_5, al_7, al_8, al_10, al_11, al_12, al_14, al_15, al_17, al_18, al_19, al_20, al_22, al_23, al_24, al_25, al_27, al_28, al_29, al_30, al_32, al_33, al_34, al_35, al_37, al_38, al_40, al_42, al_5001, al_5002, al_5003, al_5004, al_5005, al_5006, al_5007, al_5008, al_5009, al_5010, al_5011, al_5012, al_5013, al_5014, al_5015, al_5016, al_5017, al_5018, al_5019, al_5020, al_5021, al_5022, al_5023, al_5024, al_5025, al_5026, al_9000, al_101, al_102, al_104, al_105, al_107, al_108, al_110, al_111, vcs_e, lg_c0, lg_cs, lg_nil, set_c0, set_cs, okst_0, okst_s, acok_n, acok_c, List.contains_nil, List.contains_cons, Bool.or_false, Bool.false_or, Bool.false_eq_true, if_false, if_true, ite_self, ne_eq, true_and, and_true, not_false_eq_true, not_true_eq_false, false_imp_iff, true_imp_iff, Nat.ble_eq, Bool.and_eq_true, reduceCtorEq, or_false, false_or, or_true, true_or, false_and, and_false, and_self, Int.reduceLE, Int.reduceAdd, Int.reduceSub, Int.reduceMul, Int.reduceNeg, Int.reduceLT, Int.reduceEq, Int.reduceNe, Nat.reduceBEq, Nat.reduceBNe, Nat.reduceEqDiff, amCmp_in, amCmp_lt, amCmp_le, amCmp_gt, amCmp_ge, amCmp_eq, amCmp_ne, Nat.reduceLeDiff, Nat.reduceSub, Bool.and_true, Bool.true_and, Bool.and_self, Bool.or_true, Bool.true_or, isRf_3, isRf_4, isRf_5, isRf_8, isRf_9, isRf_10, isRf_11, isRf_15, isRf_16, isRf_17, isRf_18, isRf_19, isRf_20, isRf_21, isRf_22, isRf_23, isRf_24, isRf_25, isRf_26, isRf_27, isRf_28, k_X12_howled_0, k_X12_howled_1, k_X12_howled_2, k_X12_howled_5, k_X12_howled_6, k_X12_howled_7, k_X12_howled_10, k_X12_howled_13, k_X12_howled_14, k_X12_howled_15, k_X12_howled_18, k_X12_howled_21, k_X12_howled_22, k_X12_howled_23, k_X12_howled_24, k_X12_howled_27, k_X12_howled_30, k_X12_howled_33, k_X12_howled_35, k_X12_howled_36, k_X12_howled_37, k_X12_howled_40, k_X12_howled_43, k_X12_howled_46, k_X12_howled_47, k_X12_howled_50, k_X12_howled_52, k_X12_howled_55, k_X12_howled_56, k_X12_howled_57, k_X12_howled_58, k_X12_howled_59, k_X12_howled_62, k_X12_howled_63, k_X12_howled_65, k_X12_howled_66, k_X12_howled_69, k_X12_howled_71, k_X12_howled_72, k_X12_howled_73, k_X12_howled_74, k_X12_howled_77, k_X12_howled_79, k_X12_howled_80, k_X12_howled_81, k_X12_howled_82, k_X12_howled_83, k_X12_howled_84, k_X12_howled_87, k_X12_howled_89, k_X12_howled_90, k_X12_howled_91, k_X12_howled_92, k_X12_howled_93, k_X12_howled_94, k_X12_howled_97, k_X12_howled_99, k_X12_howled_100, k_X12_howled_101, k_X12_howled_103, k_X12_howled_104, k_X12_howled_105, k_X12_howled_108, k_X12_howled_110, k_X12_howled_111, k_X12_howled_112, k_X12_howled_114, k_X12_howled_117, k_X12_howled_118, k_X12_howled_121, k_X12_howled_122, k_X12_howled_123, k_X12_howled_124, k_X12_howled_125, k_X12_howled_128, k_X12_howled_129, k_X12_howled_130, k_X12_howled_133, k_X12_howled_134, k_X12_howled_137, w_X12_isChair_e, w_X12_isIn_e, w_X12_isPlay_e, up_s, up_nj, up_na, up_up, savR_o, cpy_o, fillm_o, setAud_o, setv_o, setv_s, Int.reduceNe, Int.reduceEq, Int.reduceLT, Int.reduceAdd, not_false_eq_true, ne_eq, or_true, true_or, e28, e29, e53, if_pos d, if_pos g, if_neg f]
        repeat' (first | apply And.intro | intro _)
        all_goals first | omega | exact absurd trivial (by assumption) | exact q9
    · have q9 := h1 (by omega)
      refine am_m0 (own := RX12) (A := look a_X12_howled) (fun X e1 e2 hB => o_X12_howled e1 e2 hB) rfl (by decide +kernel) rfl rfl 300 (w := 7) ?_
      change vcs _ _ _ _ 300 0 [(28, 5000), (0, c), (0, p), (0, k), (0, v), (0, u), (6, 0)] [] σ
      simp only [↓reduceIte, inR_0, inR_1, inR_m, vSw2_e, swP_n, swP_c, vI_e, vL_e, vNull_e, vIload_e, vLload_e, vAload_e, vIstore_e, vLstore_e, vAstore_e, vIinc_e, vIadd_e, vIsub_e, vImul_e, vIand_e, vIor_e, vIxor_e, vIshl_e, vIshr_e, vIushr_e, vIdiv_e, vIrem_e, vLadd_e, vLsub_e, vLmul_e, vLand_e, vLor_e, vLxor_e, vLdiv_e, vLrem_e, vLushr_e, vLshl_e, vLcmp_e, vIneg_e, vI2l_e, vL2i_e, vI2b_e, vI2c_e, vDup_e, vPop_e, vDup2_e, vGoto_e, vIcEq_e, vIfEq_e, vIcNe_e, vIfNe_e, vIcLt_e, vIfLt_e, vIcGe_e, vIfGe_e, vIcGt_e, vIfGt_e, vIcLe_e, vIfLe_e, vNonnull_e, vSw_e, vGetI_e, vGetL_e, vGetR_e, vPutI_e, vPutZ_e, vPutL_e, vPutR_e, vIald_e, vIald_s, vLald_e, vBald_e, vBald_s, vAald_e, vIast_e, vLast_e, vBast_e, vAast_e, vAlen_e8, vAlen_e9, vAlen_e10, vAlen_e11, vAlen_e5, vAlen_e3, vGets_e, vCompact_e, vLdcS_e, vIret_e, vZret_e, vCret_e, vBret_e, vLret_e, vVret_e, vAret_e, vCallM_e0, vCallMV_e0, vCallS_e0, vCallSV_e0, vCallM_e1, vCallMV_e1, vCallS_e1, vCallSV_e1, vCallM_e2, vCallMV_e2, vCallS_e2, vCallSV_e2, vCallM_e3, vCallMV_e3, vCallS_e3, vCallSV_e3, vCallM_e4, vCallMV_e4, vCallS_e4, vCallSV_e4, vCallM_e5, vCallMV_e5, vCallS_e5, vCallSV_e5, vCallM_e6, vCallMV_e6, vCallS_e6, vCallSV_e6, vCallM_e7, vCallMV_e7, vCallS_e7, vCallSV_e7, vBad_e, vStrVal_e, vStrCod_e, vForm_e, vCallT_e0, vCallT_e1, vCallT_e2, vCopy_e, rf_0_0, rf_0_1, rf_0_2, rf_0_3, rf_0_4, rf_0_7, rf_0_10, rf_0_11, rf_0_12, rf_0_13, rf_0_14, rf_0_15, rf_0_16, rf_1_0, rf_3_0, rf_3_1, rf_6_0, rf_6_1, rf_9_0, rf_9_1, rf_9_3, rf_13_0, rf_13_1, rf_13_2, rf_16_0, rf_16_1, rf_16_2, rf_16_3, rf_21_0, rf_21_1, rf_21_2, rf_21_3, rf_26_0, rf_26_1, rf_26_2, rf_26_3, rf_26_4, rf_26_5, rf_26_6, rf_31_0, rf_31_2, rf_31_5, rf_31_6, rf_36_0, rf_36_1, rf_36_2, rf_36_3, rf_39_0, rf_39_1, rf_39_2, rf_41_0, rf_41_1, rf_41_2, rf_41_3, rf_5000_1, rf_5000_2, rf_5000_3, rf_5000_4, rf_5000_5, rf_5000_15, rf_5000_16, rf_5000_18, rf_5000_19, rf_5000_20, rf_5000_21, rf_5000_22, rf_5000_23, rf_5000_24, rf_5000_25, rf_5000_26, rf_5000_27, rf_5000_36, rf_5000_37, rf_5000_40, rf_5000_41, rf_5000_42, rf_5000_43, rf_5000_44, rf_5000_45, rf_5000_47, rf_5000_52, rf_5000_54, rf_5000_55, rf_100_0, rf_100_1, rf_103_0, rf_103_1, rf_106_0, rf_106_1, rf_109_0, rf_109_1, al_2, al_4, al_5, al_7, al_8, al_10, al_11, al_12, al_14, al_15, al_17, al_18, al_19, al_20, al_22, al_23, al_24, al_25, al_27, al_28, al_29, al_30, al_32, al_33, al_34, al_35, al_37, al_38, al_40, al_42, al_5001, al_5002, al_5003, al_5004, al_5005, al_5006, al_5007, al_5008, al_5009, al_5010, al_5011, al_5012, al_5013, al_5014, al_5015, al_5016, al_5017, al_5018, al_5019, al_5020, al_5021, al_5022, al_5023, al_5024, al_5025, al_5026, al_9000, al_101, al_102, al_104, al_105, al_107, al_108, al_110, al_111, vcs_e, lg_c0, lg_cs, lg_nil, set_c0, set_cs, okst_0, okst_s, acok_n, acok_c, List.contains_nil, List.contains_cons, Bool.or_false, Bool.false_or, Bool.false_eq_true, if_false, if_true, ite_self, ne_eq, true_and, and_true, not_false_eq_true, not_true_eq_false, false_imp_iff, true_imp_iff, Nat.ble_eq, Bool.and_eq_true, reduceCtorEq, or_false, false_or, or_true, true_or, false_and, and_false, and_self, Int.reduceLE, Int.reduceAdd, Int.reduceSub, Int.reduceMul, Int.reduceNeg, Int.reduceLT, Int.reduceEq, Int.reduceNe, Nat.reduceBEq, Nat.reduceBNe, Nat.reduceEqDiff, amCmp_in, amCmp_lt, amCmp_le, amCmp_gt, amCmp_ge, amCmp_eq, amCmp_ne, Nat.reduceLeDiff, Nat.reduceSub, Bool.and_true, Bool.true_and, Bool.and_self, Bool.or_true, Bool.true_or, isRf_3, isRf_4, isRf_5, isRf_8, isRf_9, isRf_10, isRf_11, isRf_15, isRf_16, isRf_17, isRf_18, isRf_19, isRf_20, isRf_21, isRf_22, isRf_23, isRf_24, isRf_25, isRf_26, isRf_27, isRf_28, k_X12_howled_0, k_X12_howled_1, k_X12_howled_2, k_X12_howled_5, k_X12_howled_6, k_X12_howled_7, k_X12_howled_10, k_X12_howled_13, k_X12_howled_14, k_X12_howled_15, k_X12_howled_18, k_X12_howled_21, k_X12_howled_22, k_X12_howled_23, k_X12_howled_24, k_X12_howled_27, k_X12_howled_30, k_X12_howled_33, k_X12_howled_35, k_X12_howled_36, k_X12_howled_37, k_X12_howled_40, k_X12_howled_43, k_X12_howled_46, k_X12_howled_47, k_X12_howled_50, k_X12_howled_52, k_X12_howled_55, k_X12_howled_56, k_X12_howled_57, k_X12_howled_58, k_X12_howled_59, k_X12_howled_62, k_X12_howled_63, k_X12_howled_65, k_X12_howled_66, k_X12_howled_69, k_X12_howled_71, k_X12_howled_72, k_X12_howled_73, k_X12_howled_74, k_X12_howled_77, k_X12_howled_79, k_X12_howled_80, k_X12_howled_81, k_X12_howled_82, k_X12_howled_83, k_X12_howled_84, k_X12_howled_87, k_X12_howled_89, k_X12_howled_90, k_X12_howled_91, k_X12_howled_92, k_X12_howled_93, k_X12_howled_94, k_X12_howled_97, k_X12_howled_99, k_X12_howled_100, k_X12_howled_101, k_X12_howled_103, k_X12_howled_104, k_X12_howled_105, k_X12_howled_108, k_X12_howled_110, k_X12_howled_111, k_X12_howled_112, k_X12_howled_114, k_X12_howled_117, k_X12_howled_118, k_X12_howled_121, k_X12_howled_122, k_X12_howled_123, k_X12_howled_124, k_X12_howled_125, k_X12_howled_128, k_X12_howled_129, k_X12_howled_130, k_X12_howled_133, k_X12_howled_134, k_X12_howled_137, w_X12_isChair_e, w_X12_isIn_e, w_X12_isPlay_e, up_s, up_nj, up_na, up_up, savR_o, cpy_o, fillm_o, setAud_o, setv_o, setv_s, Int.reduceNe, Int.reduceEq, Int.reduceLT, Int.reduceAdd, not_false_eq_true, ne_eq, or_true, true_or, e28, e29, e53, if_pos d, if_neg g]
      repeat' (first | apply And.intro | intro _)
      all_goals first | omega | exact absurd trivial (by assumption) | exact q9
  · have q9 := h1 (by omega)
    refine am_m0 (own := RX12) (A := look a_X12_howled) (fun X e1 e2 hB => o_X12_howled e1 e2 hB) rfl (by decide +kernel) rfl rfl 300 (w := 7) ?_
    change vcs _ _ _ _ 300 0 [(28, 5000), (0, c), (0, p), (0, k), (0, v), (0, u), (6, 0)] [] σ
    simp only [↓reduceIte, inR_0, inR_1, inR_m, vSw2_e, swP_n, swP_c, vI_e, vL_e, vNull_e, vIload_e, vLload_e, vAload_e, vIstore_e, vLstore_e, vAstore_e, vIinc_e, vIadd_e, vIsub_e, vImul_e, vIand_e, vIor_e, vIxor_e, vIshl_e, vIshr_e, vIushr_e, vIdiv_e, vIrem_e, vLadd_e, vLsub_e, vLmul_e, vLand_e, vLor_e, vLxor_e, vLdiv_e, vLrem_e, vLushr_e, vLshl_e, vLcmp_e, vIneg_e, vI2l_e, vL2i_e, vI2b_e, vI2c_e, vDup_e, vPop_e, vDup2_e, vGoto_e, vIcEq_e, vIfEq_e, vIcNe_e, vIfNe_e, vIcLt_e, vIfLt_e, vIcGe_e, vIfGe_e, vIcGt_e, vIfGt_e, vIcLe_e, vIfLe_e, vNonnull_e, vSw_e, vGetI_e, vGetL_e, vGetR_e, vPutI_e, vPutZ_e, vPutL_e, vPutR_e, vIald_e, vIald_s, vLald_e, vBald_e, vBald_s, vAald_e, vIast_e, vLast_e, vBast_e, vAast_e, vAlen_e8, vAlen_e9, vAlen_e10, vAlen_e11, vAlen_e5, vAlen_e3, vGets_e, vCompact_e, vLdcS_e, vIret_e, vZret_e, vCret_e, vBret_e, vLret_e, vVret_e, vAret_e, vCallM_e0, vCallMV_e0, vCallS_e0, vCallSV_e0, vCallM_e1, vCallMV_e1, vCallS_e1, vCallSV_e1, vCallM_e2, vCallMV_e2, vCallS_e2, vCallSV_e2, vCallM_e3, vCallMV_e3, vCallS_e3, vCallSV_e3, vCallM_e4, vCallMV_e4, vCallS_e4, vCallSV_e4, vCallM_e5, vCallMV_e5, vCallS_e5, vCallSV_e5, vCallM_e6, vCallMV_e6, vCallS_e6, vCallSV_e6, vCallM_e7, vCallMV_e7, vCallS_e7, vCallSV_e7, vBad_e, vStrVal_e, vStrCod_e, vForm_e, vCallT_e0, vCallT_e1, vCallT_e2, vCopy_e, rf_0_0, rf_0_1, rf_0_2, rf_0_3, rf_0_4, rf_0_7, rf_0_10, rf_0_11, rf_0_12, rf_0_13, rf_0_14, rf_0_15, rf_0_16, rf_1_0, rf_3_0, rf_3_1, rf_6_0, rf_6_1, rf_9_0, rf_9_1, rf_9_3, rf_13_0, rf_13_1, rf_13_2, rf_16_0, rf_16_1, rf_16_2, rf_16_3, rf_21_0, rf_21_1, rf_21_2, rf_21_3, rf_26_0, rf_26_1, rf_26_2, rf_26_3, rf_26_4, rf_26_5, rf_26_6, rf_31_0, rf_31_2, rf_31_5, rf_31_6, rf_36_0, rf_36_1, rf_36_2, rf_36_3, rf_39_0, rf_39_1, rf_39_2, rf_41_0, rf_41_1, rf_41_2, rf_41_3, rf_5000_1, rf_5000_2, rf_5000_3, rf_5000_4, rf_5000_5, rf_5000_15, rf_5000_16, rf_5000_18, rf_5000_19, rf_5000_20, rf_5000_21, rf_5000_22, rf_5000_23, rf_5000_24, rf_5000_25, rf_5000_26, rf_5000_27, rf_5000_36, rf_5000_37, rf_5000_40, rf_5000_41, rf_5000_42, rf_5000_43, rf_5000_44, rf_5000_45, rf_5000_47, rf_5000_52, rf_5000_54, rf_5000_55, rf_100_0, rf_100_1, rf_103_0, rf_103_1, rf_106_0, rf_106_1, rf_109_0, rf_109_1, al_2, al_4, al_5, al_7, al_8, al_10, al_11, al_12, al_14, al_15, al_17, al_18, al_19, al_20, al_22, al_23, al_24, al_25, al_27, al_28, al_29, al_30, al_32, al_33, al_34, al_35, al_37, al_38, al_40, al_42, al_5001, al_5002, al_5003, al_5004, al_5005, al_5006, al_5007, al_5008, al_5009, al_5010, al_5011, al_5012, al_5013, al_5014, al_5015, al_5016, al_5017, al_5018, al_5019, al_5020, al_5021, al_5022, al_5023, al_5024, al_5025, al_5026, al_9000, al_101, al_102, al_104, al_105, al_107, al_108, al_110, al_111, vcs_e, lg_c0, lg_cs, lg_nil, set_c0, set_cs, okst_0, okst_s, acok_n, acok_c, List.contains_nil, List.contains_cons, Bool.or_false, Bool.false_or, Bool.false_eq_true, if_false, if_true, ite_self, ne_eq, true_and, and_true, not_false_eq_true, not_true_eq_false, false_imp_iff, true_imp_iff, Nat.ble_eq, Bool.and_eq_true, reduceCtorEq, or_false, false_or, or_true, true_or, false_and, and_false, and_self, Int.reduceLE, Int.reduceAdd, Int.reduceSub, Int.reduceMul, Int.reduceNeg, Int.reduceLT, Int.reduceEq, Int.reduceNe, Nat.reduceBEq, Nat.reduceBNe, Nat.reduceEqDiff, amCmp_in, amCmp_lt, amCmp_le, amCmp_gt, amCmp_ge, amCmp_eq, amCmp_ne, Nat.reduceLeDiff, Nat.reduceSub, Bool.and_true, Bool.true_and, Bool.and_self, Bool.or_true, Bool.true_or, isRf_3, isRf_4, isRf_5, isRf_8, isRf_9, isRf_10, isRf_11, isRf_15, isRf_16, isRf_17, isRf_18, isRf_19, isRf_20, isRf_21, isRf_22, isRf_23, isRf_24, isRf_25, isRf_26, isRf_27, isRf_28, k_X12_howled_0, k_X12_howled_1, k_X12_howled_2, k_X12_howled_5, k_X12_howled_6, k_X12_howled_7, k_X12_howled_10, k_X12_howled_13, k_X12_howled_14, k_X12_howled_15, k_X12_howled_18, k_X12_howled_21, k_X12_howled_22, k_X12_howled_23, k_X12_howled_24, k_X12_howled_27, k_X12_howled_30, k_X12_howled_33, k_X12_howled_35, k_X12_howled_36, k_X12_howled_37, k_X12_howled_40, k_X12_howled_43, k_X12_howled_46, k_X12_howled_47, k_X12_howled_50, k_X12_howled_52, k_X12_howled_55, k_X12_howled_56, k_X12_howled_57, k_X12_howled_58, k_X12_howled_59, k_X12_howled_62, k_X12_howled_63, k_X12_howled_65, k_X12_howled_66, k_X12_howled_69, k_X12_howled_71, k_X12_howled_72, k_X12_howled_73, k_X12_howled_74, k_X12_howled_77, k_X12_howled_79, k_X12_howled_80, k_X12_howled_81, k_X12_howled_82, k_X12_howled_83, k_X12_howled_84, k_X12_howled_87, k_X12_howled_89, k_X12_howled_90, k_X12_howled_91, k_X12_howled_92, k_X12_howled_93, k_X12_howled_94, k_X12_howled_97, k_X12_howled_99, k_X12_howled_100, k_X12_howled_101, k_X12_howled_103, k_X12_howled_104, k_X12_howled_105, k_X12_howled_108, k_X12_howled_110, k_X12_howled_111, k_X12_howled_112, k_X12_howled_114, k_X12_howled_117, k_X12_howled_118, k_X12_howled_121, k_X12_howled_122, k_X12_howled_123, k_X12_howled_124, k_X12_howled_125, k_X12_howled_128, k_X12_howled_129, k_X12_howled_130, k_X12_howled_133, k_X12_howled_134, k_X12_howled_137, w_X12_isChair_e, w_X12_isIn_e, w_X12_isPlay_e, up_s, up_nj, up_na, up_up, savR_o, cpy_o, fillm_o, setAud_o, setv_o, setv_s, Int.reduceNe, Int.reduceEq, Int.reduceLT, Int.reduceAdd, not_false_eq_true, ne_eq, or_true, true_or, e28, e29, e53, if_neg d]
    repeat' (first | apply And.intro | intro _)
    all_goals first | omega | exact absurd trivial (by assumption) | exact q9
