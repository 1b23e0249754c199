/-! the JDK's methods on numbers and rows -/

def a_J7_fill_53178 : AC := [(0, vI 0 1), (1, vIstore 2 2), (2, vAload 0 3), (3, vAlen TT 4), (4, vIstore 3 5), (5, vIload 2 6), (6, vIload 3 7), (7, vIcGe 20 10), (10, vAload 0 11), (11, vIload 2 12), (12, vIload 1 13), (13, vIast TT 14), (14, vIinc 2 1 17), (17, vGoto 5), (20, vVret)]
theorem k_J7_fill_53178_0 : look a_J7_fill_53178 0 = vI 0 1 := rfl
theorem k_J7_fill_53178_1 : look a_J7_fill_53178 1 = vIstore 2 2 := rfl
theorem k_J7_fill_53178_2 : look a_J7_fill_53178 2 = vAload 0 3 := rfl
theorem k_J7_fill_53178_3 : look a_J7_fill_53178 3 = vAlen TT 4 := rfl
theorem k_J7_fill_53178_4 : look a_J7_fill_53178 4 = vIstore 3 5 := rfl
theorem k_J7_fill_53178_5 : look a_J7_fill_53178 5 = vIload 2 6 := rfl
theorem k_J7_fill_53178_6 : look a_J7_fill_53178 6 = vIload 3 7 := rfl
theorem k_J7_fill_53178_7 : look a_J7_fill_53178 7 = vIcGe 20 10 := rfl
theorem k_J7_fill_53178_10 : look a_J7_fill_53178 10 = vAload 0 11 := rfl
theorem k_J7_fill_53178_11 : look a_J7_fill_53178 11 = vIload 2 12 := rfl
theorem k_J7_fill_53178_12 : look a_J7_fill_53178 12 = vIload 1 13 := rfl
theorem k_J7_fill_53178_13 : look a_J7_fill_53178 13 = vIast TT 14 := rfl
theorem k_J7_fill_53178_14 : look a_J7_fill_53178 14 = vIinc 2 1 17 := rfl
theorem k_J7_fill_53178_17 : look a_J7_fill_53178 17 = vGoto 5 := rfl
theorem k_J7_fill_53178_20 : look a_J7_fill_53178 20 = vVret := rfl
theorem o_J7_fill_53178 {X : amX} (e1 : XT X = TT) (e2 : XD X = 0) (hB : amB X RJ7 cJ7_fill_53178 (none) 4) : ∀ pc, amOK X pc (look a_J7_fill_53178 pc) := by
  have hT : amTok (XT X) := e1 ▸ TT_ok
  refine look_ok ?_
  unfold a_J7_fill_53178
  refine fc (ok_iconst hB dJ7_fill_53178_0) ?_
  refine fc (ok_istore_n hB (by decide) dJ7_fill_53178_1) ?_
  refine fc (ok_aload_n hB dJ7_fill_53178_2) ?_
  refine fc (okt_arraylength e1 hB dJ7_fill_53178_3) ?_
  refine fc (ok_istore_n hB (by decide) dJ7_fill_53178_4) ?_
  refine fc (ok_iload_n hB dJ7_fill_53178_5) ?_
  refine fc (ok_iload_n hB dJ7_fill_53178_6) ?_
  refine fc (ok_icmp_ge hB (t := 20) (by decide) dJ7_fill_53178_7) ?_
  refine fc (ok_aload_n hB dJ7_fill_53178_10) ?_
  refine fc (ok_iload_n hB dJ7_fill_53178_11) ?_
  refine fc (ok_iload_n hB dJ7_fill_53178_12) ?_
  refine fc (okt_iastore e1 hB dJ7_fill_53178_13) ?_
  refine fc (ok_iinc hB (by decide) dJ7_fill_53178_14) ?_
  refine fc (ok_goto hB (t := 5) (by decide) dJ7_fill_53178_17) ?_
  refine fc (ok_vret hB dJ7_fill_53178_20) ?_
  exact fn
def inv_fillI (a v : Int) (σ : Mem) (n pc : Nat) (ls st : List AV) (σ' : Mem) : Prop := pc = 5 ∧ st = [] ∧ ∃ i : Int, ls = [(8, a), (0, v), (0, i), (0, alen TT σ a)] ∧ 0 ≤ i ∧ i + n = alen TT σ a ∧ σ' = fillm σ a i v
def w_J7_fill_53178 : WP := fun av σ Q => ∃ (a : Int) (v : Int), av = [(8, a), (0, v)] ∧ (0 ≤ a ∧ 0 ≤ alen TT σ a ∧ alen TT σ a ≤ 2147483647 ∧ Q (6, 0) (fillm σ a (alen TT σ a) v))
theorem w_J7_fill_53178_e (a : Int) (v : Int) (σ : Mem) (Q : AV → Mem → Prop) : w_J7_fill_53178 [(8, a), (0, v)] σ Q = (0 ≤ a ∧ 0 ≤ alen TT σ a ∧ alen TT σ a ≤ 2147483647 ∧ Q (6, 0) (fillm σ a (alen TT σ a) v)) := by
  apply propext; constructor
  · rintro ⟨a', v', h9, hb9⟩; cases h9; exact hb9
  · intro hb9; exact ⟨a, v, rfl, hb9⟩

set_option maxRecDepth 100000 in
set_option maxHeartbeats 4000000 in
theorem s_J7_fill_53178 : ∀ av σ Q, w_J7_fill_53178 av σ Q → amCall 0 0 0 TT yJ7_fill_53178 cJ7_fill_53178 4 (none) av σ Q := by
  rintro av σ Q ⟨a, v, rfl, h0, h1, h2, h⟩
  refine am_m [5] (inv_fillI a v σ) (own := RJ7) (A := look a_J7_fill_53178) (fun X e1 e2 hB => o_J7_fill_53178 e1 e2 hB) rfl (by decide +kernel) rfl rfl ?_ ⟨60, ?_⟩ (w := 4)
  · rintro n pc ls st σ' ⟨rfl, rfl, i, rfl, hi, hn, rfl⟩
    refine ⟨60, ?_⟩
    simp only [vI_e, vL_e, vNull_e, vIload_e, vLload_e, vAload_e, vIstore_e, vLstore_e, vAstore_e, vIinc_e, vIadd_e, vIsub_e, vImul_e, vIand_e, vIor_e, vIxor_e, vIshl_e, vIshr_e, vIushr_e, vIdiv_e, vIrem_e, vLadd_e, vLsub_e, vLmul_e, vLand_e, vLor_e, vLxor_e, vLdiv_e, vLrem_e, vLushr_e, vLshl_e, vLcmp_e, vIneg_e, vI2l_e, vL2i_e, vI2b_e, vI2c_e, vDup_e, vPop_e, vDup2_e, vGoto_e, vIcEq_e, vIfEq_e, vIcNe_e, vIfNe_e, vIcLt_e, vIfLt_e, vIcGe_e, vIfGe_e, vIcGt_e, vIfGt_e, vIcLe_e, vIfLe_e, vNonnull_e, vSw_e, vGetI_e, vGetL_e, vGetR_e, vPutI_e, vPutZ_e, vPutL_e, vPutR_e, vIald_e, vIald_s, vLald_e, vBald_e, vBald_s, vAald_e, vIast_e, vLast_e, vBast_e, vAast_e, vAlen_e8, vAlen_e9, vAlen_e10, vAlen_e11, vAlen_e5, vAlen_e3, vGets_e, vCompact_e, vLdcS_e, vIret_e, vZret_e, vCret_e, vBret_e, vLret_e, vVret_e, vAret_e, vCallM_e0, vCallMV_e0, vCallS_e0, vCallSV_e0, vCallM_e1, vCallMV_e1, vCallS_e1, vCallSV_e1, vCallM_e2, vCallMV_e2, vCallS_e2, vCallSV_e2, vCallM_e3, vCallMV_e3, vCallS_e3, vCallSV_e3, vCallM_e4, vCallMV_e4, vCallS_e4, vCallSV_e4, vCallM_e5, vCallMV_e5, vCallS_e5, vCallSV_e5, vCallM_e6, vCallMV_e6, vCallS_e6, vCallSV_e6, vCallM_e7, vCallMV_e7, vCallS_e7, vCallSV_e7, vBad_e, vStrVal_e, vStrCod_e, vForm_e, vCallT_e0, vCallT_e1, vCallT_e2, vCopy_e, rf_0_0, rf_0_1, rf_0_2, rf_0_3, rf_0_4, rf_0_7, rf_0_10, rf_0_11, rf_0_12, rf_0_13, rf_0_14, rf_0_15, rf_0_16, rf_1_0, rf_3_0, rf_3_1, rf_6_0, rf_6_1, rf_9_0, rf_9_1, rf_9_3, rf_13_0, rf_13_1, rf_13_2, rf_16_0, rf_16_1, rf_16_2, rf_16_3, rf_21_0, rf_21_1, rf_21_2, rf_21_3, rf_26_0, rf_26_1, rf_26_2, rf_26_3, rf_26_4, rf_26_5, rf_26_6, rf_31_0, rf_31_2, rf_31_5, rf_31_6, rf_36_0, rf_36_1, rf_36_2, rf_36_3, rf_39_0, rf_39_1, rf_39_2, rf_41_0, rf_41_1, rf_41_2, rf_41_3, rf_5000_1, rf_5000_2, rf_5000_3, rf_5000_4, rf_5000_5, rf_5000_15, rf_5000_16, rf_5000_18, rf_5000_19, rf_5000_20, rf_5000_21, rf_5000_22, rf_5000_23, rf_5000_24, rf_5000_25, rf_5000_26, rf_5000_27, rf_5000_36, rf_5000_37, rf_5000_40, rf_5000_41, rf_5000_42, rf_5000_43, rf_5000_44, rf_5000_45, rf_5000_47, rf_5000_52, rf_5000_54, rf_5000_55, rf_100_0, rf_100_1, rf_103_0, rf_103_1, rf_106_0, rf_106_1, rf_109_0, rf_109_1, al_2, al_4, al_5, al_7, al_8, al_10, al_11, al_12, al_14, al_15, al_17, al_18, al_19, al_20, al_22, al_23, al_24, al_25, al_27, al_28, al_29, al_30, al_32, al_33, al_34, al_35, al_37, al_38, al_40, al_42, al_5001, al_5002, al_5003, al_5004, al_5005, al_5006, al_5007, al_5008, al_5009, al_5010, al_5011, al_5012, al_5013, al_5014, al_5015, al_5016, al_5017, al_5018, al_5019, al_5020, al_5021, al_5022, al_5023, al_5024, al_5025, al_5026, al_9000, al_101, al_102, al_104, al_105, al_107, al_108, al_110, al_111, vcs_e, lg_c0, lg_cs, lg_nil, set_c0, set_cs, okst_0, okst_s, acok_n, acok_c, List.contains_nil, List.contains_cons, Bool.or_false, Bool.false_or, Bool.false_eq_true, if_false, if_true, ite_self, ne_eq, true_and, and_true, not_false_eq_true, not_true_eq_false, false_imp_iff, true_imp_iff, Nat.ble_eq, Bool.and_eq_true, reduceCtorEq, or_false, false_or, or_true, true_or, false_and, and_false, and_self, Int.reduceLE, Int.reduceAdd, Int.reduceSub, Int.reduceMul, Int.reduceNeg, Int.reduceLT, Int.reduceEq, Int.reduceNe, Nat.reduceBEq, Nat.reduceBNe, Nat.reduceEqDiff, amCmp_in, amCmp_lt, amCmp_le, amCmp_gt, amCmp_ge, amCmp_eq, amCmp_ne, Nat.reduceLeDiff, Nat.reduceSub, Bool.and_true, Bool.true_and, Bool.and_self, Bool.or_true, Bool.true_or, isRf_3, isRf_4, isRf_5, isRf_8, isRf_9, isRf_10, isRf_11, isRf_15, isRf_16, isRf_17, isRf_18, isRf_19, isRf_20, isRf_21, isRf_22, isRf_23, isRf_24, isRf_25, isRf_26, isRf_27, isRf_28, k_J7_fill_53178_0, k_J7_fill_53178_1, k_J7_fill_53178_2, k_J7_fill_53178_3, k_J7_fill_53178_4, k_J7_fill_53178_5, k_J7_fill_53178_6, k_J7_fill_53178_7, k_J7_fill_53178_10, k_J7_fill_53178_11, k_J7_fill_53178_12, k_J7_fill_53178_13, k_J7_fill_53178_14, k_J7_fill_53178_17, k_J7_fill_53178_20, alen_fillm]
    refine ⟨by omega, by omega, fun c => ?_, fun c => ?_⟩
    · rw [show i = alen TT σ a by omega]; exact h
    · refine ⟨h0, hi, by omega, h2, n - 1, by omega, rfl, rfl, i + 1, rfl, by omega, by omega, fillm_s σ hi⟩
  · change vcs _ _ _ _ 60 0 [(8, a), (0, v), (6, 0), (6, 0)] [] σ
    simp only [vI_e, vL_e, vNull_e, vIload_e, vLload_e, vAload_e, vIstore_e, vLstore_e, vAstore_e, vIinc_e, vIadd_e, vIsub_e, vImul_e, vIand_e, vIor_e, vIxor_e, vIshl_e, vIshr_e, vIushr_e, vIdiv_e, vIrem_e, vLadd_e, vLsub_e, vLmul_e, vLand_e, vLor_e, vLxor_e, vLdiv_e, vLrem_e, vLushr_e, vLshl_e, vLcmp_e, vIneg_e, vI2l_e, vL2i_e, vI2b_e, vI2c_e, vDup_e, vPop_e, vDup2_e, vGoto_e, vIcEq_e, vIfEq_e, vIcNe_e, vIfNe_e, vIcLt_e, vIfLt_e, vIcGe_e, vIfGe_e, vIcGt_e, vIfGt_e, vIcLe_e, vIfLe_e, vNonnull_e, vSw_e, vGetI_e, vGetL_e, vGetR_e, vPutI_e, vPutZ_e, vPutL_e, vPutR_e, vIald_e, vIald_s, vLald_e, vBald_e, vBald_s, vAald_e, vIast_e, vLast_e, vBast_e, vAast_e, vAlen_e8, vAlen_e9, vAlen_e10, vAlen_e11, vAlen_e5, vAlen_e3, vGets_e, vCompact_e, vLdcS_e, vIret_e, vZret_e, vCret_e, vBret_e, vLret_e, vVret_e, vAret_e, vCallM_e0, vCallMV_e0, vCallS_e0, vCallSV_e0, vCallM_e1, vCallMV_e1, vCallS_e1, vCallSV_e1, vCallM_e2, vCallMV_e2, vCallS_e2, vCallSV_e2, vCallM_e3, vCallMV_e3, vCallS_e3, vCallSV_e3, vCallM_e4, vCallMV_e4, vCallS_e4, vCallSV_e4, vCallM_e5, vCallMV_e5, vCallS_e5, vCallSV_e5, vCallM_e6, vCallMV_e6, vCallS_e6, vCallSV_e6, vCallM_e7, vCallMV_e7, vCallS_e7, vCallSV_e7, vBad_e, vStrVal_e, vStrCod_e, vForm_e, vCallT_e0, vCallT_e1, vCallT_e2, vCopy_e, rf_0_0, rf_0_1, rf_0_2, rf_0_3, rf_0_4, rf_0_7, rf_0_10, rf_0_11, rf_0_12, rf_0_13, rf_0_14, rf_0_15, rf_0_16, rf_1_0, rf_3_0, rf_3_1, rf_6_0, rf_6_1, rf_9_0, rf_9_1, rf_9_3, rf_13_0, rf_13_1, rf_13_2, rf_16_0, rf_16_1, rf_16_2, rf_16_3, rf_21_0, rf_21_1, rf_21_2, rf_21_3, rf_26_0, rf_26_1, rf_26_2, rf_26_3, rf_26_4, rf_26_5, rf_26_6, rf_31_0, rf_31_2, rf_31_5, rf_31_6, rf_36_0, rf_36_1, rf_36_2, rf_36_3, rf_39_0, rf_39_1, rf_39_2, rf_41_0, rf_41_1, rf_41_2, rf_41_3, rf_5000_1, rf_5000_2, rf_5000_3, rf_5000_4, rf_5000_5, rf_5000_15, rf_5000_16, rf_5000_18, rf_5000_19, rf_5000_20, rf_5000_21, rf_5000_22, rf_5000_23, rf_5000_24, rf_5000_25, rf_5000_26, rf_5000_27, rf_5000_36, rf_5000_37, rf_5000_40, rf_5000_41, rf_5000_42, rf_5000_43, rf_5000_44, rf_5000_45, rf_5000_47, rf_5000_52, rf_5000_54, rf_5000_55, rf_100_0, rf_100_1, rf_103_0, rf_103_1, rf_106_0, rf_106_1, rf_109_0, rf_109_1, al_2, al_4, al_5, al_7, al_8, al_10, al_11, al_12, al_14, al_15, al_17, al_18, al_19, al_20, al_22, al_23, al_24, al_25, al_27, al_28, al_29, al_30, al_32, al_33, al_34, al_35, al_37, al_38, al_40, al_42, al_5001, al_5002, al_5003, al_5004, al_5005, al_5006, al_5007, al_5008, al_5009, al_5010, al_5011, al_5012, al_5013, al_5014, al_5015, al_5016, al_5017, al_5018, al_5019, al_5020, al_5021, al_5022, al_5023, al_5024, al_5025, al_5026, al_9000, al_101, al_102, al_104, al_105, al_107, al_108, al_110, al_111, vcs_e, lg_c0, lg_cs, lg_nil, set_c0, set_cs, okst_0, okst_s, acok_n, acok_c, List.contains_nil, List.contains_cons, Bool.or_false, Bool.false_or, Bool.false_eq_true, if_false, if_true, ite_self, ne_eq, true_and, and_true, not_false_eq_true, not_true_eq_false, false_imp_iff, true_imp_iff, Nat.ble_eq, Bool.and_eq_true, reduceCtorEq, or_false, false_or, or_true, true_or, false_and, and_false, and_self, Int.reduceLE, Int.reduceAdd, Int.reduceSub, Int.reduceMul, Int.reduceNeg, Int.reduceLT, Int.reduceEq, Int.reduceNe, Nat.reduceBEq, Nat.reduceBNe, Nat.reduceEqDiff, amCmp_in, amCmp_lt, amCmp_le, amCmp_gt, amCmp_ge, amCmp_eq, amCmp_ne, Nat.reduceLeDiff, Nat.reduceSub, Bool.and_true, Bool.true_and, Bool.and_self, Bool.or_true, Bool.true_or, isRf_3, isRf_4, isRf_5, isRf_8, isRf_9, isRf_10, isRf_11, isRf_15, isRf_16, isRf_17, isRf_18, isRf_19, isRf_20, isRf_21, isRf_22, isRf_23, isRf_24, isRf_25, isRf_26, isRf_27, isRf_28, k_J7_fill_53178_0, k_J7_fill_53178_1, k_J7_fill_53178_2, k_J7_fill_53178_3, k_J7_fill_53178_4, k_J7_fill_53178_5, k_J7_fill_53178_6, k_J7_fill_53178_7, k_J7_fill_53178_10, k_J7_fill_53178_11, k_J7_fill_53178_12, k_J7_fill_53178_13, k_J7_fill_53178_14, k_J7_fill_53178_17, k_J7_fill_53178_20]
    exact ⟨h0, h1, (alen TT σ a).toNat, rfl, rfl, 0, rfl, by omega, by omega, (fillm_0 σ a v).symm⟩
def a_J7_fill_d0a16 : AC := [(0, vI 0 1), (1, vIstore 3 2), (2, vAload 0 3), (3, vAlen TT 4), (4, vIstore 4 6), (6, vIload 3 7), (7, vIload 4 9), (9, vIcGe 22 12), (12, vAload 0 13), (13, vIload 3 14), (14, vLload 1 15), (15, vLast TT 16), (16, vIinc 3 1 19), (19, vGoto 6), (22, vVret)]
theorem k_J7_fill_d0a16_0 : look a_J7_fill_d0a16 0 = vI 0 1 := rfl
theorem k_J7_fill_d0a16_1 : look a_J7_fill_d0a16 1 = vIstore 3 2 := rfl
theorem k_J7_fill_d0a16_2 : look a_J7_fill_d0a16 2 = vAload 0 3 := rfl
theorem k_J7_fill_d0a16_3 : look a_J7_fill_d0a16 3 = vAlen TT 4 := rfl
theorem k_J7_fill_d0a16_4 : look a_J7_fill_d0a16 4 = vIstore 4 6 := rfl
theorem k_J7_fill_d0a16_6 : look a_J7_fill_d0a16 6 = vIload 3 7 := rfl
theorem k_J7_fill_d0a16_7 : look a_J7_fill_d0a16 7 = vIload 4 9 := rfl
theorem k_J7_fill_d0a16_9 : look a_J7_fill_d0a16 9 = vIcGe 22 12 := rfl
theorem k_J7_fill_d0a16_12 : look a_J7_fill_d0a16 12 = vAload 0 13 := rfl
theorem k_J7_fill_d0a16_13 : look a_J7_fill_d0a16 13 = vIload 3 14 := rfl
theorem k_J7_fill_d0a16_14 : look a_J7_fill_d0a16 14 = vLload 1 15 := rfl
theorem k_J7_fill_d0a16_15 : look a_J7_fill_d0a16 15 = vLast TT 16 := rfl
theorem k_J7_fill_d0a16_16 : look a_J7_fill_d0a16 16 = vIinc 3 1 19 := rfl
theorem k_J7_fill_d0a16_19 : look a_J7_fill_d0a16 19 = vGoto 6 := rfl
theorem k_J7_fill_d0a16_22 : look a_J7_fill_d0a16 22 = vVret := rfl
theorem o_J7_fill_d0a16 {X : amX} (e1 : XT X = TT) (e2 : XD X = 0) (hB : amB X RJ7 cJ7_fill_d0a16 (none) 5) : ∀ pc, amOK X pc (look a_J7_fill_d0a16 pc) := by
  have hT : amTok (XT X) := e1 ▸ TT_ok
  refine look_ok ?_
  unfold a_J7_fill_d0a16
  refine fc (ok_iconst hB dJ7_fill_d0a16_0) ?_
  refine fc (ok_istore_n hB (by decide) dJ7_fill_d0a16_1) ?_
  refine fc (ok_aload_n hB dJ7_fill_d0a16_2) ?_
  refine fc (okt_arraylength e1 hB dJ7_fill_d0a16_3) ?_
  refine fc (ok_istore hB (by decide) dJ7_fill_d0a16_4) ?_
  refine fc (ok_iload_n hB dJ7_fill_d0a16_6) ?_
  refine fc (ok_iload hB dJ7_fill_d0a16_7) ?_
  refine fc (ok_icmp_ge hB (t := 22) (by decide) dJ7_fill_d0a16_9) ?_
  refine fc (ok_aload_n hB dJ7_fill_d0a16_12) ?_
  refine fc (ok_iload_n hB dJ7_fill_d0a16_13) ?_
  refine fc (ok_lload_n hB dJ7_fill_d0a16_14) ?_
  refine fc (okt_lastore e1 hB dJ7_fill_d0a16_15) ?_
  refine fc (ok_iinc hB (by decide) dJ7_fill_d0a16_16) ?_
  refine fc (ok_goto hB (t := 6) (by decide) dJ7_fill_d0a16_19) ?_
  refine fc (ok_vret hB dJ7_fill_d0a16_22) ?_
  exact fn
def inv_fillL (a v : Int) (σ : Mem) (n pc : Nat) (ls st : List AV) (σ' : Mem) : Prop := pc = 6 ∧ st = [] ∧ ∃ i : Int, ls = [(9, a), (1, v), (7, 0), (0, i), (0, alen TT σ a)] ∧ 0 ≤ i ∧ i + n = alen TT σ a ∧ σ' = fillm σ a i v
def w_J7_fill_d0a16 : WP := fun av σ Q => ∃ (a : Int) (v : Int), av = [(9, a), (1, v)] ∧ (0 ≤ a ∧ 0 ≤ alen TT σ a ∧ alen TT σ a ≤ 2147483647 ∧ Q (6, 0) (fillm σ a (alen TT σ a) v))
theorem w_J7_fill_d0a16_e (a : Int) (v : Int) (σ : Mem) (Q : AV → Mem → Prop) : w_J7_fill_d0a16 [(9, a), (1, v)] σ Q = (0 ≤ a ∧ 0 ≤ alen TT σ a ∧ alen TT σ a ≤ 2147483647 ∧ Q (6, 0) (fillm σ a (alen TT σ a) v)) := by
  apply propext; constructor
  · rintro ⟨a', v', h9, hb9⟩; cases h9; exact hb9
  · intro hb9; exact ⟨a, v, rfl, hb9⟩

set_option maxRecDepth 100000 in
set_option maxHeartbeats 4000000 in
theorem s_J7_fill_d0a16 : ∀ av σ Q, w_J7_fill_d0a16 av σ Q → amCall 0 0 0 TT yJ7_fill_d0a16 cJ7_fill_d0a16 5 (none) av σ Q := by
  rintro av σ Q ⟨a, v, rfl, h0, h1, h2, h⟩
  refine am_m [6] (inv_fillL a v σ) (own := RJ7) (A := look a_J7_fill_d0a16) (fun X e1 e2 hB => o_J7_fill_d0a16 e1 e2 hB) rfl (by decide +kernel) rfl rfl ?_ ⟨60, ?_⟩ (w := 5)
  · rintro n pc ls st σ' ⟨rfl, rfl, i, rfl, hi, hn, rfl⟩
    refine ⟨60, ?_⟩
    simp only [vI_e, vL_e, vNull_e, vIload_e, vLload_e, vAload_e, vIstore_e, vLstore_e, vAstore_e, vIinc_e, vIadd_e, vIsub_e, vImul_e, vIand_e, vIor_e, vIxor_e, vIshl_e, vIshr_e, vIushr_e, vIdiv_e, vIrem_e, vLadd_e, vLsub_e, vLmul_e, vLand_e, vLor_e, vLxor_e, vLdiv_e, vLrem_e, vLushr_e, vLshl_e, vLcmp_e, vIneg_e, vI2l_e, vL2i_e, vI2b_e, vI2c_e, vDup_e, vPop_e, vDup2_e, vGoto_e, vIcEq_e, vIfEq_e, vIcNe_e, vIfNe_e, vIcLt_e, vIfLt_e, vIcGe_e, vIfGe_e, vIcGt_e, vIfGt_e, vIcLe_e, vIfLe_e, vNonnull_e, vSw_e, vGetI_e, vGetL_e, vGetR_e, vPutI_e, vPutZ_e, vPutL_e, vPutR_e, vIald_e, vIald_s, vLald_e, vBald_e, vBald_s, vAald_e, vIast_e, vLast_e, vBast_e, vAast_e, vAlen_e8, vAlen_e9, vAlen_e10, vAlen_e11, vAlen_e5, vAlen_e3, vGets_e, vCompact_e, vLdcS_e, vIret_e, vZret_e, vCret_e, vBret_e, vLret_e, vVret_e, vAret_e, vCallM_e0, vCallMV_e0, vCallS_e0, vCallSV_e0, vCallM_e1, vCallMV_e1, vCallS_e1, vCallSV_e1, vCallM_e2, vCallMV_e2, vCallS_e2, vCallSV_e2, vCallM_e3, vCallMV_e3, vCallS_e3, vCallSV_e3, vCallM_e4, vCallMV_e4, vCallS_e4, vCallSV_e4, vCallM_e5, vCallMV_e5, vCallS_e5, vCallSV_e5, vCallM_e6, vCallMV_e6, vCallS_e6, vCallSV_e6, vCallM_e7, vCallMV_e7, vCallS_e7, vCallSV_e7, vBad_e, vStrVal_e, vStrCod_e, vForm_e, vCallT_e0, vCallT_e1, vCallT_e2, vCopy_e, rf_0_0, rf_0_1, rf_0_2, rf_0_3, rf_0_4, rf_0_7, rf_0_10, rf_0_11, rf_0_12, rf_0_13, rf_0_14, rf_0_15, rf_0_16, rf_1_0, rf_3_0, rf_3_1, rf_6_0, rf_6_1, rf_9_0, rf_9_1, rf_9_3, rf_13_0, rf_13_1, rf_13_2, rf_16_0, rf_16_1, rf_16_2, rf_16_3, rf_21_0, rf_21_1, rf_21_2, rf_21_3, rf_26_0, rf_26_1, rf_26_2, rf_26_3, rf_26_4, rf_26_5, rf_26_6, rf_31_0, rf_31_2, rf_31_5, rf_31_6, rf_36_0, rf_36_1, rf_36_2, rf_36_3, rf_39_0, rf_39_1, rf_39_2, rf_41_0, rf_41_1, rf_41_2, rf_41_3, rf_5000_1, rf_5000_2, rf_5000_3, rf_5000_4, rf_5000_5, rf_5000_15, rf_5000_16, rf_5000_18, rf_5000_19, rf_5000_20, rf_5000_21, rf_5000_22, rf_5000_23, rf_5000_24, rf_5000_25, rf_5000_26, rf_5000_27, rf_5000_36, rf_5000_37, rf_5000_40, rf_5000_41, rf_5000_42, rf_5000_43, rf_5000_44, rf_5000_45, rf_5000_47, rf_5000_52, rf_5000_54, rf_5000_55, rf_100_0, rf_100_1, rf_103_0, rf_103_1, rf_106_0, rf_106_1, rf_109_0, rf_109_1, al_2, al_4, al_5, al_7, al_8, al_10, al_11, al_12, al_14, al_15, al_17, al_18, al_19, al_20, al_22, al_23, al_24, al_25, al_27, al_28, al_29, al_30, al_32, al_33, al_34, al_35, al_37, al_38, al_40, al_42, al_5001, al_5002, al_5003, al_5004, al_5005, al_5006, al_5007, al_5008, al_5009, al_5010, al_5011, al_5012, al_5013, al_5014, al_5015, al_5016, al_5017, al_5018, al_5019, al_5020, al_5021, al_5022, al_5023, al_5024, al_5025, al_5026, al_9000, al_101, al_102, al_104, al_105, al_107, al_108, al_110, al_111, vcs_e, lg_c0, lg_cs, lg_nil, set_c0, set_cs, okst_0, okst_s, acok_n, acok_c, List.contains_nil, List.contains_cons, Bool.or_false, Bool.false_or, Bool.false_eq_true, if_false, if_true, ite_self, ne_eq, true_and, and_true, not_false_eq_true, not_true_eq_false, false_imp_iff, true_imp_iff, Nat.ble_eq, Bool.and_eq_true, reduceCtorEq, or_false, false_or, or_true, true_or, false_and, and_false, and_self, Int.reduceLE, Int.reduceAdd, Int.reduceSub, Int.reduceMul, Int.reduceNeg, Int.reduceLT, Int.reduceEq, Int.reduceNe, Nat.reduceBEq, Nat.reduceBNe, Nat.reduceEqDiff, amCmp_in, amCmp_lt, amCmp_le, amCmp_gt, amCmp_ge, amCmp_eq, amCmp_ne, Nat.reduceLeDiff, Nat.reduceSub, Bool.and_true, Bool.true_and, Bool.and_self, Bool.or_true, Bool.true_or, isRf_3, isRf_4, isRf_5, isRf_8, isRf_9, isRf_10, isRf_11, isRf_15, isRf_16, isRf_17, isRf_18, isRf_19, isRf_20, isRf_21, isRf_22, isRf_23, isRf_24, isRf_25, isRf_26, isRf_27, isRf_28, k_J7_fill_d0a16_0, k_J7_fill_d0a16_1, k_J7_fill_d0a16_2, k_J7_fill_d0a16_3, k_J7_fill_d0a16_4, k_J7_fill_d0a16_6, k_J7_fill_d0a16_7, k_J7_fill_d0a16_9, k_J7_fill_d0a16_12, k_J7_fill_d0a16_13, k_J7_fill_d0a16_14, k_J7_fill_d0a16_15, k_J7_fill_d0a16_16, k_J7_fill_d0a16_19, k_J7_fill_d0a16_22, alen_fillm]
    refine ⟨by omega, by omega, fun c => ?_, fun c => ?_⟩
    · rw [show i = alen TT σ a by omega]; exact h
    · refine ⟨h0, hi, by omega, h2, n - 1, by omega, rfl, rfl, i + 1, rfl, by omega, by omega, fillm_s σ hi⟩
  · change vcs _ _ _ _ 60 0 [(9, a), (1, v), (7, 0), (6, 0), (6, 0)] [] σ
    simp only [vI_e, vL_e, vNull_e, vIload_e, vLload_e, vAload_e, vIstore_e, vLstore_e, vAstore_e, vIinc_e, vIadd_e, vIsub_e, vImul_e, vIand_e, vIor_e, vIxor_e, vIshl_e, vIshr_e, vIushr_e, vIdiv_e, vIrem_e, vLadd_e, vLsub_e, vLmul_e, vLand_e, vLor_e, vLxor_e, vLdiv_e, vLrem_e, vLushr_e, vLshl_e, vLcmp_e, vIneg_e, vI2l_e, vL2i_e, vI2b_e, vI2c_e, vDup_e, vPop_e, vDup2_e, vGoto_e, vIcEq_e, vIfEq_e, vIcNe_e, vIfNe_e, vIcLt_e, vIfLt_e, vIcGe_e, vIfGe_e, vIcGt_e, vIfGt_e, vIcLe_e, vIfLe_e, vNonnull_e, vSw_e, vGetI_e, vGetL_e, vGetR_e, vPutI_e, vPutZ_e, vPutL_e, vPutR_e, vIald_e, vIald_s, vLald_e, vBald_e, vBald_s, vAald_e, vIast_e, vLast_e, vBast_e, vAast_e, vAlen_e8, vAlen_e9, vAlen_e10, vAlen_e11, vAlen_e5, vAlen_e3, vGets_e, vCompact_e, vLdcS_e, vIret_e, vZret_e, vCret_e, vBret_e, vLret_e, vVret_e, vAret_e, vCallM_e0, vCallMV_e0, vCallS_e0, vCallSV_e0, vCallM_e1, vCallMV_e1, vCallS_e1, vCallSV_e1, vCallM_e2, vCallMV_e2, vCallS_e2, vCallSV_e2, vCallM_e3, vCallMV_e3, vCallS_e3, vCallSV_e3, vCallM_e4, vCallMV_e4, vCallS_e4, vCallSV_e4, vCallM_e5, vCallMV_e5, vCallS_e5, vCallSV_e5, vCallM_e6, vCallMV_e6, vCallS_e6, vCallSV_e6, vCallM_e7, vCallMV_e7, vCallS_e7, vCallSV_e7, vBad_e, vStrVal_e, vStrCod_e, vForm_e, vCallT_e0, vCallT_e1, vCallT_e2, vCopy_e, rf_0_0, rf_0_1, rf_0_2, rf_0_3, rf_0_4, rf_0_7, rf_0_10, rf_0_11, rf_0_12, rf_0_13, rf_0_14, rf_0_15, rf_0_16, rf_1_0, rf_3_0, rf_3_1, rf_6_0, rf_6_1, rf_9_0, rf_9_1, rf_9_3, rf_13_0, rf_13_1, rf_13_2, rf_16_0, rf_16_1, rf_16_2, rf_16_3, rf_21_0, rf_21_1, rf_21_2, rf_21_3, rf_26_0, rf_26_1, rf_26_2, rf_26_3, rf_26_4, rf_26_5, rf_26_6, rf_31_0, rf_31_2, rf_31_5, rf_31_6, rf_36_0, rf_36_1, rf_36_2, rf_36_3, rf_39_0, rf_39_1, rf_39_2, rf_41_0, rf_41_1, rf_41_2, rf_41_3, rf_5000_1, rf_5000_2, rf_5000_3, rf_5000_4, rf_5000_5, rf_5000_15, rf_5000_16, rf_5000_18, rf_5000_19, rf_5000_20, rf_5000_21, rf_5000_22, rf_5000_23, rf_5000_24, rf_5000_25, rf_5000_26, rf_5000_27, rf_5000_36, rf_5000_37, rf_5000_40, rf_5000_41, rf_5000_42, rf_5000_43, rf_5000_44, rf_5000_45, rf_5000_47, rf_5000_52, rf_5000_54, rf_5000_55, rf_100_0, rf_100_1, rf_103_0, rf_103_1, rf_106_0, rf_106_1, rf_109_0, rf_109_1, al_2, al_4, al_5, al_7, al_8, al_10, al_11, al_12, al_14, al_15, al_17, al_18, al_19, al_20, al_22, al_23, al_24, al_25, al_27, al_28, al_29, al_30, al_32, al_33, al_34, al_35, al_37, al_38, al_40, al_42, al_5001, al_5002, al_5003, al_5004, al_5005, al_5006, al_5007, al_5008, al_5009, al_5010, al_5011, al_5012, al_5013, al_5014, al_5015, al_5016, al_5017, al_5018, al_5019, al_5020, al_5021, al_5022, al_5023, al_5024, al_5025, al_5026, al_9000, al_101, al_102, al_104, al_105, al_107, al_108, al_110, al_111, vcs_e, lg_c0, lg_cs, lg_nil, set_c0, set_cs, okst_0, okst_s, acok_n, acok_c, List.contains_nil, List.contains_cons, Bool.or_false, Bool.false_or, Bool.false_eq_true, if_false, if_true, ite_self, ne_eq, true_and, and_true, not_false_eq_true, not_true_eq_false, false_imp_iff, true_imp_iff, Nat.ble_eq, Bool.and_eq_true, reduceCtorEq, or_false, false_or, or_true, true_or, false_and, and_false, and_self, Int.reduceLE, Int.reduceAdd, Int.reduceSub, Int.reduceMul, Int.reduceNeg, Int.reduceLT, Int.reduceEq, Int.reduceNe, Nat.reduceBEq, Nat.reduceBNe, Nat.reduceEqDiff, amCmp_in, amCmp_lt, amCmp_le, amCmp_gt, amCmp_ge, amCmp_eq, amCmp_ne, Nat.reduceLeDiff, Nat.reduceSub, Bool.and_true, Bool.true_and, Bool.and_self, Bool.or_true, Bool.true_or, isRf_3, isRf_4, isRf_5, isRf_8, isRf_9, isRf_10, isRf_11, isRf_15, isRf_16, isRf_17, isRf_18, isRf_19, isRf_20, isRf_21, isRf_22, isRf_23, isRf_24, isRf_25, isRf_26, isRf_27, isRf_28, k_J7_fill_d0a16_0, k_J7_fill_d0a16_1, k_J7_fill_d0a16_2, k_J7_fill_d0a16_3, k_J7_fill_d0a16_4, k_J7_fill_d0a16_6, k_J7_fill_d0a16_7, k_J7_fill_d0a16_9, k_J7_fill_d0a16_12, k_J7_fill_d0a16_13, k_J7_fill_d0a16_14, k_J7_fill_d0a16_15, k_J7_fill_d0a16_16, k_J7_fill_d0a16_19, k_J7_fill_d0a16_22]
    exact ⟨h0, h1, (alen TT σ a).toNat, rfl, rfl, 0, rfl, by omega, by omega, (fillm_0 σ a v).symm⟩
theorem wd_805 : Cond.constant RJ6 265 1431655765 ∈ TBL := tb_tab (List.mem_of_getElem? (i := 805) (by decide +kernel)) rfl
theorem wd_806 : Cond.constant RJ6 266 858993459 ∈ TBL := tb_tab (List.mem_of_getElem? (i := 806) (by decide +kernel)) rfl
theorem wd_807 : Cond.constant RJ6 267 252645135 ∈ TBL := tb_tab (List.mem_of_getElem? (i := 807) (by decide +kernel)) rfl
def a_J6_bitCount_0f7a4 : AC := [(0, vIload 0 1), (1, vIload 0 2), (2, vI 1 3), (3, vIushr 4), (4, vI 1431655765 7), (7, vIand 8), (8, vIsub 9), (9, vIstore 0 10), (10, vIload 0 11), (11, vI 858993459 14), (14, vIand 15), (15, vIload 0 16), (16, vI 2 17), (17, vIushr 18), (18, vI 858993459 21), (21, vIand 22), (22, vIadd 23), (23, vIstore 0 24), (24, vIload 0 25), (25, vIload 0 26), (26, vI 4 27), (27, vIushr 28), (28, vIadd 29), (29, vI 252645135 32), (32, vIand 33), (33, vIstore 0 34), (34, vIload 0 35), (35, vIload 0 36), (36, vI 8 38), (38, vIushr 39), (39, vIadd 40), (40, vIstore 0 41), (41, vIload 0 42), (42, vIload 0 43), (43, vI 16 45), (45, vIushr 46), (46, vIadd 47), (47, vIstore 0 48), (48, vIload 0 49), (49, vI 63 51), (51, vIand 52), (52, vIret)]
theorem k_J6_bitCount_0f7a4_0 : look a_J6_bitCount_0f7a4 0 = vIload 0 1 := rfl
theorem k_J6_bitCount_0f7a4_1 : look a_J6_bitCount_0f7a4 1 = vIload 0 2 := rfl
theorem k_J6_bitCount_0f7a4_2 : look a_J6_bitCount_0f7a4 2 = vI 1 3 := rfl
theorem k_J6_bitCount_0f7a4_3 : look a_J6_bitCount_0f7a4 3 = vIushr 4 := rfl
theorem k_J6_bitCount_0f7a4_4 : look a_J6_bitCount_0f7a4 4 = vI 1431655765 7 := rfl
theorem k_J6_bitCount_0f7a4_7 : look a_J6_bitCount_0f7a4 7 = vIand 8 := rfl
theorem k_J6_bitCount_0f7a4_8 : look a_J6_bitCount_0f7a4 8 = vIsub 9 := rfl
theorem k_J6_bitCount_0f7a4_9 : look a_J6_bitCount_0f7a4 9 = vIstore 0 10 := rfl
theorem k_J6_bitCount_0f7a4_10 : look a_J6_bitCount_0f7a4 10 = vIload 0 11 := rfl
theorem k_J6_bitCount_0f7a4_11 : look a_J6_bitCount_0f7a4 11 = vI 858993459 14 := rfl
theorem k_J6_bitCount_0f7a4_14 : look a_J6_bitCount_0f7a4 14 = vIand 15 := rfl
theorem k_J6_bitCount_0f7a4_15 : look a_J6_bitCount_0f7a4 15 = vIload 0 16 := rfl
theorem k_J6_bitCount_0f7a4_16 : look a_J6_bitCount_0f7a4 16 = vI 2 17 := rfl
theorem k_J6_bitCount_0f7a4_17 : look a_J6_bitCount_0f7a4 17 = vIushr 18 := rfl
theorem k_J6_bitCount_0f7a4_18 : look a_J6_bitCount_0f7a4 18 = vI 858993459 21 := rfl
theorem k_J6_bitCount_0f7a4_21 : look a_J6_bitCount_0f7a4 21 = vIand 22 := rfl
theorem k_J6_bitCount_0f7a4_22 : look a_J6_bitCount_0f7a4 22 = vIadd 23 := rfl
theorem k_J6_bitCount_0f7a4_23 : look a_J6_bitCount_0f7a4 23 = vIstore 0 24 := rfl
theorem k_J6_bitCount_0f7a4_24 : look a_J6_bitCount_0f7a4 24 = vIload 0 25 := rfl
theorem k_J6_bitCount_0f7a4_25 : look a_J6_bitCount_0f7a4 25 = vIload 0 26 := rfl
theorem k_J6_bitCount_0f7a4_26 : look a_J6_bitCount_0f7a4 26 = vI 4 27 := rfl
theorem k_J6_bitCount_0f7a4_27 : look a_J6_bitCount_0f7a4 27 = vIushr 28 := rfl
theorem k_J6_bitCount_0f7a4_28 : look a_J6_bitCount_0f7a4 28 = vIadd 29 := rfl
theorem k_J6_bitCount_0f7a4_29 : look a_J6_bitCount_0f7a4 29 = vI 252645135 32 := rfl
theorem k_J6_bitCount_0f7a4_32 : look a_J6_bitCount_0f7a4 32 = vIand 33 := rfl
theorem k_J6_bitCount_0f7a4_33 : look a_J6_bitCount_0f7a4 33 = vIstore 0 34 := rfl
theorem k_J6_bitCount_0f7a4_34 : look a_J6_bitCount_0f7a4 34 = vIload 0 35 := rfl
theorem k_J6_bitCount_0f7a4_35 : look a_J6_bitCount_0f7a4 35 = vIload 0 36 := rfl
theorem k_J6_bitCount_0f7a4_36 : look a_J6_bitCount_0f7a4 36 = vI 8 38 := rfl
theorem k_J6_bitCount_0f7a4_38 : look a_J6_bitCount_0f7a4 38 = vIushr 39 := rfl
theorem k_J6_bitCount_0f7a4_39 : look a_J6_bitCount_0f7a4 39 = vIadd 40 := rfl
theorem k_J6_bitCount_0f7a4_40 : look a_J6_bitCount_0f7a4 40 = vIstore 0 41 := rfl
theorem k_J6_bitCount_0f7a4_41 : look a_J6_bitCount_0f7a4 41 = vIload 0 42 := rfl
theorem k_J6_bitCount_0f7a4_42 : look a_J6_bitCount_0f7a4 42 = vIload 0 43 := rfl
theorem k_J6_bitCount_0f7a4_43 : look a_J6_bitCount_0f7a4 43 = vI 16 45 := rfl
theorem k_J6_bitCount_0f7a4_45 : look a_J6_bitCount_0f7a4 45 = vIushr 46 := rfl
theorem k_J6_bitCount_0f7a4_46 : look a_J6_bitCount_0f7a4 46 = vIadd 47 := rfl
theorem k_J6_bitCount_0f7a4_47 : look a_J6_bitCount_0f7a4 47 = vIstore 0 48 := rfl
theorem k_J6_bitCount_0f7a4_48 : look a_J6_bitCount_0f7a4 48 = vIload 0 49 := rfl
theorem k_J6_bitCount_0f7a4_49 : look a_J6_bitCount_0f7a4 49 = vI 63 51 := rfl
theorem k_J6_bitCount_0f7a4_51 : look a_J6_bitCount_0f7a4 51 = vIand 52 := rfl
theorem k_J6_bitCount_0f7a4_52 : look a_J6_bitCount_0f7a4 52 = vIret := rfl
theorem o_J6_bitCount_0f7a4 {X : amX} (e1 : XT X = TT) (e2 : XD X = 0) (hB : amB X RJ6 cJ6_bitCount_0f7a4 (some .int) 1) : ∀ pc, amOK X pc (look a_J6_bitCount_0f7a4 pc) := by
  have hT : amTok (XT X) := e1 ▸ TT_ok
  refine look_ok ?_
  unfold a_J6_bitCount_0f7a4
  refine fc (ok_iload_n hB dJ6_bitCount_0f7a4_0) ?_
  refine fc (ok_iload_n hB dJ6_bitCount_0f7a4_1) ?_
  refine fc (ok_iconst hB dJ6_bitCount_0f7a4_2) ?_
  refine fc (ok_iushr hB dJ6_bitCount_0f7a4_3) ?_
  refine fc (ok_ldcw hB wd_805 rfl dJ6_bitCount_0f7a4_4) ?_
  refine fc (ok_iand hB dJ6_bitCount_0f7a4_7) ?_
  refine fc (ok_isub hB dJ6_bitCount_0f7a4_8) ?_
  refine fc (ok_istore_n hB (by decide) dJ6_bitCount_0f7a4_9) ?_
  refine fc (ok_iload_n hB dJ6_bitCount_0f7a4_10) ?_
  refine fc (ok_ldcw hB wd_806 rfl dJ6_bitCount_0f7a4_11) ?_
  refine fc (ok_iand hB dJ6_bitCount_0f7a4_14) ?_
  refine fc (ok_iload_n hB dJ6_bitCount_0f7a4_15) ?_
  refine fc (ok_iconst hB dJ6_bitCount_0f7a4_16) ?_
  refine fc (ok_iushr hB dJ6_bitCount_0f7a4_17) ?_
  refine fc (ok_ldcw hB wd_806 rfl dJ6_bitCount_0f7a4_18) ?_
  refine fc (ok_iand hB dJ6_bitCount_0f7a4_21) ?_
  refine fc (ok_iadd hB dJ6_bitCount_0f7a4_22) ?_
  refine fc (ok_istore_n hB (by decide) dJ6_bitCount_0f7a4_23) ?_
  refine fc (ok_iload_n hB dJ6_bitCount_0f7a4_24) ?_
  refine fc (ok_iload_n hB dJ6_bitCount_0f7a4_25) ?_
  refine fc (ok_iconst hB dJ6_bitCount_0f7a4_26) ?_
  refine fc (ok_iushr hB dJ6_bitCount_0f7a4_27) ?_
  refine fc (ok_iadd hB dJ6_bitCount_0f7a4_28) ?_
  refine fc (ok_ldcw hB wd_807 rfl dJ6_bitCount_0f7a4_29) ?_
  refine fc (ok_iand hB dJ6_bitCount_0f7a4_32) ?_
  refine fc (ok_istore_n hB (by decide) dJ6_bitCount_0f7a4_33) ?_
  refine fc (ok_iload_n hB dJ6_bitCount_0f7a4_34) ?_
  refine fc (ok_iload_n hB dJ6_bitCount_0f7a4_35) ?_
  refine fc (ok_bipush hB dJ6_bitCount_0f7a4_36 (by decide)) ?_
  refine fc (ok_iushr hB dJ6_bitCount_0f7a4_38) ?_
  refine fc (ok_iadd hB dJ6_bitCount_0f7a4_39) ?_
  refine fc (ok_istore_n hB (by decide) dJ6_bitCount_0f7a4_40) ?_
  refine fc (ok_iload_n hB dJ6_bitCount_0f7a4_41) ?_
  refine fc (ok_iload_n hB dJ6_bitCount_0f7a4_42) ?_
  refine fc (ok_bipush hB dJ6_bitCount_0f7a4_43 (by decide)) ?_
  refine fc (ok_iushr hB dJ6_bitCount_0f7a4_45) ?_
  refine fc (ok_iadd hB dJ6_bitCount_0f7a4_46) ?_
  refine fc (ok_istore_n hB (by decide) dJ6_bitCount_0f7a4_47) ?_
  refine fc (ok_iload_n hB dJ6_bitCount_0f7a4_48) ?_
  refine fc (ok_bipush hB dJ6_bitCount_0f7a4_49 (by decide)) ?_
  refine fc (ok_iand hB dJ6_bitCount_0f7a4_51) ?_
  refine fc (ok_iret hB dJ6_bitCount_0f7a4_52) ?_
  exact fn

def w_J6_bitCount_0f7a4 : WP := fun av σ Q => ∃ (x : Int), av = [(0, x)] ∧ (Q (0, bcx x) σ)
theorem w_J6_bitCount_0f7a4_e (x : Int) (σ : Mem) (Q : AV → Mem → Prop) : w_J6_bitCount_0f7a4 [(0, x)] σ Q = (Q (0, bcx x) σ) := by
  apply propext; constructor
  · rintro ⟨x', h9, hb9⟩; cases h9; exact hb9
  · intro hb9; exact ⟨x, rfl, hb9⟩

set_option maxRecDepth 100000 in
set_option maxHeartbeats 4000000 in
theorem s_J6_bitCount_0f7a4 : ∀ av σ Q, w_J6_bitCount_0f7a4 av σ Q → amCall 0 0 0 TT yJ6_bitCount_0f7a4 cJ6_bitCount_0f7a4 1 (some .int) av σ Q := by
  rintro av σ Q ⟨x, rfl, h⟩
  refine am_m0 (own := RJ6) (A := look a_J6_bitCount_0f7a4) (fun X e1 e2 hB => o_J6_bitCount_0f7a4 e1 e2 hB) rfl (by decide +kernel) rfl rfl 60 (w := 1) ?_
  change vcs _ _ _ _ 60 0 [(0, x)] [] σ
  simp only [vI_e, vL_e, vNull_e, vIload_e, vLload_e, vAload_e, vIstore_e, vLstore_e, vAstore_e, vIinc_e, vIadd_e, vIsub_e, vImul_e, vIand_e, vIor_e, vIxor_e, vIshl_e, vIshr_e, vIushr_e, vIdiv_e, vIrem_e, vLadd_e, vLsub_e, vLmul_e, vLand_e, vLor_e, vLxor_e, vLdiv_e, vLrem_e, vLushr_e, vLshl_e, vLcmp_e, vIneg_e, vI2l_e, vL2i_e, vI2b_e, vI2c_e, vDup_e, vPop_e, vDup2_e, vGoto_e, vIcEq_e, vIfEq_e, vIcNe_e, vIfNe_e, vIcLt_e, vIfLt_e, vIcGe_e, vIfGe_e, vIcGt_e, vIfGt_e, vIcLe_e, vIfLe_e, vNonnull_e, vSw_e, vGetI_e, vGetL_e, vGetR_e, vPutI_e, vPutZ_e, vPutL_e, vPutR_e, vIald_e, vIald_s, vLald_e, vBald_e, vBald_s, vAald_e, vIast_e, vLast_e, vBast_e, vAast_e, vAlen_e8, vAlen_e9, vAlen_e10, vAlen_e11, vAlen_e5, vAlen_e3, vGets_e, vCompact_e, vLdcS_e, vIret_e, vZret_e, vCret_e, vBret_e, vLret_e, vVret_e, vAret_e, vCallM_e0, vCallMV_e0, vCallS_e0, vCallSV_e0, vCallM_e1, vCallMV_e1, vCallS_e1, vCallSV_e1, vCallM_e2, vCallMV_e2, vCallS_e2, vCallSV_e2, vCallM_e3, vCallMV_e3, vCallS_e3, vCallSV_e3, vCallM_e4, vCallMV_e4, vCallS_e4, vCallSV_e4, vCallM_e5, vCallMV_e5, vCallS_e5, vCallSV_e5, vCallM_e6, vCallMV_e6, vCallS_e6, vCallSV_e6, vCallM_e7, vCallMV_e7, vCallS_e7, vCallSV_e7, vBad_e, vStrVal_e, vStrCod_e, vForm_e, vCallT_e0, vCallT_e1, vCallT_e2, vCopy_e, rf_0_0, rf_0_1, rf_0_2, rf_0_3, rf_0_4, rf_0_7, rf_0_10, rf_0_11, rf_0_12, rf_0_13, rf_0_14, rf_0_15, rf_0_16, rf_1_0, rf_3_0, rf_3_1, rf_6_0, rf_6_1, rf_9_0, rf_9_1, rf_9_3, rf_13_0, rf_13_1, rf_13_2, rf_16_0, rf_16_1, rf_16_2, rf_16_3, rf_21_0, rf_21_1, rf_21_2, rf_21_3, rf_26_0, rf_26_1, rf_26_2, rf_26_3, rf_26_4, rf_26_5, rf_26_6, rf_31_0, rf_31_2, rf_31_5, rf_31_6, rf_36_0, rf_36_1, rf_36_2, rf_36_3, rf_39_0, rf_39_1, rf_39_2, rf_41_0, rf_41_1, rf_41_2, rf_41_3, rf_5000_1, rf_5000_2, rf_5000_3, rf_5000_4, rf_5000_5, rf_5000_15, rf_5000_16, rf_5000_18, rf_5000_19, rf_5000_20, rf_5000_21, rf_5000_22, rf_5000_23, rf_5000_24, rf_5000_25, rf_5000_26, rf_5000_27, rf_5000_36, rf_5000_37, rf_5000_40, rf_5000_41, rf_5000_42, rf_5000_43, rf_5000_44, rf_5000_45, rf_5000_47, rf_5000_52, rf_5000_54, rf_5000_55, rf_100_0, rf_100_1, rf_103_0, rf_103_1, rf_106_0, rf_106_1, rf_109_0, rf_109_1, al_2, al_4, al_5, al_7, al_8, al_10, al_11, al_12, al_14, al_15, al_17, al_18, al_19, al_20, al_22, al_23, al_24, al_25, al_27, al_28, al_29, al_30, al_32, al_33, al_34, al_35, al_37, al_38, al_40, al_42, al_5001, al_5002, al_5003, al_5004, al_5005, al_5006, al_5007, al_5008, al_5009, al_5010, al_5011, al_5012, al_5013, al_5014, al_5015, al_5016, al_5017, al_5018, al_5019, al_5020, al_5021, al_5022, al_5023, al_5024, al_5025, al_5026, al_9000, al_101, al_102, al_104, al_105, al_107, al_108, al_110, al_111, vcs_e, lg_c0, lg_cs, lg_nil, set_c0, set_cs, okst_0, okst_s, acok_n, acok_c, List.contains_nil, List.contains_cons, Bool.or_false, Bool.false_or, Bool.false_eq_true, if_false, if_true, ite_self, ne_eq, true_and, and_true, not_false_eq_true, not_true_eq_false, false_imp_iff, true_imp_iff, Nat.ble_eq, Bool.and_eq_true, reduceCtorEq, or_false, false_or, or_true, true_or, false_and, and_false, and_self, Int.reduceLE, Int.reduceAdd, Int.reduceSub, Int.reduceMul, Int.reduceNeg, Int.reduceLT, Int.reduceEq, Int.reduceNe, Nat.reduceBEq, Nat.reduceBNe, Nat.reduceEqDiff, amCmp_in, amCmp_lt, amCmp_le, amCmp_gt, amCmp_ge, amCmp_eq, amCmp_ne, Nat.reduceLeDiff, Nat.reduceSub, Bool.and_true, Bool.true_and, Bool.and_self, Bool.or_true, Bool.true_or, isRf_3, isRf_4, isRf_5, isRf_8, isRf_9, isRf_10, isRf_11, isRf_15, isRf_16, isRf_17, isRf_18, isRf_19, isRf_20, isRf_21, isRf_22, isRf_23, isRf_24, isRf_25, isRf_26, isRf_27, isRf_28, k_J6_bitCount_0f7a4_0, k_J6_bitCount_0f7a4_1, k_J6_bitCount_0f7a4_2, k_J6_bitCount_0f7a4_3, k_J6_bitCount_0f7a4_4, k_J6_bitCount_0f7a4_7, k_J6_bitCount_0f7a4_8, k_J6_bitCount_0f7a4_9, k_J6_bitCount_0f7a4_10, k_J6_bitCount_0f7a4_11, k_J6_bitCount_0f7a4_14, k_J6_bitCount_0f7a4_15, k_J6_bitCount_0f7a4_16, k_J6_bitCount_0f7a4_17, k_J6_bitCount_0f7a4_18, k_J6_bitCount_0f7a4_21, k_J6_bitCount_0f7a4_22, k_J6_bitCount_0f7a4_23, k_J6_bitCount_0f7a4_24, k_J6_bitCount_0f7a4_25, k_J6_bitCount_0f7a4_26, k_J6_bitCount_0f7a4_27, k_J6_bitCount_0f7a4_28, k_J6_bitCount_0f7a4_29, k_J6_bitCount_0f7a4_32, k_J6_bitCount_0f7a4_33, k_J6_bitCount_0f7a4_34, k_J6_bitCount_0f7a4_35, k_J6_bitCount_0f7a4_36, k_J6_bitCount_0f7a4_38, k_J6_bitCount_0f7a4_39, k_J6_bitCount_0f7a4_40, k_J6_bitCount_0f7a4_41, k_J6_bitCount_0f7a4_42, k_J6_bitCount_0f7a4_43, k_J6_bitCount_0f7a4_45, k_J6_bitCount_0f7a4_46, k_J6_bitCount_0f7a4_47, k_J6_bitCount_0f7a4_48, k_J6_bitCount_0f7a4_49, k_J6_bitCount_0f7a4_51, k_J6_bitCount_0f7a4_52]
  exact h
def a_J9_floorDiv_f86c9 : AC := [(0, vLload 0 1), (1, vLload 2 2), (2, vLdiv 3), (3, vLstore 4 5), (5, vLload 0 6), (6, vLload 2 7), (7, vLxor 8), (8, vL 0 9), (9, vLcmp 10), (10, vIfGe 27 13), (13, vLload 4 15), (15, vLload 2 16), (16, vLmul 17), (17, vLload 0 18), (18, vLcmp 19), (19, vIfEq 27 22), (22, vLload 4 24), (24, vL 1 25), (25, vLsub 26), (26, vLret), (27, vLload 4 29), (29, vLret)]
theorem k_J9_floorDiv_f86c9_0 : look a_J9_floorDiv_f86c9 0 = vLload 0 1 := rfl
theorem k_J9_floorDiv_f86c9_1 : look a_J9_floorDiv_f86c9 1 = vLload 2 2 := rfl
theorem k_J9_floorDiv_f86c9_2 : look a_J9_floorDiv_f86c9 2 = vLdiv 3 := rfl
theorem k_J9_floorDiv_f86c9_3 : look a_J9_floorDiv_f86c9 3 = vLstore 4 5 := rfl
theorem k_J9_floorDiv_f86c9_5 : look a_J9_floorDiv_f86c9 5 = vLload 0 6 := rfl
theorem k_J9_floorDiv_f86c9_6 : look a_J9_floorDiv_f86c9 6 = vLload 2 7 := rfl
theorem k_J9_floorDiv_f86c9_7 : look a_J9_floorDiv_f86c9 7 = vLxor 8 := rfl
theorem k_J9_floorDiv_f86c9_8 : look a_J9_floorDiv_f86c9 8 = vL 0 9 := rfl
theorem k_J9_floorDiv_f86c9_9 : look a_J9_floorDiv_f86c9 9 = vLcmp 10 := rfl
theorem k_J9_floorDiv_f86c9_10 : look a_J9_floorDiv_f86c9 10 = vIfGe 27 13 := rfl
theorem k_J9_floorDiv_f86c9_13 : look a_J9_floorDiv_f86c9 13 = vLload 4 15 := rfl
theorem k_J9_floorDiv_f86c9_15 : look a_J9_floorDiv_f86c9 15 = vLload 2 16 := rfl
theorem k_J9_floorDiv_f86c9_16 : look a_J9_floorDiv_f86c9 16 = vLmul 17 := rfl
theorem k_J9_floorDiv_f86c9_17 : look a_J9_floorDiv_f86c9 17 = vLload 0 18 := rfl
theorem k_J9_floorDiv_f86c9_18 : look a_J9_floorDiv_f86c9 18 = vLcmp 19 := rfl
theorem k_J9_floorDiv_f86c9_19 : look a_J9_floorDiv_f86c9 19 = vIfEq 27 22 := rfl
theorem k_J9_floorDiv_f86c9_22 : look a_J9_floorDiv_f86c9 22 = vLload 4 24 := rfl
theorem k_J9_floorDiv_f86c9_24 : look a_J9_floorDiv_f86c9 24 = vL 1 25 := rfl
theorem k_J9_floorDiv_f86c9_25 : look a_J9_floorDiv_f86c9 25 = vLsub 26 := rfl
theorem k_J9_floorDiv_f86c9_26 : look a_J9_floorDiv_f86c9 26 = vLret := rfl
theorem k_J9_floorDiv_f86c9_27 : look a_J9_floorDiv_f86c9 27 = vLload 4 29 := rfl
theorem k_J9_floorDiv_f86c9_29 : look a_J9_floorDiv_f86c9 29 = vLret := rfl
theorem o_J9_floorDiv_f86c9 {X : amX} (e1 : XT X = TT) (e2 : XD X = 0) (hB : amB X RJ9 cJ9_floorDiv_f86c9 (some .long) 6) : ∀ pc, amOK X pc (look a_J9_floorDiv_f86c9 pc) := by
  have hT : amTok (XT X) := e1 ▸ TT_ok
  refine look_ok ?_
  unfold a_J9_floorDiv_f86c9
  refine fc (ok_lload_n hB dJ9_floorDiv_f86c9_0) ?_
  refine fc (ok_lload_n hB dJ9_floorDiv_f86c9_1) ?_
  refine fc (ok_ldiv hB dJ9_floorDiv_f86c9_2) ?_
  refine fc (ok_lstore hB (by decide) dJ9_floorDiv_f86c9_3) ?_
  refine fc (ok_lload_n hB dJ9_floorDiv_f86c9_5) ?_
  refine fc (ok_lload_n hB dJ9_floorDiv_f86c9_6) ?_
  refine fc (ok_lxor hB dJ9_floorDiv_f86c9_7) ?_
  refine fc (ok_lconst hB (z := 0) (by decide) dJ9_floorDiv_f86c9_8) ?_
  refine fc (ok_lcmp hB dJ9_floorDiv_f86c9_9) ?_
  refine fc (ok_if_ge hB (t := 27) (by decide) dJ9_floorDiv_f86c9_10) ?_
  refine fc (ok_lload hB dJ9_floorDiv_f86c9_13) ?_
  refine fc (ok_lload_n hB dJ9_floorDiv_f86c9_15) ?_
  refine fc (ok_lmul hB dJ9_floorDiv_f86c9_16) ?_
  refine fc (ok_lload_n hB dJ9_floorDiv_f86c9_17) ?_
  refine fc (ok_lcmp hB dJ9_floorDiv_f86c9_18) ?_
  refine fc (ok_if_eq hB (t := 27) (by decide) dJ9_floorDiv_f86c9_19) ?_
  refine fc (ok_lload hB dJ9_floorDiv_f86c9_22) ?_
  refine fc (ok_lconst hB (z := 1) (by decide) dJ9_floorDiv_f86c9_24) ?_
  refine fc (ok_lsub hB dJ9_floorDiv_f86c9_25) ?_
  refine fc (ok_lret hB dJ9_floorDiv_f86c9_26) ?_
  refine fc (ok_lload hB dJ9_floorDiv_f86c9_27) ?_
  refine fc (ok_lret hB dJ9_floorDiv_f86c9_29) ?_
  exact fn

def w_J9_floorDiv_f86c9 : WP := fun av σ Q => ∃ (x : Int) (y : Int), av = [(1, x), (1, y)] ∧ (InL x ∧ InL y ∧ 0 < y ∧ -9223372036854775808 < x ∧ Q (1, x / y) σ)
theorem w_J9_floorDiv_f86c9_e (x : Int) (y : Int) (σ : Mem) (Q : AV → Mem → Prop) : w_J9_floorDiv_f86c9 [(1, x), (1, y)] σ Q = (InL x ∧ InL y ∧ 0 < y ∧ -9223372036854775808 < x ∧ Q (1, x / y) σ) := by
  apply propext; constructor
  · rintro ⟨x', y', h9, hb9⟩; cases h9; exact hb9
  · intro hb9; exact ⟨x, y, rfl, hb9⟩

set_option maxRecDepth 100000 in
set_option maxHeartbeats 4000000 in
theorem s_J9_floorDiv_f86c9 : ∀ av σ Q, w_J9_floorDiv_f86c9 av σ Q → amCall 0 0 0 TT yJ9_floorDiv_f86c9 cJ9_floorDiv_f86c9 6 (some .long) av σ Q := by
  rintro av σ Q ⟨x, y, rfl, hx, hy, hp, hm, h⟩
  refine am_m0 (own := RJ9) (A := look a_J9_floorDiv_f86c9) (fun X e1 e2 hB => o_J9_floorDiv_f86c9 e1 e2 hB) rfl (by decide +kernel) rfl rfl 60 (w := 6) ?_
  change vcs _ _ _ _ 60 0 [(1, x), (7, 0), (1, y), (7, 0), (6, 0), (6, 0)] [] σ
  simp only [vI_e, vL_e, vNull_e, vIload_e, vLload_e, vAload_e, vIstore_e, vLstore_e, vAstore_e, vIinc_e, vIadd_e, vIsub_e, vImul_e, vIand_e, vIor_e, vIxor_e, vIshl_e, vIshr_e, vIushr_e, vIdiv_e, vIrem_e, vLadd_e, vLsub_e, vLmul_e, vLand_e, vLor_e, vLxor_e, vLdiv_e, vLrem_e, vLushr_e, vLshl_e, vLcmp_e, vIneg_e, vI2l_e, vL2i_e, vI2b_e, vI2c_e, vDup_e, vPop_e, vDup2_e, vGoto_e, vIcEq_e, vIfEq_e, vIcNe_e, vIfNe_e, vIcLt_e, vIfLt_e, vIcGe_e, vIfGe_e, vIcGt_e, vIfGt_e, vIcLe_e, vIfLe_e, vNonnull_e, vSw_e, vGetI_e, vGetL_e, vGetR_e, vPutI_e, vPutZ_e, vPutL_e, vPutR_e, vIald_e, vIald_s, vLald_e, vBald_e, vBald_s, vAald_e, vIast_e, vLast_e, vBast_e, vAast_e, vAlen_e8, vAlen_e9, vAlen_e10, vAlen_e11, vAlen_e5, vAlen_e3, vGets_e, vCompact_e, vLdcS_e, vIret_e, vZret_e, vCret_e, vBret_e, vLret_e, vVret_e, vAret_e, vCallM_e0, vCallMV_e0, vCallS_e0, vCallSV_e0, vCallM_e1, vCallMV_e1, vCallS_e1, vCallSV_e1, vCallM_e2, vCallMV_e2, vCallS_e2, vCallSV_e2, vCallM_e3, vCallMV_e3, vCallS_e3, vCallSV_e3, vCallM_e4, vCallMV_e4, vCallS_e4, vCallSV_e4, vCallM_e5, vCallMV_e5, vCallS_e5, vCallSV_e5, vCallM_e6, vCallMV_e6, vCallS_e6, vCallSV_e6, vCallM_e7, vCallMV_e7, vCallS_e7, vCallSV_e7, vBad_e, vStrVal_e, vStrCod_e, vForm_e, vCallT_e0, vCallT_e1, vCallT_e2, vCopy_e, rf_0_0, rf_0_1, rf_0_2, rf_0_3, rf_0_4, rf_0_7, rf_0_10, rf_0_11, rf_0_12, rf_0_13, rf_0_14, rf_0_15, rf_0_16, rf_1_0, rf_3_0, rf_3_1, rf_6_0, rf_6_1, rf_9_0, rf_9_1, rf_9_3, rf_13_0, rf_13_1, rf_13_2, rf_16_0, rf_16_1, rf_16_2, rf_16_3, rf_21_0, rf_21_1, rf_21_2, rf_21_3, rf_26_0, rf_26_1, rf_26_2, rf_26_3, rf_26_4, rf_26_5, rf_26_6, rf_31_0, rf_31_2, rf_31_5, rf_31_6, rf_36_0, rf_36_1, rf_36_2, rf_36_3, rf_39_0, rf_39_1, rf_39_2, rf_41_0, rf_41_1, rf_41_2, rf_41_3, rf_5000_1, rf_5000_2, rf_5000_3, rf_5000_4, rf_5000_5, rf_5000_15, rf_5000_16, rf_5000_18, rf_5000_19, rf_5000_20, rf_5000_21, rf_5000_22, rf_5000_23, rf_5000_24, rf_5000_25, rf_5000_26, rf_5000_27, rf_5000_36, rf_5000_37, rf_5000_40, rf_5000_41, rf_5000_42, rf_5000_43, rf_5000_44, rf_5000_45, rf_5000_47, rf_5000_52, rf_5000_54, rf_5000_55, rf_100_0, rf_100_1, rf_103_0, rf_103_1, rf_106_0, rf_106_1, rf_109_0, rf_109_1, al_2, al_4, al_5, al_7, al_8, al_10, al_11, al_12, al_14, al_15, al_17, al_18, al_19, al_20, al_22, al_23, al_24, al_25, al_27, al_28, al_29, al_30, al_32, al_33, al_34, al_35, al_37, al_38, al_40, al_42, al_5001, al_5002, al_5003, al_5004, al_5005, al_5006, al_5007, al_5008, al_5009, al_5010, al_5011, al_5012, al_5013, al_5014, al_5015, al_5016, al_5017, al_5018, al_5019, al_5020, al_5021, al_5022, al_5023, al_5024, al_5025, al_5026, al_9000, al_101, al_102, al_104, al_105, al_107, al_108, al_110, al_111, vcs_e, lg_c0, lg_cs, lg_nil, set_c0, set_cs, okst_0, okst_s, acok_n, acok_c, List.contains_nil, List.contains_cons, Bool.or_false, Bool.false_or, Bool.false_eq_true, if_false, if_true, ite_self, ne_eq, true_and, and_true, not_false_eq_true, not_true_eq_false, false_imp_iff, true_imp_iff, Nat.ble_eq, Bool.and_eq_true, reduceCtorEq, or_false, false_or, or_true, true_or, false_and, and_false, and_self, Int.reduceLE, Int.reduceAdd, Int.reduceSub, Int.reduceMul, Int.reduceNeg, Int.reduceLT, Int.reduceEq, Int.reduceNe, Nat.reduceBEq, Nat.reduceBNe, Nat.reduceEqDiff, amCmp_in, amCmp_lt, amCmp_le, amCmp_gt, amCmp_ge, amCmp_eq, amCmp_ne, Nat.reduceLeDiff, Nat.reduceSub, Bool.and_true, Bool.true_and, Bool.and_self, Bool.or_true, Bool.true_or, isRf_3, isRf_4, isRf_5, isRf_8, isRf_9, isRf_10, isRf_11, isRf_15, isRf_16, isRf_17, isRf_18, isRf_19, isRf_20, isRf_21, isRf_22, isRf_23, isRf_24, isRf_25, isRf_26, isRf_27, isRf_28, k_J9_floorDiv_f86c9_0, k_J9_floorDiv_f86c9_1, k_J9_floorDiv_f86c9_2, k_J9_floorDiv_f86c9_3, k_J9_floorDiv_f86c9_5, k_J9_floorDiv_f86c9_6, k_J9_floorDiv_f86c9_7, k_J9_floorDiv_f86c9_8, k_J9_floorDiv_f86c9_9, k_J9_floorDiv_f86c9_10, k_J9_floorDiv_f86c9_13, k_J9_floorDiv_f86c9_15, k_J9_floorDiv_f86c9_16, k_J9_floorDiv_f86c9_17, k_J9_floorDiv_f86c9_18, k_J9_floorDiv_f86c9_19, k_J9_floorDiv_f86c9_22, k_J9_floorDiv_f86c9_24, k_J9_floorDiv_f86c9_25, k_J9_floorDiv_f86c9_26, k_J9_floorDiv_f86c9_27, k_J9_floorDiv_f86c9_29]
  have hxi := amLxor_in x y
  rw [amLxor_nn hx hy hp]
  by_cases hx0 : 0 ≤ x
  · have e9 := (fd_pos hx0 hp).1
    repeat' (first | assumption | apply And.intro | intro _)
    all_goals first | (rw [e9]; exact h) | omega
  · obtain ⟨g1, g2, g3, g4, g5, g6, g7, g8⟩ := fd_neg (by omega : x < 0) hp
    repeat' (first | assumption | apply And.intro | intro _)
    all_goals first | omega | (rw [← (g1 (by omega)).1]; exact h) | (rw [← (g2 (by omega)).1]; exact h)
def a_J9_floorMod_f86c9 : AC := [(0, vLload 0 1), (1, vLload 2 2), (2, vLrem 3), (3, vLstore 4 5), (5, vLload 0 6), (6, vLload 2 7), (7, vLxor 8), (8, vL 0 9), (9, vLcmp 10), (10, vIfGe 25 13), (13, vLload 4 15), (15, vL 0 16), (16, vLcmp 17), (17, vIfEq 25 20), (20, vLload 4 22), (22, vLload 2 23), (23, vLadd 24), (24, vLret), (25, vLload 4 27), (27, vLret)]
theorem k_J9_floorMod_f86c9_0 : look a_J9_floorMod_f86c9 0 = vLload 0 1 := rfl
theorem k_J9_floorMod_f86c9_1 : look a_J9_floorMod_f86c9 1 = vLload 2 2 := rfl
theorem k_J9_floorMod_f86c9_2 : look a_J9_floorMod_f86c9 2 = vLrem 3 := rfl
theorem k_J9_floorMod_f86c9_3 : look a_J9_floorMod_f86c9 3 = vLstore 4 5 := rfl
theorem k_J9_floorMod_f86c9_5 : look a_J9_floorMod_f86c9 5 = vLload 0 6 := rfl
theorem k_J9_floorMod_f86c9_6 : look a_J9_floorMod_f86c9 6 = vLload 2 7 := rfl
theorem k_J9_floorMod_f86c9_7 : look a_J9_floorMod_f86c9 7 = vLxor 8 := rfl
theorem k_J9_floorMod_f86c9_8 : look a_J9_floorMod_f86c9 8 = vL 0 9 := rfl
theorem k_J9_floorMod_f86c9_9 : look a_J9_floorMod_f86c9 9 = vLcmp 10 := rfl
theorem k_J9_floorMod_f86c9_10 : look a_J9_floorMod_f86c9 10 = vIfGe 25 13 := rfl
theorem k_J9_floorMod_f86c9_13 : look a_J9_floorMod_f86c9 13 = vLload 4 15 := rfl
theorem k_J9_floorMod_f86c9_15 : look a_J9_floorMod_f86c9 15 = vL 0 16 := rfl
theorem k_J9_floorMod_f86c9_16 : look a_J9_floorMod_f86c9 16 = vLcmp 17 := rfl
theorem k_J9_floorMod_f86c9_17 : look a_J9_floorMod_f86c9 17 = vIfEq 25 20 := rfl
theorem k_J9_floorMod_f86c9_20 : look a_J9_floorMod_f86c9 20 = vLload 4 22 := rfl
theorem k_J9_floorMod_f86c9_22 : look a_J9_floorMod_f86c9 22 = vLload 2 23 := rfl
theorem k_J9_floorMod_f86c9_23 : look a_J9_floorMod_f86c9 23 = vLadd 24 := rfl
theorem k_J9_floorMod_f86c9_24 : look a_J9_floorMod_f86c9 24 = vLret := rfl
theorem k_J9_floorMod_f86c9_25 : look a_J9_floorMod_f86c9 25 = vLload 4 27 := rfl
theorem k_J9_floorMod_f86c9_27 : look a_J9_floorMod_f86c9 27 = vLret := rfl
theorem o_J9_floorMod_f86c9 {X : amX} (e1 : XT X = TT) (e2 : XD X = 0) (hB : amB X RJ9 cJ9_floorMod_f86c9 (some .long) 6) : ∀ pc, amOK X pc (look a_J9_floorMod_f86c9 pc) := by
  have hT : amTok (XT X) := e1 ▸ TT_ok
  refine look_ok ?_
  unfold a_J9_floorMod_f86c9
  refine fc (ok_lload_n hB dJ9_floorMod_f86c9_0) ?_
  refine fc (ok_lload_n hB dJ9_floorMod_f86c9_1) ?_
  refine fc (ok_lrem hB dJ9_floorMod_f86c9_2) ?_
  refine fc (ok_lstore hB (by decide) dJ9_floorMod_f86c9_3) ?_
  refine fc (ok_lload_n hB dJ9_floorMod_f86c9_5) ?_
  refine fc (ok_lload_n hB dJ9_floorMod_f86c9_6) ?_
  refine fc (ok_lxor hB dJ9_floorMod_f86c9_7) ?_
  refine fc (ok_lconst hB (z := 0) (by decide) dJ9_floorMod_f86c9_8) ?_
  refine fc (ok_lcmp hB dJ9_floorMod_f86c9_9) ?_
  refine fc (ok_if_ge hB (t := 25) (by decide) dJ9_floorMod_f86c9_10) ?_
  refine fc (ok_lload hB dJ9_floorMod_f86c9_13) ?_
  refine fc (ok_lconst hB (z := 0) (by decide) dJ9_floorMod_f86c9_15) ?_
  refine fc (ok_lcmp hB dJ9_floorMod_f86c9_16) ?_
  refine fc (ok_if_eq hB (t := 25) (by decide) dJ9_floorMod_f86c9_17) ?_
  refine fc (ok_lload hB dJ9_floorMod_f86c9_20) ?_
  refine fc (ok_lload_n hB dJ9_floorMod_f86c9_22) ?_
  refine fc (ok_ladd hB dJ9_floorMod_f86c9_23) ?_
  refine fc (ok_lret hB dJ9_floorMod_f86c9_24) ?_
  refine fc (ok_lload hB dJ9_floorMod_f86c9_25) ?_
  refine fc (ok_lret hB dJ9_floorMod_f86c9_27) ?_
  exact fn

def w_J9_floorMod_f86c9 : WP := fun av σ Q => ∃ (x : Int) (y : Int), av = [(1, x), (1, y)] ∧ (InL x ∧ InL y ∧ 0 < y ∧ -9223372036854775808 < x ∧ Q (1, x % y) σ)
theorem w_J9_floorMod_f86c9_e (x : Int) (y : Int) (σ : Mem) (Q : AV → Mem → Prop) : w_J9_floorMod_f86c9 [(1, x), (1, y)] σ Q = (InL x ∧ InL y ∧ 0 < y ∧ -9223372036854775808 < x ∧ Q (1, x % y) σ) := by
  apply propext; constructor
  · rintro ⟨x', y', h9, hb9⟩; cases h9; exact hb9
  · intro hb9; exact ⟨x, y, rfl, hb9⟩

set_option maxRecDepth 100000 in
set_option maxHeartbeats 4000000 in
theorem s_J9_floorMod_f86c9 : ∀ av σ Q, w_J9_floorMod_f86c9 av σ Q → amCall 0 0 0 TT yJ9_floorMod_f86c9 cJ9_floorMod_f86c9 6 (some .long) av σ Q := by
  rintro av σ Q ⟨x, y, rfl, hx, hy, hp, hm, h⟩
  refine am_m0 (own := RJ9) (A := look a_J9_floorMod_f86c9) (fun X e1 e2 hB => o_J9_floorMod_f86c9 e1 e2 hB) rfl (by decide +kernel) rfl rfl 60 (w := 6) ?_
  change vcs _ _ _ _ 60 0 [(1, x), (7, 0), (1, y), (7, 0), (6, 0), (6, 0)] [] σ
  simp only [vI_e, vL_e, vNull_e, vIload_e, vLload_e, vAload_e, vIstore_e, vLstore_e, vAstore_e, vIinc_e, vIadd_e, vIsub_e, vImul_e, vIand_e, vIor_e, vIxor_e, vIshl_e, vIshr_e, vIushr_e, vIdiv_e, vIrem_e, vLadd_e, vLsub_e, vLmul_e, vLand_e, vLor_e, vLxor_e, vLdiv_e, vLrem_e, vLushr_e, vLshl_e, vLcmp_e, vIneg_e, vI2l_e, vL2i_e, vI2b_e, vI2c_e, vDup_e, vPop_e, vDup2_e, vGoto_e, vIcEq_e, vIfEq_e, vIcNe_e, vIfNe_e, vIcLt_e, vIfLt_e, vIcGe_e, vIfGe_e, vIcGt_e, vIfGt_e, vIcLe_e, vIfLe_e, vNonnull_e, vSw_e, vGetI_e, vGetL_e, vGetR_e, vPutI_e, vPutZ_e, vPutL_e, vPutR_e, vIald_e, vIald_s, vLald_e, vBald_e, vBald_s, vAald_e, vIast_e, vLast_e, vBast_e, vAast_e, vAlen_e8, vAlen_e9, vAlen_e10, vAlen_e11, vAlen_e5, vAlen_e3, vGets_e, vCompact_e, vLdcS_e, vIret_e, vZret_e, vCret_e, vBret_e, vLret_e, vVret_e, vAret_e, vCallM_e0, vCallMV_e0, vCallS_e0, vCallSV_e0, vCallM_e1, vCallMV_e1, vCallS_e1, vCallSV_e1, vCallM_e2, vCallMV_e2, vCallS_e2, vCallSV_e2, vCallM_e3, vCallMV_e3, vCallS_e3, vCallSV_e3, vCallM_e4, vCallMV_e4, vCallS_e4, vCallSV_e4, vCallM_e5, vCallMV_e5, vCallS_e5, vCallSV_e5, vCallM_e6, vCallMV_e6, vCallS_e6, vCallSV_e6, vCallM_e7, vCallMV_e7, vCallS_e7, vCallSV_e7, vBad_e, vStrVal_e, vStrCod_e, vForm_e, vCallT_e0, vCallT_e1, vCallT_e2, vCopy_e, rf_0_0, rf_0_1, rf_0_2, rf_0_3, rf_0_4, rf_0_7, rf_0_10, rf_0_11, rf_0_12, rf_0_13, rf_0_14, rf_0_15, rf_0_16, rf_1_0, rf_3_0, rf_3_1, rf_6_0, rf_6_1, rf_9_0, rf_9_1, rf_9_3, rf_13_0, rf_13_1, rf_13_2, rf_16_0, rf_16_1, rf_16_2, rf_16_3, rf_21_0, rf_21_1, rf_21_2, rf_21_3, rf_26_0, rf_26_1, rf_26_2, rf_26_3, rf_26_4, rf_26_5, rf_26_6, rf_31_0, rf_31_2, rf_31_5, rf_31_6, rf_36_0, rf_36_1, rf_36_2, rf_36_3, rf_39_0, rf_39_1, rf_39_2, rf_41_0, rf_41_1, rf_41_2, rf_41_3, rf_5000_1, rf_5000_2, rf_5000_3, rf_5000_4, rf_5000_5, rf_5000_15, rf_5000_16, rf_5000_18, rf_5000_19, rf_5000_20, rf_5000_21, rf_5000_22, rf_5000_23, rf_5000_24, rf_5000_25, rf_5000_26, rf_5000_27, rf_5000_36, rf_5000_37, rf_5000_40, rf_5000_41, rf_5000_42, rf_5000_43, rf_5000_44, rf_5000_45, rf_5000_47, rf_5000_52, rf_5000_54, rf_5000_55, rf_100_0, rf_100_1, rf_103_0, rf_103_1, rf_106_0, rf_106_1, rf_109_0, rf_109_1, al_2, al_4, al_5, al_7, al_8, al_10, al_11, al_12, al_14, al_15, al_17, al_18, al_19, al_20, al_22, al_23, al_24, al_25, al_27, al_28, al_29, al_30, al_32, al_33, al_34, al_35, al_37, al_38, al_40, al_42, al_5001, al_5002, al_5003, al_5004, al_5005, al_5006, al_5007, al_5008, al_5009, al_5010, al_5011, al_5012, al_5013, al_5014, al_5015, al_5016, al_5017, al_5018, al_5019, al_5020, al_5021, al_5022, al_5023, al_5024, al_5025, al_5026, al_9000, al_101, al_102, al_104, al_105, al_107, al_108, al_110, al_111, vcs_e, lg_c0, lg_cs, lg_nil, set_c0, set_cs, okst_0, okst_s, acok_n, acok_c, List.contains_nil, List.contains_cons, Bool.or_false, Bool.false_or, Bool.false_eq_true, if_false, if_true, ite_self, ne_eq, true_and, and_true, not_false_eq_true, not_true_eq_false, false_imp_iff, true_imp_iff, Nat.ble_eq, Bool.and_eq_true, reduceCtorEq, or_false, false_or, or_true, true_or, false_and, and_false, and_self, Int.reduceLE, Int.reduceAdd, Int.reduceSub, Int.reduceMul, Int.reduceNeg, Int.reduceLT, Int.reduceEq, Int.reduceNe, Nat.reduceBEq, Nat.reduceBNe, Nat.reduceEqDiff, amCmp_in, amCmp_lt, amCmp_le, amCmp_gt, amCmp_ge, amCmp_eq, amCmp_ne, Nat.reduceLeDiff, Nat.reduceSub, Bool.and_true, Bool.true_and, Bool.and_self, Bool.or_true, Bool.true_or, isRf_3, isRf_4, isRf_5, isRf_8, isRf_9, isRf_10, isRf_11, isRf_15, isRf_16, isRf_17, isRf_18, isRf_19, isRf_20, isRf_21, isRf_22, isRf_23, isRf_24, isRf_25, isRf_26, isRf_27, isRf_28, k_J9_floorMod_f86c9_0, k_J9_floorMod_f86c9_1, k_J9_floorMod_f86c9_2, k_J9_floorMod_f86c9_3, k_J9_floorMod_f86c9_5, k_J9_floorMod_f86c9_6, k_J9_floorMod_f86c9_7, k_J9_floorMod_f86c9_8, k_J9_floorMod_f86c9_9, k_J9_floorMod_f86c9_10, k_J9_floorMod_f86c9_13, k_J9_floorMod_f86c9_15, k_J9_floorMod_f86c9_16, k_J9_floorMod_f86c9_17, k_J9_floorMod_f86c9_20, k_J9_floorMod_f86c9_22, k_J9_floorMod_f86c9_23, k_J9_floorMod_f86c9_24, k_J9_floorMod_f86c9_25, k_J9_floorMod_f86c9_27]
  have hxi := amLxor_in x y
  have hmod : x.tmod y = x - x.tdiv y * y := by rw [Int.tmod_def, Int.mul_comm]
  rw [amLxor_nn hx hy hp]
  by_cases hx0 : 0 ≤ x
  · have e9 := (fd_pos hx0 hp).2
    repeat' (first | assumption | apply And.intro | intro _)
    all_goals first | (rw [e9]; exact h) | omega
  · obtain ⟨g1, g2, g3, g4, g5, g6, g7, g8⟩ := fd_neg (by omega : x < 0) hp
    rw [hmod]
    repeat' (first | assumption | apply And.intro | intro _)
    all_goals first | omega | (rw [show x - x.tdiv y * y = 0 by omega, ← (g1 (by omega)).2]; exact h) | (rw [← (g2 (by omega)).2]; exact h)
