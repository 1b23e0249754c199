/-! the reference: MOST, TICKETS: rows of TICKETS tried one by one -/
def rwF (r : Int → Int) : Nat → Int
  | 0 => 0
  | c + 1 => 10 * rwF r c + r (4 * c + 1)
theorem rwF_c {r r' : Int → Int} : ∀ {n : Nat}, (∀ c : Int, 0 ≤ c → c < n → r' (4 * c + 1) = r (4 * c + 1)) → rwF r' n = rwF r n := by
  intro n
  induction n with
  | zero => intro _; rfl
  | succ n ih =>
    intro h
    unfold rwF
    rw [ih (fun c a b => h c a (by omega)), h n (by omega) (by omega)]
def a_X12_rowOf : AC := [(0, vI 0 1), (1, vIstore 2 2), (2, vI 0 3), (3, vIstore 3 4), (4, vIload 3 5), (5, vAload 0 6), (6, vGetI 28 29 9), (9, vIcGe 31 12), (12, vI 10 14), (14, vIload 2 15), (15, vImul 16), (16, vAload 1 17), (17, vI 4 18), (18, vIload 3 19), (19, vImul 20), (20, vI 1 21), (21, vIadd 22), (22, vIald TT 23), (23, vIadd 24), (24, vIstore 2 25), (25, vIinc 3 1 28), (28, vGoto 4), (31, vIload 2 32), (32, vIret)]
theorem k_X12_rowOf_0 : look a_X12_rowOf 0 = vI 0 1 := rfl
theorem k_X12_rowOf_1 : look a_X12_rowOf 1 = vIstore 2 2 := rfl
theorem k_X12_rowOf_2 : look a_X12_rowOf 2 = vI 0 3 := rfl
theorem k_X12_rowOf_3 : look a_X12_rowOf 3 = vIstore 3 4 := rfl
theorem k_X12_rowOf_4 : look a_X12_rowOf 4 = vIload 3 5 := rfl
theorem k_X12_rowOf_5 : look a_X12_rowOf 5 = vAload 0 6 := rfl
theorem k_X12_rowOf_6 : look a_X12_rowOf 6 = vGetI 28 29 9 := rfl
theorem k_X12_rowOf_9 : look a_X12_rowOf 9 = vIcGe 31 12 := rfl
theorem k_X12_rowOf_12 : look a_X12_rowOf 12 = vI 10 14 := rfl
theorem k_X12_rowOf_14 : look a_X12_rowOf 14 = vIload 2 15 := rfl
theorem k_X12_rowOf_15 : look a_X12_rowOf 15 = vImul 16 := rfl
theorem k_X12_rowOf_16 : look a_X12_rowOf 16 = vAload 1 17 := rfl
theorem k_X12_rowOf_17 : look a_X12_rowOf 17 = vI 4 18 := rfl
theorem k_X12_rowOf_18 : look a_X12_rowOf 18 = vIload 3 19 := rfl
theorem k_X12_rowOf_19 : look a_X12_rowOf 19 = vImul 20 := rfl
theorem k_X12_rowOf_20 : look a_X12_rowOf 20 = vI 1 21 := rfl
theorem k_X12_rowOf_21 : look a_X12_rowOf 21 = vIadd 22 := rfl
theorem k_X12_rowOf_22 : look a_X12_rowOf 22 = vIald TT 23 := rfl
theorem k_X12_rowOf_23 : look a_X12_rowOf 23 = vIadd 24 := rfl
theorem k_X12_rowOf_24 : look a_X12_rowOf 24 = vIstore 2 25 := rfl
theorem k_X12_rowOf_25 : look a_X12_rowOf 25 = vIinc 3 1 28 := rfl
theorem k_X12_rowOf_28 : look a_X12_rowOf 28 = vGoto 4 := rfl
theorem k_X12_rowOf_31 : look a_X12_rowOf 31 = vIload 2 32 := rfl
theorem k_X12_rowOf_32 : look a_X12_rowOf 32 = vIret := rfl
theorem o_X12_rowOf {X : amX} (e1 : XT X = TT) (e2 : XD X = 0) (hB : amB X RX12 cX12_rowOf (some .int) 4) : ∀ pc, amOK X pc (look a_X12_rowOf pc) := by
  have hT : amTok (XT X) := e1 ▸ TT_ok
  refine look_ok ?_
  unfold a_X12_rowOf
  refine fc (ok_iconst hB dX12_rowOf_0) ?_
  refine fc (ok_istore_n hB (by decide) dX12_rowOf_1) ?_
  refine fc (ok_iconst hB dX12_rowOf_2) ?_
  refine fc (ok_istore_n hB (by decide) dX12_rowOf_3) ?_
  refine fc (ok_iload_n hB dX12_rowOf_4) ?_
  refine fc (ok_aload_n hB dX12_rowOf_5) ?_
  refine fc (ok_getI hB hT fl_X12_317 rfl rfl (Or.inl af_12_29) dX12_rowOf_6) ?_
  refine fc (ok_icmp_ge hB (t := 31) (by decide) dX12_rowOf_9) ?_
  refine fc (ok_bipush hB dX12_rowOf_12 (by decide)) ?_
  refine fc (ok_iload_n hB dX12_rowOf_14) ?_
  refine fc (ok_imul hB dX12_rowOf_15) ?_
  refine fc (ok_aload_n hB dX12_rowOf_16) ?_
  refine fc (ok_iconst hB dX12_rowOf_17) ?_
  refine fc (ok_iload_n hB dX12_rowOf_18) ?_
  refine fc (ok_imul hB dX12_rowOf_19) ?_
  refine fc (ok_iconst hB dX12_rowOf_20) ?_
  refine fc (ok_iadd hB dX12_rowOf_21) ?_
  refine fc (okt_iaload e1 hB dX12_rowOf_22) ?_
  refine fc (ok_iadd hB dX12_rowOf_23) ?_
  refine fc (ok_istore_n hB (by decide) dX12_rowOf_24) ?_
  refine fc (ok_iinc hB (by decide) dX12_rowOf_25) ?_
  refine fc (ok_goto hB (t := 4) (by decide) dX12_rowOf_28) ?_
  refine fc (ok_iload_n hB dX12_rowOf_31) ?_
  refine fc (ok_iret hB dX12_rowOf_32) ?_
  exact fn
def inv_rwo (σ : Mem) (a : Int) (n pc : Nat) (ls st : List AV) (σ' : Mem) : Prop := pc = 4 ∧ st = [] ∧ σ' = σ ∧ ∃ k : Nat, ls = [(28, 5000), (8, a), (0, rwF (σ a) k), (0, (k : Int))] ∧ (k : Int) + n = σ 5000 29
def w_X12_rowOf : WP := fun av σ Q => ∃ (a : Int), av = [(28, 5000), (8, a)] ∧ (isW a ∧ 0 ≤ σ 5000 29 ∧ σ 5000 29 ≤ 6 ∧ Q (0, rwF (σ a) (σ 5000 29).toNat) σ)
theorem w_X12_rowOf_e (a : Int) (σ : Mem) (Q : AV → Mem → Prop) : w_X12_rowOf [(28, 5000), (8, a)] σ Q = (isW a ∧ 0 ≤ σ 5000 29 ∧ σ 5000 29 ≤ 6 ∧ Q (0, rwF (σ a) (σ 5000 29).toNat) σ) := by
  apply propext; constructor
  · rintro ⟨a', h9, hb9⟩; cases h9; exact hb9
  · intro hb9; exact ⟨a, rfl, hb9⟩

set_option maxRecDepth 100000 in
set_option maxHeartbeats 4000000 in
theorem s_X12_rowOf : ∀ av σ Q, w_X12_rowOf av σ Q → amCall 0 0 0 TT yX12_rowOf cX12_rowOf 4 (some .int) av σ Q := by
  rintro av σ Q ⟨a, rfl, ha, c0, c1, h⟩
  have al : ∀ τ, alen TT τ a = 208 := isW_al ha
  have a0 : 0 ≤ a := by omega
  refine am_m [4] (inv_rwo σ a) (own := RX12) (A := look a_X12_rowOf) (fun X e1 e2 hB => o_X12_rowOf e1 e2 hB) rfl (by decide +kernel) rfl rfl ?_ ⟨60, ?_⟩ (w := 4)
  · rintro n pc ls st σ' ⟨rfl, rfl, rfl, k, rfl, hn⟩
    refine ⟨60, ?_⟩
    by_cases cc : (k : Int) < σ' 5000 29
    · have i9 : ∃ k', k' < n ∧ inv_rwo σ' a k' 4 [(28, 5000), (8, a), (0, 10 * rwF (σ' a) k + σ' a (4 * k + 1)), (0, (k : Int) + 1)] [] σ' := ⟨n - 1, by omega, rfl, rfl, rfl, k + 1, rfl, by omega⟩
      simp only [↓reduceIte, inR_0, inR_1, inR_m, vSw2_e, swP_n, swP_c, vI_e, vL_e, vNull_e, vIload_e, vLload_e, vAload_e, vIstore_e, vLstore_e, vAstore_e, vIinc_e, vIadd_e, vIsub_e, vImul_e, vIand_e, vIor_e, vIxor_e, vIshl_e, vIshr_e, vIushr_e, vIdiv_e, vIrem_e, vLadd_e, vLsub_e, vLmul_e, vLand_e, vLor_e, vLxor_e, vLdiv_e, vLrem_e, vLushr_e, vLshl_e, vLcmp_e, vIneg_e, vI2l_e, vL2i_e, vI2b_e, vI2c_e, vDup_e, vPop_e, vDup2_e, vGoto_e, vIcEq_e, vIfEq_e, vIcNe_e, vIfNe_e, vIcLt_e, vIfLt_e, vIcGe_e, vIfGe_e, vIcGt_e, vIfGt_e, vIcLe_e, vIfLe_e, vNonnull_e, vSw_e, vGetI_e, vGetL_e, vGetR_e, vPutI_e, vPutZ_e, vPutL_e, vPutR_e, vIald_e, vIald_s, vLald_e, vBald_e, vBald_s, vAald_e, vIast_e, vLast_e, vBast_e, vAast_e, vAlen_e8, vAlen_e9, vAlen_e10, vAlen_e11, vAlen_e5, vAlen_e3, vGets_e, vCompact_e, vLdcS_e, vIret_e, vZret_e, vCret_e, vBret_e, vLret_e, vVret_e, vAret_e, vCallM_e0, vCallMV_e0, vCallS_e0, vCallSV_e0, vCallM_e1, vCallMV_e1, vCallS_e1, vCallSV_e1, vCallM_e2, vCallMV_e2, vCallS_e2, vCallSV_e2, vCallM_e3, vCallMV_e3, vCallS_e3, vCallSV_e3, vCallM_e4, vCallMV_e4, vCallS_e4, vCallSV_e4, vCallM_e5, vCallMV_e5, vCallS_e5, vCallSV_e5, vCallM_e6, vCallMV_e6, vCallS_e6, vCallSV_e6, vCallM_e7, vCallMV_e7, vCallS_e7, vCallSV_e7, vBad_e, vStrVal_e, vStrCod_e, vForm_e, vCallT_e0, vCallT_e1, vCallT_e2, vCopy_e, rf_0_0, rf_0_1, rf_0_2, rf_0_3, rf_0_4, rf_0_7, rf_0_10, rf_0_11, rf_0_12, rf_0_13, rf_0_14, rf_0_15, rf_0_16, rf_1_0, rf_3_0, rf_3_1, rf_6_0, rf_6_1, rf_9_0, rf_9_1, rf_9_3, rf_13_0, rf_13_1, rf_13_2, rf_16_0, rf_16_1, rf_16_2, rf_16_3, rf_21_0, rf_21_1, rf_21_2, rf_21_3, rf_26_0, rf_26_1, rf_26_2, rf_26_3, rf_26_4, rf_26_5, rf_26_6, rf_31_0, rf_31_2, rf_31_5, rf_31_6, rf_36_0, rf_36_1, rf_36_2, rf_36_3, rf_39_0, rf_39_1, rf_39_2, rf_41_0, rf_41_1, rf_41_2, rf_41_3, rf_5000_1, rf_5000_2, rf_5000_3, rf_5000_4, rf_5000_5, rf_5000_15, rf_5000_16, rf_5000_18, rf_5000_19, rf_5000_20, rf_5000_21, rf_5000_22, rf_5000_23, rf_5000_24, rf_5000_25, rf_5000_26, rf_5000_27, rf_5000_36, rf_5000_37, rf_5000_40, rf_5000_41, rf_5000_42, rf_5000_43, rf_5000_44, rf_5000_45, rf_5000_47, rf_5000_52, rf_5000_54, rf_5000_55, rf_100_0, rf_100_1, rf_103_0, rf_103_1, rf_106_0, rf_106_1, rf_109_0, rf_109_1, al_2, al_4, al_5, al_7, al_8, al_10, al_11, al_12, al_14, al_15, al_17, al_18, al_19, al_20, al_22, al_23, al_24, al_25, al_27, al_28, al_29, al_30, al_32, al_33, al_34, al_35, al_37, al_38, al_40, al_42, al_5001, al_5002, al_5003, al_5004, al_5005, al_5006, al_5007, al_5008, al_5009, al_5010, al_5011, al_5012, al_5013, al_5014, al_5015, al_5016, al_5017, al_5018, al_5019, al_5020, al_5021, al_5022, al_5023, al_5024, al_5025, al_5026, al_9000, al_101, al_102, al_104, al_105, al_107, al_108, al_110, al_111, vcs_e, lg_c0, lg_cs, lg_nil, set_c0, set_cs, okst_0, okst_s, acok_n, acok_c, List.contains_nil, List.contains_cons, Bool.or_false, Bool.false_or, Bool.false_eq_true, if_false, if_true, ite_self, ne_eq, true_and, and_true, not_false_eq_true, not_true_eq_false, false_imp_iff, true_imp_iff, Nat.ble_eq, Bool.and_eq_true, reduceCtorEq, or_false, false_or, or_true, true_or, false_and, and_false, and_self, Int.reduceLE, Int.reduceAdd, Int.reduceSub, Int.reduceMul, Int.reduceNeg, Int.reduceLT, Int.reduceEq, Int.reduceNe, Nat.reduceBEq, Nat.reduceBNe, Nat.reduceEqDiff, amCmp_in, amCmp_lt, amCmp_le, amCmp_gt, amCmp_ge, amCmp_eq, amCmp_ne, Nat.reduceLeDiff, Nat.reduceSub, Bool.and_true, Bool.true_and, Bool.and_self, Bool.or_true, Bool.true_or, isRf_3, isRf_4, isRf_5, isRf_8, isRf_9, isRf_10, isRf_11, isRf_15, isRf_16, isRf_17, isRf_18, isRf_19, isRf_20, isRf_21, isRf_22, isRf_23, isRf_24, isRf_25, isRf_26, isRf_27, isRf_28, k_X12_rowOf_0, k_X12_rowOf_1, k_X12_rowOf_2, k_X12_rowOf_3, k_X12_rowOf_4, k_X12_rowOf_5, k_X12_rowOf_6, k_X12_rowOf_9, k_X12_rowOf_12, k_X12_rowOf_14, k_X12_rowOf_15, k_X12_rowOf_16, k_X12_rowOf_17, k_X12_rowOf_18, k_X12_rowOf_19, k_X12_rowOf_20, k_X12_rowOf_21, k_X12_rowOf_22, k_X12_rowOf_23, k_X12_rowOf_24, k_X12_rowOf_25, k_X12_rowOf_28, k_X12_rowOf_31, k_X12_rowOf_32, al, a0]
      repeat' (first | apply And.intro | intro _)
      all_goals first | omega | exact absurd trivial (by assumption) | exact i9
    · rw [show (σ' 5000 29).toNat = k by omega] at h
      simp only [↓reduceIte, inR_0, inR_1, inR_m, vSw2_e, swP_n, swP_c, vI_e, vL_e, vNull_e, vIload_e, vLload_e, vAload_e, vIstore_e, vLstore_e, vAstore_e, vIinc_e, vIadd_e, vIsub_e, vImul_e, vIand_e, vIor_e, vIxor_e, vIshl_e, vIshr_e, vIushr_e, vIdiv_e, vIrem_e, vLadd_e, vLsub_e, vLmul_e, vLand_e, vLor_e, vLxor_e, vLdiv_e, vLrem_e, vLushr_e, vLshl_e, vLcmp_e, vIneg_e, vI2l_e, vL2i_e, vI2b_e, vI2c_e, vDup_e, vPop_e, vDup2_e, vGoto_e, vIcEq_e, vIfEq_e, vIcNe_e, vIfNe_e, vIcLt_e, vIfLt_e, vIcGe_e, vIfGe_e, vIcGt_e, vIfGt_e, vIcLe_e, vIfLe_e, vNonnull_e, vSw_e, vGetI_e, vGetL_e, vGetR_e, vPutI_e, vPutZ_e, vPutL_e, vPutR_e, vIald_e, vIald_s, vLald_e, vBald_e, vBald_s, vAald_e, vIast_e, vLast_e, vBast_e, vAast_e, vAlen_e8, vAlen_e9, vAlen_e10, vAlen_e11, vAlen_e5, vAlen_e3, vGets_e, vCompact_e, vLdcS_e, vIret_e, vZret_e, vCret_e, vBret_e, vLret_e, vVret_e, vAret_e, vCallM_e0, vCallMV_e0, vCallS_e0, vCallSV_e0, vCallM_e1, vCallMV_e1, vCallS_e1, vCallSV_e1, vCallM_e2, vCallMV_e2, vCallS_e2, vCallSV_e2, vCallM_e3, vCallMV_e3, vCallS_e3, vCallSV_e3, vCallM_e4, vCallMV_e4, vCallS_e4, vCallSV_e4, vCallM_e5, vCallMV_e5, vCallS_e5, vCallSV_e5, vCallM_e6, vCallMV_e6, vCallS_e6, vCallSV_e6, vCallM_e7, vCallMV_e7, vCallS_e7, vCallSV_e7, vBad_e, vStrVal_e, vStrCod_e, vForm_e, vCallT_e0, vCallT_e1, vCallT_e2, vCopy_e, rf_0_0, rf_0_1, rf_0_2, rf_0_3, rf_0_4, rf_0_7, rf_0_10, rf_0_11, rf_0_12, rf_0_13, rf_0_14, rf_0_15, rf_0_16, rf_1_0, rf_3_0, rf_3_1, rf_6_0, rf_6_1, rf_9_0, rf_9_1, rf_9_3, rf_13_0, rf_13_1, rf_13_2, rf_16_0, rf_16_1, rf_16_2, rf_16_3, rf_21_0, rf_21_1, rf_21_2, rf_21_3, rf_26_0, rf_26_1, rf_26_2, rf_26_3, rf_26_4, rf_26_5, rf_26_6, rf_31_0, rf_31_2, rf_31_5, rf_31_6, rf_36_0, rf_36_1, rf_36_2, rf_36_3, rf_39_0, rf_39_1, rf_39_2, rf_41_0, rf_41_1, rf_41_2, rf_41_3, rf_5000_1, rf_5000_2, rf_5000_3, rf_5000_4, rf_5000_5, rf_5000_15, rf_5000_16, rf_5000_18, rf_5000_19, rf_5000_20, rf_5000_21, rf_5000_22, rf_5000_23, rf_5000_24, rf_5000_25, rf_5000_26, rf_5000_27, rf_5000_36, rf_5000_37, rf_5000_40, rf_5000_41, rf_5000_42, rf_5000_43, rf_5000_44, rf_5000_45, rf_5000_47, rf_5000_52, rf_5000_54, rf_5000_55, rf_100_0, rf_100_1, rf_103_0, rf_103_1, rf_106_0, rf_106_1, rf_109_0, rf_109_1, al_2, al_4, al_5, al_7, al_8, al_10, al_11, al_12, al_14, al_15, al_17, al_18, al_19, al_20, al_22, al_23, al_24, al_25, al_27, al_28, al_29, al_30, al_32, al_33, al_34, al_35, al_37, al_38, al_40, al_42, al_5001, al_5002, al_5003, al_5004, al_5005, al_5006, al_5007, al_5008, al_5009, al_5010, al_5011, al_5012, al_5013, al_5014, al_5015, al_5016, al_5017, al_5018, al_5019, al_5020, al_5021, al_5022, al_5023, al_5024, al_5025, al_5026, al_9000, al_101, al_102, al_104, al_105, al_107, al_108, al_110, al_111, vcs_e, lg_c0, lg_cs, lg_nil, set_c0, set_cs, okst_0, okst_s, acok_n, acok_c, List.contains_nil, List.contains_cons, Bool.or_false, Bool.false_or, Bool.false_eq_true, if_false, if_true, ite_self, ne_eq, true_and, and_true, not_false_eq_true, not_true_eq_false, false_imp_iff, true_imp_iff, Nat.ble_eq, Bool.and_eq_true, reduceCtorEq, or_false, false_or, or_true, true_or, false_and, and_false, and_self, Int.reduceLE, Int.reduceAdd, Int.reduceSub, Int.reduceMul, Int.reduceNeg, Int.reduceLT, Int.reduceEq, Int.reduceNe, Nat.reduceBEq, Nat.reduceBNe, Nat.reduceEqDiff, amCmp_in, amCmp_lt, amCmp_le, amCmp_gt, amCmp_ge, amCmp_eq, amCmp_ne, Nat.reduceLeDiff, Nat.reduceSub, Bool.and_true, Bool.true_and, Bool.and_self, Bool.or_true, Bool.true_or, isRf_3, isRf_4, isRf_5, isRf_8, isRf_9, isRf_10, isRf_11, isRf_15, isRf_16, isRf_17, isRf_18, isRf_19, isRf_20, isRf_21, isRf_22, isRf_23, isRf_24, isRf_25, isRf_26, isRf_27, isRf_28, k_X12_rowOf_0, k_X12_rowOf_1, k_X12_rowOf_2, k_X12_rowOf_3, k_X12_rowOf_4, k_X12_rowOf_5, k_X12_rowOf_6, k_X12_rowOf_9, k_X12_rowOf_12, k_X12_rowOf_14, k_X12_rowOf_15, k_X12_rowOf_16, k_X12_rowOf_17, k_X12_rowOf_18, k_X12_rowOf_19, k_X12_rowOf_20, k_X12_rowOf_21, k_X12_rowOf_22, k_X12_rowOf_23, k_X12_rowOf_24, k_X12_rowOf_25, k_X12_rowOf_28, k_X12_rowOf_31, k_X12_rowOf_32, al, a0]
      repeat' (first | apply And.intro | intro _)
      all_goals first | omega | exact absurd trivial (by assumption) | exact h
  · change vcs _ _ _ _ 60 0 [(28, 5000), (8, a), (6, 0), (6, 0)] [] σ
    simp only [↓reduceIte, inR_0, inR_1, inR_m, vSw2_e, swP_n, swP_c, vI_e, vL_e, vNull_e, vIload_e, vLload_e, vAload_e, vIstore_e, vLstore_e, vAstore_e, vIinc_e, vIadd_e, vIsub_e, vImul_e, vIand_e, vIor_e, vIxor_e, vIshl_e, vIshr_e, vIushr_e, vIdiv_e, vIrem_e, vLadd_e, vLsub_e, vLmul_e, vLand_e, vLor_e, vLxor_e, vLdiv_e, vLrem_e, vLushr_e, vLshl_e, vLcmp_e, vIneg_e, vI2l_e, vL2i_e, vI2b_e, vI2c_e, vDup_e, vPop_e, vDup2_e, vGoto_e, vIcEq_e, vIfEq_e, vIcNe_e, vIfNe_e, vIcLt_e, vIfLt_e, vIcGe_e, vIfGe_e, vIcGt_e, vIfGt_e, vIcLe_e, vIfLe_e, vNonnull_e, vSw_e, vGetI_e, vGetL_e, vGetR_e, vPutI_e, vPutZ_e, vPutL_e, vPutR_e, vIald_e, vIald_s, vLald_e, vBald_e, vBald_s, vAald_e, vIast_e, vLast_e, vBast_e, vAast_e, vAlen_e8, vAlen_e9, vAlen_e10, vAlen_e11, vAlen_e5, vAlen_e3, vGets_e, vCompact_e, vLdcS_e, vIret_e, vZret_e, vCret_e, vBret_e, vLret_e, vVret_e, vAret_e, vCallM_e0, vCallMV_e0, vCallS_e0, vCallSV_e0, vCallM_e1, vCallMV_e1, vCallS_e1, vCallSV_e1, vCallM_e2, vCallMV_e2, vCallS_e2, vCallSV_e2, vCallM_e3, vCallMV_e3, vCallS_e3, vCallSV_e3, vCallM_e4, vCallMV_e4, vCallS_e4, vCallSV_e4, vCallM_e5, vCallMV_e5, vCallS_e5, vCallSV_e5, vCallM_e6, vCallMV_e6, vCallS_e6, vCallSV_e6, vCallM_e7, vCallMV_e7, vCallS_e7, vCallSV_e7, vBad_e, vStrVal_e, vStrCod_e, vForm_e, vCallT_e0, vCallT_e1, vCallT_e2, vCopy_e, rf_0_0, rf_0_1, rf_0_2, rf_0_3, rf_0_4, rf_0_7, rf_0_10, rf_0_11, rf_0_12, rf_0_13, rf_0_14, rf_0_15, rf_0_16, rf_1_0, rf_3_0, rf_3_1, rf_6_0, rf_6_1, rf_9_0, rf_9_1, rf_9_3, rf_13_0, rf_13_1, rf_13_2, rf_16_0, rf_16_1, rf_16_2, rf_16_3, rf_21_0, rf_21_1, rf_21_2, rf_21_3, rf_26_0, rf_26_1, rf_26_2, rf_26_3, rf_26_4, rf_26_5, rf_26_6, rf_31_0, rf_31_2, rf_31_5, rf_31_6, rf_36_0, rf_36_1, rf_36_2, rf_36_3, rf_39_0, rf_39_1, rf_39_2, rf_41_0, rf_41_1, rf_41_2, rf_41_3, rf_5000_1, rf_5000_2, rf_5000_3, rf_5000_4, rf_5000_5, rf_5000_15, rf_5000_16, rf_5000_18, rf_5000_19, rf_5000_20, rf_5000_21, rf_5000_22, rf_5000_23, rf_5000_24, rf_5000_25, rf_5000_26, rf_5000_27, rf_5000_36, rf_5000_37, rf_5000_40, rf_5000_41, rf_5000_42, rf_5000_43, rf_5000_44, rf_5000_45, rf_5000_47, rf_5000_52, rf_5000_54, rf_5000_55, rf_100_0, rf_100_1, rf_103_0, rf_103_1, rf_106_0, rf_106_1, rf_109_0, rf_109_1, al_2, al_4, al_5, al_7, al_8, al_10, al_11, al_12, al_14, al_15, al_17, al_18, al_19, al_20, al_22, al_23, al_24, al_25, al_27, al_28, al_29, al_30, al_32, al_33, al_34, al_35, al_37, al_38, al_40, al_42, al_5001, al_5002, al_5003, al_5004, al_5005, al_5006, al_5007, al_5008, al_5009, al_5010, al_5011, al_5012, al_5013, al_5014, al_5015, al_5016, al_5017, al_5018, al_5019, al_5020, al_5021, al_5022, al_5023, al_5024, al_5025, al_5026, al_9000, al_101, al_102, al_104, al_105, al_107, al_108, al_110, al_111, vcs_e, lg_c0, lg_cs, lg_nil, set_c0, set_cs, okst_0, okst_s, acok_n, acok_c, List.contains_nil, List.contains_cons, Bool.or_false, Bool.false_or, Bool.false_eq_true, if_false, if_true, ite_self, ne_eq, true_and, and_true, not_false_eq_true, not_true_eq_false, false_imp_iff, true_imp_iff, Nat.ble_eq, Bool.and_eq_true, reduceCtorEq, or_false, false_or, or_true, true_or, false_and, and_false, and_self, Int.reduceLE, Int.reduceAdd, Int.reduceSub, Int.reduceMul, Int.reduceNeg, Int.reduceLT, Int.reduceEq, Int.reduceNe, Nat.reduceBEq, Nat.reduceBNe, Nat.reduceEqDiff, amCmp_in, amCmp_lt, amCmp_le, amCmp_gt, amCmp_ge, amCmp_eq, amCmp_ne, Nat.reduceLeDiff, Nat.reduceSub, Bool.and_true, Bool.true_and, Bool.and_self, Bool.or_true, Bool.true_or, isRf_3, isRf_4, isRf_5, isRf_8, isRf_9, isRf_10, isRf_11, isRf_15, isRf_16, isRf_17, isRf_18, isRf_19, isRf_20, isRf_21, isRf_22, isRf_23, isRf_24, isRf_25, isRf_26, isRf_27, isRf_28, k_X12_rowOf_0, k_X12_rowOf_1, k_X12_rowOf_2, k_X12_rowOf_3, k_X12_rowOf_4, k_X12_rowOf_5, k_X12_rowOf_6, k_X12_rowOf_9, k_X12_rowOf_12, k_X12_rowOf_14, k_X12_rowOf_15, k_X12_rowOf_16, k_X12_rowOf_17, k_X12_rowOf_18, k_X12_rowOf_19, k_X12_rowOf_20, k_X12_rowOf_21, k_X12_rowOf_22, k_X12_rowOf_23, k_X12_rowOf_24, k_X12_rowOf_25, k_X12_rowOf_28, k_X12_rowOf_31, k_X12_rowOf_32]
    exact ⟨(σ 5000 29).toNat, rfl, rfl, rfl, 0, rfl, by omega⟩
/-- all are MOVED so much with the row r apart -/
def rMv (m : Mem) (p : Int) (r : Int → Int) : Int := sumC (mFl (setv m 5016 r) 5016 p (mMi m p)) (m 5000 29).toNat
def mstL (m : Mem) (p : Int) (r : Int → Int) (s : Int × Int) : Int × Int := if rMv m p r ≤ s.2 then s else (rwF r (m 5000 29).toNat, rMv m p r)
def mstI (g : Int → Int × Int → Int × Int) : Nat → Int × Int → Int × Int
  | 0, s => s
  | t + 1, s => g t (mstI g t s)
def mstF (m : Mem) (p : Int) : Nat → (Int → Int) → Int → Int × Int → Int × Int
  | 0, r, _, s => mstL m p r s
  | d + 1, r, c, s => mstI (fun t s => mstF m p d (upf r (4 * c + 1) t) (c + 1) s) (m 5000 30).toNat s
/-- rows alike but for TICKETS from CHAIR c on -/
def rAg (n c : Int) (r r' : Int → Int) : Prop := ∀ j, 0 ≤ j → j < 28 → (∀ d, c ≤ d → d < n → j ≠ 4 * d + 1) → r' j = r j
theorem rAg_s {n c t : Int} {r r' : Int → Int} (h : rAg n c r r') : rAg n (c + 1) (upf r (4 * c + 1) t) (upf r' (4 * c + 1) t) := by
  intro j j0 j1 hj
  unfold upf
  by_cases e : j = 4 * c + 1
  · rw [if_pos e, if_pos e]
  · rw [if_neg e, if_neg e]
    exact h j j0 j1 (fun d d0 d1 => by
      by_cases e2 : d = c
      · rw [e2]; exact e
      · exact hj d (by omega) d1)
theorem rAg_b {n c t : Int} {r r' : Int → Int} (cn : c < n) (h : rAg n (c + 1) (upf r (4 * c + 1) t) r') : rAg n c r r' := by
  intro j j0 j1 hj
  rw [h j j0 j1 (fun d d0 d1 => hj d (by omega) d1), upf_n2 _ (hj c (by omega) cn)]
theorem rAg_n {n : Int} {r r' : Int → Int} (h : rAg n n r r') {j : Int} (j0 : 0 ≤ j) (j1 : j < 28) : r' j = r j := h j j0 j1 (fun d d0 d1 => by omega)
/-- while rows are tried -/
def tryS (m : Mem) (c : Int) (r : Int → Int) (σ : Mem) : Prop := QF m σ ∧ mOk σ ∧ rAg (m 5000 29) c r (σ 5016) ∧ σ 5025 = m 5025 ∧ σ 5000 0 = m 5000 0
theorem QF_sP {m σ : Mem} (h : QF m σ) {r : Int → Int} (hr : ∀ j, 0 ≤ j → j < 28 → σ 5016 j = r j) : sP (setv m 5016 r) σ 5016 5016 := by
  have so : ∀ b, b ≠ 5016 → setv m 5016 r b = m b := fun b hb => setv_o _ _ hb
  refine ⟨fun j j0 j1 => by rw [setv_e2]; exact hr j j0 j1, ?_, ?_, ?_, ?_, ?_, ?_, ?_⟩
  · rw [so _ (by decide)]; exact h.1 5007 (by decide) (by decide) (by decide) (by decide)
  · rw [so _ (by decide)]; exact h.1 5011 (by decide) (by decide) (by decide) (by decide)
  · rw [so _ (by decide)]; exact h.1 5005 (by decide) (by decide) (by decide) (by decide)
  · rw [so _ (by decide)]; exact h.1 5002 (by decide) (by decide) (by decide) (by decide)
  · rw [so _ (by decide)]; exact h.1 5003 (by decide) (by decide) (by decide) (by decide)
  · rw [so 5000 (by decide)]; exact h.2 29 (by decide) (by decide) (by decide) (by decide) (by decide) (by decide) (by decide)
  · rw [so 5000 (by decide)]; exact h.2 38 (by decide) (by decide) (by decide) (by decide) (by decide) (by decide) (by decide)
theorem QF_mX {m σ : Mem} (h : QF m σ) (hm : mOk σ) (hx : mX m 5015) {r : Int → Int} (hr : aR (m 5000 29) (m 5000 30) r) (he : ∀ j, 0 ≤ j → j < 28 → σ 5016 j = r j) : mX σ 5016 := by
  obtain ⟨-, hh, -⟩ := hx
  have k := fun k (a1 : k ≠ 0) (a2 : k ≠ 5) (a3 : k < 8 ∨ 14 < k) (a4 : k ≠ 17) (a5 : k ≠ 46) (a6 : k ≠ 50) (a7 : k ≠ 51) => h.2 k a1 a2 a3 a4 a5 a6 a7
  have e29 := k 29 (by decide) (by decide) (by decide) (by decide) (by decide) (by decide) (by decide)
  have e30 := k 30 (by decide) (by decide) (by decide) (by decide) (by decide) (by decide) (by decide)
  refine ⟨Or.inr rfl, ?_, ?_⟩
  · obtain ⟨h1, h2, h3, h4, h5, h6, h7, h8, h9⟩ := hh
    refine ⟨hm, lwIs_c (k 7 (by decide) (by decide) (by decide) (by decide) (by decide) (by decide) (by decide)) (k 38 (by decide) (by decide) (by decide) (by decide) (by decide) (by decide) (by decide)) h2, ?_⟩
    rw [e29, e30, k 28 (by decide) (by decide) (by decide) (by decide) (by decide) (by decide) (by decide), k 48 (by decide) (by decide) (by decide) (by decide) (by decide) (by decide) (by decide), h.1 5007 (by decide) (by decide) (by decide) (by decide), h.1 5011 (by decide) (by decide) (by decide) (by decide), h.1 5005 (by decide) (by decide) (by decide) (by decide)]
    exact ⟨h3, h4, h5, h6, h7, h8, h9⟩
  · rw [e29, e30]; exact aR_c hh.2.2.1.2 he hr
theorem QF_k {σ τ : Mem} (h : QF σ τ) {k v : Int} (hk : k = 50 ∨ k = 51) : QF σ (up τ 5000 k v) := ⟨fun b h1 h2 h3 h4 => by rw [up_na _ h1]; exact h.1 b h1 h2 h3 h4, fun j a1 a2 a3 a4 a5 a6 a7 => by rw [up_nj _ (by omega)]; exact h.2 j a1 a2 a3 a4 a5 a6 a7⟩
theorem tryS_k {m τ : Mem} {c : Int} {r : Int → Int} (h : tryS m c r τ) {k v : Int} (hk : k = 50 ∨ k = 51) : tryS m c r (up τ 5000 k v) := by
  obtain ⟨h1, h2, h3, h4, h5⟩ := h
  exact ⟨QF_k h1 hk, mOk_c (by rw [up_nj _ (by omega)]) (fun b hb => up_na _ (by omega)) h2, by rw [up_na _ (by decide)]; exact h3, by rw [up_na _ (by decide)]; exact h4, by rw [up_nj _ (by omega)]; exact h5⟩
theorem tryS_t {m τ : Mem} {c : Int} {r : Int → Int} (h : tryS m c r τ) (t : Int) : tryS m (c + 1) (upf r (4 * c + 1) t) (up τ 5016 (4 * c + 1) t) := by
  obtain ⟨h1, h2, h3, h4, h5⟩ := h
  exact ⟨QF_up h1 (Or.inl rfl), mOk_up h2 (by decide), by rw [up_row]; exact rAg_s h3, by rw [up_na _ (by decide)]; exact h4, by rw [up_na _ (by decide)]; exact h5⟩
theorem tryS_b {m τ : Mem} {c t : Int} {r : Int → Int} (cn : c < m 5000 29) (h : tryS m (c + 1) (upf r (4 * c + 1) t) τ) : tryS m c r τ := ⟨h.1, h.2.1, rAg_b cn h.2.2.1, h.2.2.2⟩
def wMo : Nat → WP
  | 0 => fun _ _ _ => False
  | d + 1 => fun av σ Q => ∃ (c p : Int), av = [(28, 5000), (0, c), (0, p)] ∧ (∃ (m : Mem) (r : Int → Int), mX m 5015 ∧ aR (m 5000 29) (m 5000 30) r ∧ 0 ≤ p ∧ p < m 5000 28 ∧ 0 ≤ c ∧ c + d = m 5000 29 ∧ tryS m c r σ ∧ InR (σ 5000 50) ∧ InR (σ 5000 51) ∧ (∀ τ, tryS m c r τ → InR (τ 5000 50) → InR (τ 5000 51) → (τ 5000 50, τ 5000 51) = mstF m p d r c (σ 5000 50, σ 5000 51) → Q (6, 0) τ))
abbrev MoS (d : Nat) : Prop := ∀ av σ Q, wMo d av σ Q → amCall (60 + d) 0 0 TT yX12_goMost cX12_goMost 4 none av σ Q
theorem wMo_0 (av : List AV) (σ : Mem) (Q : AV → Mem → Prop) : wMo 0 av σ Q = False := rfl
theorem wMo_s (d : Nat) (c p : Int) (σ : Mem) (Q : AV → Mem → Prop) : wMo (d + 1) [(28, 5000), (0, c), (0, p)] σ Q = (∃ (m : Mem) (r : Int → Int), mX m 5015 ∧ aR (m 5000 29) (m 5000 30) r ∧ 0 ≤ p ∧ p < m 5000 28 ∧ 0 ≤ c ∧ c + d = m 5000 29 ∧ tryS m c r σ ∧ InR (σ 5000 50) ∧ InR (σ 5000 51) ∧ (∀ τ, tryS m c r τ → InR (τ 5000 50) → InR (τ 5000 51) → (τ 5000 50, τ 5000 51) = mstF m p d r c (σ 5000 50, σ 5000 51) → Q (6, 0) τ)) := by
  apply propext; constructor
  · rintro ⟨c', p', h, hb⟩; cases h; exact hb
  · intro hb; exact ⟨c, p, rfl, hb⟩
theorem rMv_b {m : Mem} {p : Int} {r : Int → Int} (hx : mX m 5015) (hp : 0 ≤ p ∧ p < m 5000 28) : 0 ≤ rMv m p r ∧ rMv m p r ≤ 10000 := by
  have n29 := hx.2.1.2.2.1
  have n28 := hx.2.1.2.2.2.2.1
  have hM := hx.2.1.2.2.2.2.2.1 (4 * p + 3) (by omega) (by omega)
  have e5 : setv m 5016 r 5000 = m 5000 := setv_o _ _ (by decide)
  have key : ∀ n : Nat, (n : Int) ≤ m 5000 29 → 0 ≤ sumC (mFl (setv m 5016 r) 5016 p (mMi m p)) n ∧ sumC (mFl (setv m 5016 r) 5016 p (mMi m p)) n ≤ 891 * n := by
    intro n
    induction n with
    | zero => intro _; unfold sumC; omega
    | succ n ih =>
      intro hn
      have a := ih (by omega)
      have b := mFl_b (σ := setv m 5016 r) (w := 5016) (p := p) (c := n) (by rw [e5]; omega) (mMi m p)
      have h9 : mMi m p ≤ 9 := by unfold mMi; omega
      unfold sumC; omega
  have := key (m 5000 29).toNat (by omega)
  unfold rMv; omega

theorem wd_1356 : Cond.fieldLink RX12 429 "ArmchairHouseModel" "rowWorth" "I" ∈ TBL := tb_tab (List.mem_of_getElem? (i := 1356) (by decide +kernel)) rfl
theorem fl_X12_429 : amFl RX12 12 51 429 RX12 TX12 57 := ⟨rfl, inT_12, by decide, wd_1356⟩
theorem fp_X12_429 : amFp RX12 12 51 429 RX12 TX12 57 tyX12 .int := ⟨fl_X12_429, tyX12_ok, nmX12, by decide +kernel⟩
theorem wd_1821 : Cond.methodLink RX12 432 yX12_rowOf ∈ TBL := tb_tab (List.mem_of_getElem? (i := 1821) (by decide +kernel)) rfl
theorem wd_1824 : Cond.code yX12_rowOf cX12_rowOf 4 (some .int) ∈ TBL := tb_tab (List.mem_of_getElem? (i := 1824) (by decide +kernel)) rfl
theorem lk_X12_432 : amLk RX12 432 yX12_rowOf cX12_rowOf 4 (some .int) 1 := ⟨wd_1821, wd_12, wd_1824, by decide +kernel, by decide +kernel, by decide⟩
theorem wd_1823 : Cond.instanceMethod yX12_rowOf ∈ TBL := tb_tab (List.mem_of_getElem? (i := 1823) (by decide +kernel)) rfl
theorem sl_X12_rowOf : Cond.selects RX12 yX12_rowOf yX12_rowOf ∈ TBL := tb_sel (List.mem_of_getElem? (i := 91) (by decide +kernel)) rfl
theorem wd_1355 : Cond.fieldLink RX12 436 "ArmchairHouseModel" "rowBest" "I" ∈ TBL := tb_tab (List.mem_of_getElem? (i := 1355) (by decide +kernel)) rfl
theorem fl_X12_436 : amFl RX12 12 50 436 RX12 TX12 57 := ⟨rfl, inT_12, by decide, wd_1355⟩
theorem fp_X12_436 : amFp RX12 12 50 436 RX12 TX12 57 tyX12 .int := ⟨fl_X12_436, tyX12_ok, nmX12, by decide +kernel⟩
theorem wd_1829 : Cond.methodLink RX12 445 yX12_goMost ∈ TBL := tb_tab (List.mem_of_getElem? (i := 1829) (by decide +kernel)) rfl
theorem wd_1832 : Cond.code yX12_goMost cX12_goMost 4 (none) ∈ TBL := tb_tab (List.mem_of_getElem? (i := 1832) (by decide +kernel)) rfl
theorem lk_X12_445 : amLk RX12 445 yX12_goMost cX12_goMost 4 (none) 2 := ⟨wd_1829, wd_12, wd_1832, by decide +kernel, by decide +kernel, by decide⟩
theorem wd_1831 : Cond.instanceMethod yX12_goMost ∈ TBL := tb_tab (List.mem_of_getElem? (i := 1831) (by decide +kernel)) rfl
theorem sl_X12_goMost : Cond.selects RX12 yX12_goMost yX12_goMost ∈ TBL := tb_sel (List.mem_of_getElem? (i := 92) (by decide +kernel)) rfl
def a_X12_goMost (d : Nat) : AC := [(0, vIload 1 1), (1, vAload 0 2), (2, vGetI 28 29 5), (5, vIcNe 51 8), (8, vAload 0 9), (9, vAload 0 10), (10, vGetR TT 28 37 8 13), (13, vIload 2 14), (14, vCallM w_X12_goPlay 28 2 17), (17, vIstore 3 18), (18, vAload 0 19), (19, vGetI 28 46 22), (22, vAload 0 23), (23, vGetI 28 51 26), (26, vIcGt 30 29), (29, vVret), (30, vAload 0 31), (31, vAload 0 32), (32, vGetI 28 46 35), (35, vPutI 28 51 38), (38, vAload 0 39), (39, vAload 0 40), (40, vAload 0 41), (41, vGetR TT 28 37 8 44), (44, vCallM w_X12_rowOf 28 1 47), (47, vPutI 28 50 50), (50, vVret), (51, vI 0 52), (52, vIstore 3 53), (53, vIload 3 54), (54, vAload 0 55), (55, vGetI 28 30 58), (58, vIcGe 86 61), (61, vAload 0 62), (62, vGetR TT 28 37 8 65), (65, vI 4 66), (66, vIload 1 67), (67, vImul 68), (68, vI 1 69), (69, vIadd 70), (70, vIload 3 71), (71, vIast TT 72), (72, vAload 0 73), (73, vIload 1 74), (74, vI 1 75), (75, vIadd 76), (76, vIload 2 77), (77, vCallMV (wMo d) 28 2 80), (80, vIinc 3 1 83), (83, vGoto 53), (86, vVret)]
theorem k_X12_goMost_0 (d : Nat) : look (a_X12_goMost d) 0 = vIload 1 1 := rfl
theorem k_X12_goMost_1 (d : Nat) : look (a_X12_goMost d) 1 = vAload 0 2 := rfl
theorem k_X12_goMost_2 (d : Nat) : look (a_X12_goMost d) 2 = vGetI 28 29 5 := rfl
theorem k_X12_goMost_5 (d : Nat) : look (a_X12_goMost d) 5 = vIcNe 51 8 := rfl
theorem k_X12_goMost_8 (d : Nat) : look (a_X12_goMost d) 8 = vAload 0 9 := rfl
theorem k_X12_goMost_9 (d : Nat) : look (a_X12_goMost d) 9 = vAload 0 10 := rfl
theorem k_X12_goMost_10 (d : Nat) : look (a_X12_goMost d) 10 = vGetR TT 28 37 8 13 := rfl
theorem k_X12_goMost_13 (d : Nat) : look (a_X12_goMost d) 13 = vIload 2 14 := rfl
theorem k_X12_goMost_14 (d : Nat) : look (a_X12_goMost d) 14 = vCallM w_X12_goPlay 28 2 17 := rfl
theorem k_X12_goMost_17 (d : Nat) : look (a_X12_goMost d) 17 = vIstore 3 18 := rfl
theorem k_X12_goMost_18 (d : Nat) : look (a_X12_goMost d) 18 = vAload 0 19 := rfl
theorem k_X12_goMost_19 (d : Nat) : look (a_X12_goMost d) 19 = vGetI 28 46 22 := rfl
theorem k_X12_goMost_22 (d : Nat) : look (a_X12_goMost d) 22 = vAload 0 23 := rfl
theorem k_X12_goMost_23 (d : Nat) : look (a_X12_goMost d) 23 = vGetI 28 51 26 := rfl
theorem k_X12_goMost_26 (d : Nat) : look (a_X12_goMost d) 26 = vIcGt 30 29 := rfl
theorem k_X12_goMost_29 (d : Nat) : look (a_X12_goMost d) 29 = vVret := rfl
theorem k_X12_goMost_30 (d : Nat) : look (a_X12_goMost d) 30 = vAload 0 31 := rfl
theorem k_X12_goMost_31 (d : Nat) : look (a_X12_goMost d) 31 = vAload 0 32 := rfl
theorem k_X12_goMost_32 (d : Nat) : look (a_X12_goMost d) 32 = vGetI 28 46 35 := rfl
theorem k_X12_goMost_35 (d : Nat) : look (a_X12_goMost d) 35 = vPutI 28 51 38 := rfl
theorem k_X12_goMost_38 (d : Nat) : look (a_X12_goMost d) 38 = vAload 0 39 := rfl
theorem k_X12_goMost_39 (d : Nat) : look (a_X12_goMost d) 39 = vAload 0 40 := rfl
theorem k_X12_goMost_40 (d : Nat) : look (a_X12_goMost d) 40 = vAload 0 41 := rfl
theorem k_X12_goMost_41 (d : Nat) : look (a_X12_goMost d) 41 = vGetR TT 28 37 8 44 := rfl
theorem k_X12_goMost_44 (d : Nat) : look (a_X12_goMost d) 44 = vCallM w_X12_rowOf 28 1 47 := rfl
theorem k_X12_goMost_47 (d : Nat) : look (a_X12_goMost d) 47 = vPutI 28 50 50 := rfl
theorem k_X12_goMost_50 (d : Nat) : look (a_X12_goMost d) 50 = vVret := rfl
theorem k_X12_goMost_51 (d : Nat) : look (a_X12_goMost d) 51 = vI 0 52 := rfl
theorem k_X12_goMost_52 (d : Nat) : look (a_X12_goMost d) 52 = vIstore 3 53 := rfl
theorem k_X12_goMost_53 (d : Nat) : look (a_X12_goMost d) 53 = vIload 3 54 := rfl
theorem k_X12_goMost_54 (d : Nat) : look (a_X12_goMost d) 54 = vAload 0 55 := rfl
theorem k_X12_goMost_55 (d : Nat) : look (a_X12_goMost d) 55 = vGetI 28 30 58 := rfl
theorem k_X12_goMost_58 (d : Nat) : look (a_X12_goMost d) 58 = vIcGe 86 61 := rfl
theorem k_X12_goMost_61 (d : Nat) : look (a_X12_goMost d) 61 = vAload 0 62 := rfl
theorem k_X12_goMost_62 (d : Nat) : look (a_X12_goMost d) 62 = vGetR TT 28 37 8 65 := rfl
theorem k_X12_goMost_65 (d : Nat) : look (a_X12_goMost d) 65 = vI 4 66 := rfl
theorem k_X12_goMost_66 (d : Nat) : look (a_X12_goMost d) 66 = vIload 1 67 := rfl
theorem k_X12_goMost_67 (d : Nat) : look (a_X12_goMost d) 67 = vImul 68 := rfl
theorem k_X12_goMost_68 (d : Nat) : look (a_X12_goMost d) 68 = vI 1 69 := rfl
theorem k_X12_goMost_69 (d : Nat) : look (a_X12_goMost d) 69 = vIadd 70 := rfl
theorem k_X12_goMost_70 (d : Nat) : look (a_X12_goMost d) 70 = vIload 3 71 := rfl
theorem k_X12_goMost_71 (d : Nat) : look (a_X12_goMost d) 71 = vIast TT 72 := rfl
theorem k_X12_goMost_72 (d : Nat) : look (a_X12_goMost d) 72 = vAload 0 73 := rfl
theorem k_X12_goMost_73 (d : Nat) : look (a_X12_goMost d) 73 = vIload 1 74 := rfl
theorem k_X12_goMost_74 (d : Nat) : look (a_X12_goMost d) 74 = vI 1 75 := rfl
theorem k_X12_goMost_75 (d : Nat) : look (a_X12_goMost d) 75 = vIadd 76 := rfl
theorem k_X12_goMost_76 (d : Nat) : look (a_X12_goMost d) 76 = vIload 2 77 := rfl
theorem k_X12_goMost_77 (d : Nat) : look (a_X12_goMost d) 77 = vCallMV (wMo d) 28 2 80 := rfl
theorem k_X12_goMost_80 (d : Nat) : look (a_X12_goMost d) 80 = vIinc 3 1 83 := rfl
theorem k_X12_goMost_83 (d : Nat) : look (a_X12_goMost d) 83 = vGoto 53 := rfl
theorem k_X12_goMost_86 (d : Nat) : look (a_X12_goMost d) 86 = vVret := rfl
theorem o_X12_goMost {X : amX} (d : Nat) (hG : MoS d) (e1 : XT X = TT) (e2 : XD X = 61 + d) (hB : amB X RX12 cX12_goMost (none) 4) : ∀ pc, amOK X pc (look (a_X12_goMost d) pc) := by
  have hT : amTok (XT X) := e1 ▸ TT_ok
  refine look_ok ?_
  unfold a_X12_goMost
  refine fc (ok_iload_n hB dX12_goMost_0) ?_
  refine fc (ok_aload_n hB dX12_goMost_1) ?_
  refine fc (ok_getI hB hT fl_X12_317 rfl rfl (Or.inl af_12_29) dX12_goMost_2) ?_
  refine fc (ok_icmp_ne hB (t := 51) (by decide) dX12_goMost_5) ?_
  refine fc (ok_aload_n hB dX12_goMost_8) ?_
  refine fc (ok_aload_n hB dX12_goMost_9) ?_
  refine fc (okt_getR e1 hB hT fl_X12_70 rfl af_12_37 at_12_37 (by decide) dX12_goMost_10) ?_
  refine fc (ok_iload_n hB dX12_goMost_13) ?_
  refine fc (ok_callM hB hT (e1 ▸ s_X12_goPlay) lk_X12_362 (by rw [e2]; omega) (c := 12) rfl rfl rfl wd_1698 sl_X12_goPlay dX12_goMost_14) ?_
  refine fc (ok_istore_n hB (by decide) dX12_goMost_17) ?_
  refine fc (ok_aload_n hB dX12_goMost_18) ?_
  refine fc (ok_getI hB hT fl_X12_352 rfl rfl (Or.inl af_12_46) dX12_goMost_19) ?_
  refine fc (ok_aload_n hB dX12_goMost_22) ?_
  refine fc (ok_getI hB hT fl_X12_429 rfl rfl (Or.inl af_12_51) dX12_goMost_23) ?_
  refine fc (ok_icmp_gt hB (t := 30) (by decide) dX12_goMost_26) ?_
  refine fc (ok_vret hB dX12_goMost_29) ?_
  refine fc (ok_aload_n hB dX12_goMost_30) ?_
  refine fc (ok_aload_n hB dX12_goMost_31) ?_
  refine fc (ok_getI hB hT fl_X12_352 rfl rfl (Or.inl af_12_46) dX12_goMost_32) ?_
  refine fc (ok_putI hB hT fp_X12_429 rfl rfl rfl af_12_51 dX12_goMost_35) ?_
  refine fc (ok_aload_n hB dX12_goMost_38) ?_
  refine fc (ok_aload_n hB dX12_goMost_39) ?_
  refine fc (ok_aload_n hB dX12_goMost_40) ?_
  refine fc (okt_getR e1 hB hT fl_X12_70 rfl af_12_37 at_12_37 (by decide) dX12_goMost_41) ?_
  refine fc (ok_callM hB hT (e1 ▸ s_X12_rowOf) lk_X12_432 (by rw [e2]; omega) (c := 12) rfl rfl rfl wd_1823 sl_X12_rowOf dX12_goMost_44) ?_
  refine fc (ok_putI hB hT fp_X12_436 rfl rfl rfl af_12_50 dX12_goMost_47) ?_
  refine fc (ok_vret hB dX12_goMost_50) ?_
  refine fc (ok_iconst hB dX12_goMost_51) ?_
  refine fc (ok_istore_n hB (by decide) dX12_goMost_52) ?_
  refine fc (ok_iload_n hB dX12_goMost_53) ?_
  refine fc (ok_aload_n hB dX12_goMost_54) ?_
  refine fc (ok_getI hB hT fl_X12_320 rfl rfl (Or.inl af_12_30) dX12_goMost_55) ?_
  refine fc (ok_icmp_ge hB (t := 86) (by decide) dX12_goMost_58) ?_
  refine fc (ok_aload_n hB dX12_goMost_61) ?_
  refine fc (okt_getR e1 hB hT fl_X12_70 rfl af_12_37 at_12_37 (by decide) dX12_goMost_62) ?_
  refine fc (ok_iconst hB dX12_goMost_65) ?_
  refine fc (ok_iload_n hB dX12_goMost_66) ?_
  refine fc (ok_imul hB dX12_goMost_67) ?_
  refine fc (ok_iconst hB dX12_goMost_68) ?_
  refine fc (ok_iadd hB dX12_goMost_69) ?_
  refine fc (ok_iload_n hB dX12_goMost_70) ?_
  refine fc (okt_iastore e1 hB dX12_goMost_71) ?_
  refine fc (ok_aload_n hB dX12_goMost_72) ?_
  refine fc (ok_iload_n hB dX12_goMost_73) ?_
  refine fc (ok_iconst hB dX12_goMost_74) ?_
  refine fc (ok_iadd hB dX12_goMost_75) ?_
  refine fc (ok_iload_n hB dX12_goMost_76) ?_
  refine fc (ok_callMV hB hT (fun av9 σ9 Q9 h9 => e1 ▸ hG av9 σ9 Q9 h9) lk_X12_445 (by rw [e2]; omega) (c := 12) rfl rfl rfl wd_1831 sl_X12_goMost dX12_goMost_77) ?_
  refine fc (ok_iinc hB (by decide) dX12_goMost_80) ?_
  refine fc (ok_goto hB (t := 53) (by decide) dX12_goMost_83) ?_
  refine fc (ok_vret hB dX12_goMost_86) ?_
  exact fn
def inv_gms (m : Mem) (r : Int → Int) (c p : Int) (s : Int × Int) (d n pc : Nat) (ls st : List AV) (σ' : Mem) : Prop := pc = 53 ∧ st = [] ∧ tryS m c r σ' ∧ InR (σ' 5000 50) ∧ InR (σ' 5000 51) ∧ ∃ t : Nat, ls = [(28, 5000), (0, c), (0, p), (0, (t : Int))] ∧ (t : Int) + n = m 5000 30 ∧ (σ' 5000 50, σ' 5000 51) = mstI (fun t s => mstF m p d (upf r (4 * c + 1) t) (c + 1) s) t s
def inv_gml (σ : Mem) (c p A : Int) (n pc : Nat) (ls st : List AV) (σ' : Mem) : Prop := pc = 18 ∧ st = [] ∧ n = 0 ∧ (∃ v3 : AV, ls = [(28, 5000), (0, c), (0, p), v3]) ∧ PF σ σ' ∧ mOk σ' ∧ σ' 5000 46 = A
def w_X12_goMost (d : Nat) : WP := fun av σ Q => ∃ (c : Int) (p : Int), av = [(28, 5000), (0, c), (0, p)] ∧ (∃ (m : Mem) (r : Int → Int), mX m 5015 ∧ aR (m 5000 29) (m 5000 30) r ∧ 0 ≤ p ∧ p < m 5000 28 ∧ 0 ≤ c ∧ c + d = m 5000 29 ∧ tryS m c r σ ∧ InR (σ 5000 50) ∧ InR (σ 5000 51) ∧ (∀ τ, tryS m c r τ → InR (τ 5000 50) → InR (τ 5000 51) → (τ 5000 50, τ 5000 51) = mstF m p d r c (σ 5000 50, σ 5000 51) → Q (6, 0) τ))
theorem w_X12_goMost_e (d : Nat) (c : Int) (p : Int) (σ : Mem) (Q : AV → Mem → Prop) : w_X12_goMost d [(28, 5000), (0, c), (0, p)] σ Q = (∃ (m : Mem) (r : Int → Int), mX m 5015 ∧ aR (m 5000 29) (m 5000 30) r ∧ 0 ≤ p ∧ p < m 5000 28 ∧ 0 ≤ c ∧ c + d = m 5000 29 ∧ tryS m c r σ ∧ InR (σ 5000 50) ∧ InR (σ 5000 51) ∧ (∀ τ, tryS m c r τ → InR (τ 5000 50) → InR (τ 5000 51) → (τ 5000 50, τ 5000 51) = mstF m p d r c (σ 5000 50, σ 5000 51) → Q (6, 0) τ)) := by
  apply propext; constructor
  · rintro ⟨c', p', h9, hb9⟩; cases h9; exact hb9
  · intro hb9; exact ⟨c, p, rfl, hb9⟩

set_option maxRecDepth 100000 in
set_option maxHeartbeats 4000000 in
theorem s_X12_goMost (d : Nat) (hG : MoS d) : ∀ av σ Q, w_X12_goMost d av σ Q → amCall (61 + d) 0 0 TT yX12_goMost cX12_goMost 4 (none) av σ Q := by
  rintro av σ Q ⟨c, p, rfl, m, r, hx, hr, p0, p1, c0, hcd, hT, i50, i51, h⟩
  have n29 := hx.2.1.2.2.1
  have n30 := hx.2.1.2.2.2.1
  have n28 := hx.2.1.2.2.2.2.1
  have hM9 := hx.2.1.2.2.2.2.2.1 (4 * p + 3) (by omega) (by omega)
  have kk : ∀ σ', QF m σ' → σ' 5000 29 = m 5000 29 ∧ σ' 5000 30 = m 5000 30 ∧ σ' 5007 = m 5007 := fun σ' a => ⟨a.2 29 (by decide) (by decide) (by decide) (by decide) (by decide) (by decide) (by decide), a.2 30 (by decide) (by decide) (by decide) (by decide) (by decide) (by decide) (by decide), a.1 5007 (by decide) (by decide) (by decide) (by decide)⟩
  by_cases hd0 : d = 0
  · rw [hd0] at h hcd
    have ec : c = m 5000 29 := by omega
    obtain ⟨hQ, hm, hA, h25, h00⟩ := hT
    rw [ec] at hA
    have he := fun j (a : 0 ≤ j) (b : j < 28) => rAg_n hA a b
    have hxs := QF_mX hQ hm hx hr he
    have hPs := mX_P hxs
    obtain ⟨k29, k30, k7⟩ := kk σ hQ
    have k28 : σ 5000 28 = m 5000 28 := hQ.2 28 (by decide) (by decide) (by decide) (by decide) (by decide) (by decide) (by decide)
    have hs := QF_sP hQ he
    have so5 : setv m 5016 r 5000 = m 5000 := setv_o _ _ (by decide)
    have eF : sumC (mFl σ 5016 p (mMi m p)) (m 5000 29).toNat = rMv m p r := by
      unfold rMv
      exact sumC_cong (fun i a b => sP_mFl hs (by rw [so5]; omega) p a (by rw [so5]; omega) (mMi m p))
    have mvb := rMv_b (r := r) hx ⟨p0, by omega⟩
    have eR : ∀ τ, PF σ τ → rwF (τ 5016) (m 5000 29).toNat = rwF r (m 5000 29).toNat := fun τ a => rwF_c (fun i i0 i1 => by rw [PF_r a (by decide)]; exact he _ (by omega) (by omega))
    have tt : ∀ τ, PF σ τ → mOk τ → tryS m c r τ := fun τ a b => ⟨QF_tr hQ (QF_PF a), b, by rw [PF_r a (by decide), ec]; exact hA, by rw [PF_r a (by decide)]; exact h25, by rw [a.2 0 (by decide) (by decide) (by decide) (by decide)]; exact h00⟩
    have k51 : ∀ τ, PF σ τ → τ 5000 51 = σ 5000 51 ∧ τ 5000 50 = σ 5000 50 ∧ τ 5000 29 = m 5000 29 := fun τ a => ⟨a.2 51 (by decide) (by decide) (by decide) (by decide), a.2 50 (by decide) (by decide) (by decide) (by decide), by rw [a.2 29 (by decide) (by decide) (by decide) (by decide)]; exact k29⟩
    refine am_m [18] (inv_gml σ c p (rMv m p r)) (own := RX12) (A := look (a_X12_goMost d)) (fun X e1 e2 hB => o_X12_goMost d hG e1 e2 hB) rfl (by decide +kernel) rfl rfl ?_ ⟨60, ?_⟩ (w := 4)
    · rintro n pc ls st σ' ⟨rfl, rfl, rfl, ⟨v3, rfl⟩, hPF, hm', h46⟩
      obtain ⟨j51, j50, j29⟩ := k51 σ' hPF
      have hT' := tt σ' hPF hm'
      have fA : rMv m p r ≤ σ 5000 51 → Q (6, 0) σ' := fun q => h σ' hT' (by rw [j50]; exact i50) (by rw [j51]; exact i51) (by rw [j50, j51]; unfold mstF mstL; rw [if_pos q])
      have fB : ¬ rMv m p r ≤ σ 5000 51 → InR (rwF r (m 5000 29).toNat) → Q (6, 0) (up (up σ' 5000 51 (rMv m p r)) 5000 50 (rwF r (m 5000 29).toNat)) := fun q q2 => h _ (tryS_k (tryS_k hT' (Or.inr rfl)) (Or.inl rfl)) (by rw [up_s]; exact q2) (by rw [up_nj _ (by decide), up_s]; exact ⟨by omega, by omega⟩) (by
        rw [up_s, up_nj _ (by decide), up_s]; unfold mstF mstL; rw [if_neg q])
      have rb : ∀ n : Nat, (n : Int) ≤ m 5000 29 → 0 ≤ rwF r n ∧ rwF r n ≤ 10 ^ n - 1 := by
        intro n
        induction n with
        | zero => intro _; unfold rwF; omega
        | succ n ih =>
          intro hn
          have a := ih (by omega)
          have b := (hr.1 n (by omega) (by omega)).2.1
          have e : (10 : Int) ^ (n + 1) = 10 ^ n * 10 := by rw [Int.pow_succ]
          unfold rwF; omega
      have rb6 := rb (m 5000 29).toNat (by omega)
      have p6 : (10 : Int) ^ (m 5000 29).toNat ≤ 10 ^ 6 := by
        have := Nat.pow_le_pow_right (n := 10) (by decide) (show (m 5000 29).toNat ≤ 6 by omega)
        exact_mod_cast this
      have fB' := fun q => fB q ⟨by omega, by omega⟩
      have e16 : rwF (up σ' 5000 51 (rMv m p r) 5016) (m 5000 29).toNat = rwF r (m 5000 29).toNat := by rw [up_na _ (by decide)]; exact eR σ' hPF
      have u29 : up σ' 5000 51 (rMv m p r) 5000 29 = m 5000 29 := by rw [up_nj _ (by decide)]; exact j29
      refine ⟨60, ?_⟩
      simp only [↓reduceIte, inR_0, inR_1, inR_m, vSw2_e, swP_n, swP_c, vI_e, vL_e, vNull_e, vIload_e, vLload_e, vAload_e, vIstore_e, vLstore_e, vAstore_e, vIinc_e, vIadd_e, vIsub_e, vImul_e, vIand_e, vIor_e, vIxor_e, vIshl_e, vIshr_e, vIushr_e, vIdiv_e, vIrem_e, vLadd_e, vLsub_e, vLmul_e, vLand_e, vLor_e, vLxor_e, vLdiv_e, vLrem_e, vLushr_e, vLshl_e, vLcmp_e, vIneg_e, vI2l_e, vL2i_e, vI2b_e, vI2c_e, vDup_e, vPop_e, vDup2_e, vGoto_e, vIcEq_e, vIfEq_e, vIcNe_e, vIfNe_e, vIcLt_e, vIfLt_e, vIcGe_e, vIfGe_e, vIcGt_e, vIfGt_e, vIcLe_e, vIfLe_e, vNonnull_e, vSw_e, vGetI_e, vGetL_e, vGetR_e, vPutI_e, vPutZ_e, vPutL_e, vPutR_e, vIald_e, vIald_s, vLald_e, vBald_e, vBald_s, vAald_e, vIast_e, vLast_e, vBast_e, vAast_e, vAlen_e8, vAlen_e9, vAlen_e10, vAlen_e11, vAlen_e5, vAlen_e3, vGets_e, vCompact_e, vLdcS_e, vIret_e, vZret_e, vCret_e, vBret_e, vLret_e, vVret_e, vAret_e, vCallM_e0, vCallMV_e0, vCallS_e0, vCallSV_e0, vCallM_e1, vCallMV_e1, vCallS_e1, vCallSV_e1, vCallM_e2, vCallMV_e2, vCallS_e2, vCallSV_e2, vCallM_e3, vCallMV_e3, vCallS_e3, vCallSV_e3, vCallM_e4, vCallMV_e4, vCallS_e4, vCallSV_e4, vCallM_e5, vCallMV_e5, vCallS_e5, vCallSV_e5, vCallM_e6, vCallMV_e6, vCallS_e6, vCallSV_e6, vCallM_e7, vCallMV_e7, vCallS_e7, vCallSV_e7, vBad_e, vStrVal_e, vStrCod_e, vForm_e, vCallT_e0, vCallT_e1, vCallT_e2, vCopy_e, rf_0_0, rf_0_1, rf_0_2, rf_0_3, rf_0_4, rf_0_7, rf_0_10, rf_0_11, rf_0_12, rf_0_13, rf_0_14, rf_0_15, rf_0_16, rf_1_0, rf_3_0, rf_3_1, rf_6_0, rf_6_1, rf_9_0, rf_9_1, rf_9_3, rf_13_0, rf_13_1, rf_13_2, rf_16_0, rf_16_1, rf_16_2, rf_16_3, rf_21_0, rf_21_1, rf_21_2, rf_21_3, rf_26_0, rf_26_1, rf_26_2, rf_26_3, rf_26_4, rf_26_5, rf_26_6, rf_31_0, rf_31_2, rf_31_5, rf_31_6, rf_36_0, rf_36_1, rf_36_2, rf_36_3, rf_39_0, rf_39_1, rf_39_2, rf_41_0, rf_41_1, rf_41_2, rf_41_3, rf_5000_1, rf_5000_2, rf_5000_3, rf_5000_4, rf_5000_5, rf_5000_15, rf_5000_16, rf_5000_18, rf_5000_19, rf_5000_20, rf_5000_21, rf_5000_22, rf_5000_23, rf_5000_24, rf_5000_25, rf_5000_26, rf_5000_27, rf_5000_36, rf_5000_37, rf_5000_40, rf_5000_41, rf_5000_42, rf_5000_43, rf_5000_44, rf_5000_45, rf_5000_47, rf_5000_52, rf_5000_54, rf_5000_55, rf_100_0, rf_100_1, rf_103_0, rf_103_1, rf_106_0, rf_106_1, rf_109_0, rf_109_1, al_2, al_4, al_5, al_7, al_8, al_10, al_11, al_12, al_14, al_15, al_17, al_18, al_19, al_20, al_22, al_23, al_24, al_25, al_27, al_28, al_29, al_30, al_32, al_33, al_34, al_35, al_37, al_38, al_40, al_42, al_5001, al_5002, al_5003, al_5004, al_5005, al_5006, al_5007, al_5008, al_5009, al_5010, al_5011, al_5012, al_5013, al_5014, al_5015, al_5016, al_5017, al_5018, al_5019, al_5020, al_5021, al_5022, al_5023, al_5024, al_5025, al_5026, al_9000, al_101, al_102, al_104, al_105, al_107, al_108, al_110, al_111, vcs_e, lg_c0, lg_cs, lg_nil, set_c0, set_cs, okst_0, okst_s, acok_n, acok_c, List.contains_nil, List.contains_cons, Bool.or_false, Bool.false_or, Bool.false_eq_true, if_false, if_true, ite_self, ne_eq, true_and, and_true, not_false_eq_true, not_true_eq_false, false_imp_iff, true_imp_iff, Nat.ble_eq, Bool.and_eq_true, reduceCtorEq, or_false, false_or, or_true, true_or, false_and, and_false, and_self, Int.reduceLE, Int.reduceAdd, Int.reduceSub, Int.reduceMul, Int.reduceNeg, Int.reduceLT, Int.reduceEq, Int.reduceNe, Nat.reduceBEq, Nat.reduceBNe, Nat.reduceEqDiff, amCmp_in, amCmp_lt, amCmp_le, amCmp_gt, amCmp_ge, amCmp_eq, amCmp_ne, Nat.reduceLeDiff, Nat.reduceSub, Bool.and_true, Bool.true_and, Bool.and_self, Bool.or_true, Bool.true_or, isRf_3, isRf_4, isRf_5, isRf_8, isRf_9, isRf_10, isRf_11, isRf_15, isRf_16, isRf_17, isRf_18, isRf_19, isRf_20, isRf_21, isRf_22, isRf_23, isRf_24, isRf_25, isRf_26, isRf_27, isRf_28, k_X12_goMost_0, k_X12_goMost_1, k_X12_goMost_2, k_X12_goMost_5, k_X12_goMost_8, k_X12_goMost_9, k_X12_goMost_10, k_X12_goMost_13, k_X12_goMost_14, k_X12_goMost_17, k_X12_goMost_18, k_X12_goMost_19, k_X12_goMost_22, k_X12_goMost_23, k_X12_goMost_26, k_X12_goMost_29, k_X12_goMost_30, k_X12_goMost_31, k_X12_goMost_32, k_X12_goMost_35, k_X12_goMost_38, k_X12_goMost_39, k_X12_goMost_40, k_X12_goMost_41, k_X12_goMost_44, k_X12_goMost_47, k_X12_goMost_50, k_X12_goMost_51, k_X12_goMost_52, k_X12_goMost_53, k_X12_goMost_54, k_X12_goMost_55, k_X12_goMost_58, k_X12_goMost_61, k_X12_goMost_62, k_X12_goMost_65, k_X12_goMost_66, k_X12_goMost_67, k_X12_goMost_68, k_X12_goMost_69, k_X12_goMost_70, k_X12_goMost_71, k_X12_goMost_72, k_X12_goMost_73, k_X12_goMost_74, k_X12_goMost_75, k_X12_goMost_76, k_X12_goMost_77, k_X12_goMost_80, k_X12_goMost_83, k_X12_goMost_86, w_X12_goMost_e, w_X12_goPlay_e, w_X12_rowOf_e, h46, j51, e16, u29]
      repeat' (first | apply And.intro | intro _)
      all_goals first | omega | exact absurd trivial (by assumption) | exact fA (by omega) | exact fB' (by omega) | exact Or.inr rfl
    · change vcs _ _ _ _ 60 0 [(28, 5000), (0, c), (0, p), (6, 0)] [] σ
      have i9 : ∀ τ v3, PF σ τ → mOk τ → τ 5000 46 = rMv m p r → ∃ k', inv_gml σ c p (rMv m p r) k' 18 [(28, 5000), (0, c), (0, p), v3] [] τ := fun τ v3 a b q => ⟨0, rfl, rfl, rfl, ⟨v3, rfl⟩, a, b, q⟩
      have eF' := eF
      unfold mMi at eF'
      simp only [↓reduceIte, inR_0, inR_1, inR_m, vSw2_e, swP_n, swP_c, vI_e, vL_e, vNull_e, vIload_e, vLload_e, vAload_e, vIstore_e, vLstore_e, vAstore_e, vIinc_e, vIadd_e, vIsub_e, vImul_e, vIand_e, vIor_e, vIxor_e, vIshl_e, vIshr_e, vIushr_e, vIdiv_e, vIrem_e, vLadd_e, vLsub_e, vLmul_e, vLand_e, vLor_e, vLxor_e, vLdiv_e, vLrem_e, vLushr_e, vLshl_e, vLcmp_e, vIneg_e, vI2l_e, vL2i_e, vI2b_e, vI2c_e, vDup_e, vPop_e, vDup2_e, vGoto_e, vIcEq_e, vIfEq_e, vIcNe_e, vIfNe_e, vIcLt_e, vIfLt_e, vIcGe_e, vIfGe_e, vIcGt_e, vIfGt_e, vIcLe_e, vIfLe_e, vNonnull_e, vSw_e, vGetI_e, vGetL_e, vGetR_e, vPutI_e, vPutZ_e, vPutL_e, vPutR_e, vIald_e, vIald_s, vLald_e, vBald_e, vBald_s, vAald_e, vIast_e, vLast_e, vBast_e, vAast_e, vAlen_e8, vAlen_e9, vAlen_e10, vAlen_e11, vAlen_e5, vAlen_e3, vGets_e, vCompact_e, vLdcS_e, vIret_e, vZret_e, vCret_e, vBret_e, vLret_e, vVret_e, vAret_e, vCallM_e0, vCallMV_e0, vCallS_e0, vCallSV_e0, vCallM_e1, vCallMV_e1, vCallS_e1, vCallSV_e1, vCallM_e2, vCallMV_e2, vCallS_e2, vCallSV_e2, vCallM_e3, vCallMV_e3, vCallS_e3, vCallSV_e3, vCallM_e4, vCallMV_e4, vCallS_e4, vCallSV_e4, vCallM_e5, vCallMV_e5, vCallS_e5, vCallSV_e5, vCallM_e6, vCallMV_e6, vCallS_e6, vCallSV_e6, vCallM_e7, vCallMV_e7, vCallS_e7, vCallSV_e7, vBad_e, vStrVal_e, vStrCod_e, vForm_e, vCallT_e0, vCallT_e1, vCallT_e2, vCopy_e, rf_0_0, rf_0_1, rf_0_2, rf_0_3, rf_0_4, rf_0_7, rf_0_10, rf_0_11, rf_0_12, rf_0_13, rf_0_14, rf_0_15, rf_0_16, rf_1_0, rf_3_0, rf_3_1, rf_6_0, rf_6_1, rf_9_0, rf_9_1, rf_9_3, rf_13_0, rf_13_1, rf_13_2, rf_16_0, rf_16_1, rf_16_2, rf_16_3, rf_21_0, rf_21_1, rf_21_2, rf_21_3, rf_26_0, rf_26_1, rf_26_2, rf_26_3, rf_26_4, rf_26_5, rf_26_6, rf_31_0, rf_31_2, rf_31_5, rf_31_6, rf_36_0, rf_36_1, rf_36_2, rf_36_3, rf_39_0, rf_39_1, rf_39_2, rf_41_0, rf_41_1, rf_41_2, rf_41_3, rf_5000_1, rf_5000_2, rf_5000_3, rf_5000_4, rf_5000_5, rf_5000_15, rf_5000_16, rf_5000_18, rf_5000_19, rf_5000_20, rf_5000_21, rf_5000_22, rf_5000_23, rf_5000_24, rf_5000_25, rf_5000_26, rf_5000_27, rf_5000_36, rf_5000_37, rf_5000_40, rf_5000_41, rf_5000_42, rf_5000_43, rf_5000_44, rf_5000_45, rf_5000_47, rf_5000_52, rf_5000_54, rf_5000_55, rf_100_0, rf_100_1, rf_103_0, rf_103_1, rf_106_0, rf_106_1, rf_109_0, rf_109_1, al_2, al_4, al_5, al_7, al_8, al_10, al_11, al_12, al_14, al_15, al_17, al_18, al_19, al_20, al_22, al_23, al_24, al_25, al_27, al_28, al_29, al_30, al_32, al_33, al_34, al_35, al_37, al_38, al_40, al_42, al_5001, al_5002, al_5003, al_5004, al_5005, al_5006, al_5007, al_5008, al_5009, al_5010, al_5011, al_5012, al_5013, al_5014, al_5015, al_5016, al_5017, al_5018, al_5019, al_5020, al_5021, al_5022, al_5023, al_5024, al_5025, al_5026, al_9000, al_101, al_102, al_104, al_105, al_107, al_108, al_110, al_111, vcs_e, lg_c0, lg_cs, lg_nil, set_c0, set_cs, okst_0, okst_s, acok_n, acok_c, List.contains_nil, List.contains_cons, Bool.or_false, Bool.false_or, Bool.false_eq_true, if_false, if_true, ite_self, ne_eq, true_and, and_true, not_false_eq_true, not_true_eq_false, false_imp_iff, true_imp_iff, Nat.ble_eq, Bool.and_eq_true, reduceCtorEq, or_false, false_or, or_true, true_or, false_and, and_false, and_self, Int.reduceLE, Int.reduceAdd, Int.reduceSub, Int.reduceMul, Int.reduceNeg, Int.reduceLT, Int.reduceEq, Int.reduceNe, Nat.reduceBEq, Nat.reduceBNe, Nat.reduceEqDiff, amCmp_in, amCmp_lt, amCmp_le, amCmp_gt, amCmp_ge, amCmp_eq, amCmp_ne, Nat.reduceLeDiff, Nat.reduceSub, Bool.and_true, Bool.true_and, Bool.and_self, Bool.or_true, Bool.true_or, isRf_3, isRf_4, isRf_5, isRf_8, isRf_9, isRf_10, isRf_11, isRf_15, isRf_16, isRf_17, isRf_18, isRf_19, isRf_20, isRf_21, isRf_22, isRf_23, isRf_24, isRf_25, isRf_26, isRf_27, isRf_28, k_X12_goMost_0, k_X12_goMost_1, k_X12_goMost_2, k_X12_goMost_5, k_X12_goMost_8, k_X12_goMost_9, k_X12_goMost_10, k_X12_goMost_13, k_X12_goMost_14, k_X12_goMost_17, k_X12_goMost_18, k_X12_goMost_19, k_X12_goMost_22, k_X12_goMost_23, k_X12_goMost_26, k_X12_goMost_29, k_X12_goMost_30, k_X12_goMost_31, k_X12_goMost_32, k_X12_goMost_35, k_X12_goMost_38, k_X12_goMost_39, k_X12_goMost_40, k_X12_goMost_41, k_X12_goMost_44, k_X12_goMost_47, k_X12_goMost_50, k_X12_goMost_51, k_X12_goMost_52, k_X12_goMost_53, k_X12_goMost_54, k_X12_goMost_55, k_X12_goMost_58, k_X12_goMost_61, k_X12_goMost_62, k_X12_goMost_65, k_X12_goMost_66, k_X12_goMost_67, k_X12_goMost_68, k_X12_goMost_69, k_X12_goMost_70, k_X12_goMost_71, k_X12_goMost_72, k_X12_goMost_73, k_X12_goMost_74, k_X12_goMost_75, k_X12_goMost_76, k_X12_goMost_77, k_X12_goMost_80, k_X12_goMost_83, k_X12_goMost_86, w_X12_goMost_e, w_X12_goPlay_e, w_X12_rowOf_e, k29, k28, k7, eF', hd0, wMo_0]
      repeat' (first | assumption | exact hPs | apply And.intro | intro _)
      all_goals first | omega | exact absurd trivial (by assumption) | exact i9 _ _ (by assumption) (by assumption) (by assumption) | exact Or.inr rfl
  · obtain ⟨d', hd'⟩ : ∃ d', d = d' + 1 := ⟨d - 1, by omega⟩
    rw [hd'] at h hcd
    have hcn : c < m 5000 29 := by omega
    refine am_m [53] (inv_gms m r c p (σ 5000 50, σ 5000 51) d') (own := RX12) (A := look (a_X12_goMost d)) (fun X e1 e2 hB => o_X12_goMost d hG e1 e2 hB) rfl (by decide +kernel) rfl rfl ?_ ⟨60, ?_⟩ (w := 4)
    · rintro n pc ls st σ' ⟨rfl, rfl, hT', j50, j51, t, rfl, hn, hst⟩
      obtain ⟨k29, k30, k7⟩ := kk σ' hT'.1
      refine ⟨60, ?_⟩
      by_cases cc : (t : Int) < m 5000 30
      · have hT2 := tryS_t hT' t
        have hr2 := aR_ti n29.2 hr c0 hcn (v := t) (by omega) cc
        have u50 : up σ' 5016 (4 * c + 1) t 5000 = σ' 5000 := up_na _ (by decide)
        have i9 : ∀ τ, tryS m (c + 1) (upf r (4 * c + 1) t) τ → InR (τ 5000 50) → InR (τ 5000 51) → (τ 5000 50, τ 5000 51) = mstF m p d' (upf r (4 * c + 1) t) (c + 1) (σ' 5000 50, σ' 5000 51) → ∃ k', k' < n ∧ inv_gms m r c p (σ 5000 50, σ 5000 51) d' k' 53 [(28, 5000), (0, c), (0, p), (0, (t : Int) + 1)] [] τ := fun τ a b e q =>
          ⟨n - 1, by omega, rfl, rfl, tryS_b hcn a, b, e, t + 1, rfl, by omega, by rw [q, hst]; rfl⟩
        simp only [↓reduceIte, inR_0, inR_1, inR_m, vSw2_e, swP_n, swP_c, vI_e, vL_e, vNull_e, vIload_e, vLload_e, vAload_e, vIstore_e, vLstore_e, vAstore_e, vIinc_e, vIadd_e, vIsub_e, vImul_e, vIand_e, vIor_e, vIxor_e, vIshl_e, vIshr_e, vIushr_e, vIdiv_e, vIrem_e, vLadd_e, vLsub_e, vLmul_e, vLand_e, vLor_e, vLxor_e, vLdiv_e, vLrem_e, vLushr_e, vLshl_e, vLcmp_e, vIneg_e, vI2l_e, vL2i_e, vI2b_e, vI2c_e, vDup_e, vPop_e, vDup2_e, vGoto_e, vIcEq_e, vIfEq_e, vIcNe_e, vIfNe_e, vIcLt_e, vIfLt_e, vIcGe_e, vIfGe_e, vIcGt_e, vIfGt_e, vIcLe_e, vIfLe_e, vNonnull_e, vSw_e, vGetI_e, vGetL_e, vGetR_e, vPutI_e, vPutZ_e, vPutL_e, vPutR_e, vIald_e, vIald_s, vLald_e, vBald_e, vBald_s, vAald_e, vIast_e, vLast_e, vBast_e, vAast_e, vAlen_e8, vAlen_e9, vAlen_e10, vAlen_e11, vAlen_e5, vAlen_e3, vGets_e, vCompact_e, vLdcS_e, vIret_e, vZret_e, vCret_e, vBret_e, vLret_e, vVret_e, vAret_e, vCallM_e0, vCallMV_e0, vCallS_e0, vCallSV_e0, vCallM_e1, vCallMV_e1, vCallS_e1, vCallSV_e1, vCallM_e2, vCallMV_e2, vCallS_e2, vCallSV_e2, vCallM_e3, vCallMV_e3, vCallS_e3, vCallSV_e3, vCallM_e4, vCallMV_e4, vCallS_e4, vCallSV_e4, vCallM_e5, vCallMV_e5, vCallS_e5, vCallSV_e5, vCallM_e6, vCallMV_e6, vCallS_e6, vCallSV_e6, vCallM_e7, vCallMV_e7, vCallS_e7, vCallSV_e7, vBad_e, vStrVal_e, vStrCod_e, vForm_e, vCallT_e0, vCallT_e1, vCallT_e2, vCopy_e, rf_0_0, rf_0_1, rf_0_2, rf_0_3, rf_0_4, rf_0_7, rf_0_10, rf_0_11, rf_0_12, rf_0_13, rf_0_14, rf_0_15, rf_0_16, rf_1_0, rf_3_0, rf_3_1, rf_6_0, rf_6_1, rf_9_0, rf_9_1, rf_9_3, rf_13_0, rf_13_1, rf_13_2, rf_16_0, rf_16_1, rf_16_2, rf_16_3, rf_21_0, rf_21_1, rf_21_2, rf_21_3, rf_26_0, rf_26_1, rf_26_2, rf_26_3, rf_26_4, rf_26_5, rf_26_6, rf_31_0, rf_31_2, rf_31_5, rf_31_6, rf_36_0, rf_36_1, rf_36_2, rf_36_3, rf_39_0, rf_39_1, rf_39_2, rf_41_0, rf_41_1, rf_41_2, rf_41_3, rf_5000_1, rf_5000_2, rf_5000_3, rf_5000_4, rf_5000_5, rf_5000_15, rf_5000_16, rf_5000_18, rf_5000_19, rf_5000_20, rf_5000_21, rf_5000_22, rf_5000_23, rf_5000_24, rf_5000_25, rf_5000_26, rf_5000_27, rf_5000_36, rf_5000_37, rf_5000_40, rf_5000_41, rf_5000_42, rf_5000_43, rf_5000_44, rf_5000_45, rf_5000_47, rf_5000_52, rf_5000_54, rf_5000_55, rf_100_0, rf_100_1, rf_103_0, rf_103_1, rf_106_0, rf_106_1, rf_109_0, rf_109_1, al_2, al_4, al_5, al_7, al_8, al_10, al_11, al_12, al_14, al_15, al_17, al_18, al_19, al_20, al_22, al_23, al_24, al_25, al_27, al_28, al_29, al_30, al_32, al_33, al_34, al_35, al_37, al_38, al_40, al_42, al_5001, al_5002, al_5003, al_5004, al_5005, al_5006, al_5007, al_5008, al_5009, al_5010, al_5011, al_5012, al_5013, al_5014, al_5015, al_5016, al_5017, al_5018, al_5019, al_5020, al_5021, al_5022, al_5023, al_5024, al_5025, al_5026, al_9000, al_101, al_102, al_104, al_105, al_107, al_108, al_110, al_111, vcs_e, lg_c0, lg_cs, lg_nil, set_c0, set_cs, okst_0, okst_s, acok_n, acok_c, List.contains_nil, List.contains_cons, Bool.or_false, Bool.false_or, Bool.false_eq_true, if_false, if_true, ite_self, ne_eq, true_and, and_true, not_false_eq_true, not_true_eq_false, false_imp_iff, true_imp_iff, Nat.ble_eq, Bool.and_eq_true, reduceCtorEq, or_false, false_or, or_true, true_or, false_and, and_false, and_self, Int.reduceLE, Int.reduceAdd, Int.reduceSub, Int.reduceMul, Int.reduceNeg, Int.reduceLT, Int.reduceEq, Int.reduceNe, Nat.reduceBEq, Nat.reduceBNe, Nat.reduceEqDiff, amCmp_in, amCmp_lt, amCmp_le, amCmp_gt, amCmp_ge, amCmp_eq, amCmp_ne, Nat.reduceLeDiff, Nat.reduceSub, Bool.and_true, Bool.true_and, Bool.and_self, Bool.or_true, Bool.true_or, isRf_3, isRf_4, isRf_5, isRf_8, isRf_9, isRf_10, isRf_11, isRf_15, isRf_16, isRf_17, isRf_18, isRf_19, isRf_20, isRf_21, isRf_22, isRf_23, isRf_24, isRf_25, isRf_26, isRf_27, isRf_28, k_X12_goMost_0, k_X12_goMost_1, k_X12_goMost_2, k_X12_goMost_5, k_X12_goMost_8, k_X12_goMost_9, k_X12_goMost_10, k_X12_goMost_13, k_X12_goMost_14, k_X12_goMost_17, k_X12_goMost_18, k_X12_goMost_19, k_X12_goMost_22, k_X12_goMost_23, k_X12_goMost_26, k_X12_goMost_29, k_X12_goMost_30, k_X12_goMost_31, k_X12_goMost_32, k_X12_goMost_35, k_X12_goMost_38, k_X12_goMost_39, k_X12_goMost_40, k_X12_goMost_41, k_X12_goMost_44, k_X12_goMost_47, k_X12_goMost_50, k_X12_goMost_51, k_X12_goMost_52, k_X12_goMost_53, k_X12_goMost_54, k_X12_goMost_55, k_X12_goMost_58, k_X12_goMost_61, k_X12_goMost_62, k_X12_goMost_65, k_X12_goMost_66, k_X12_goMost_67, k_X12_goMost_68, k_X12_goMost_69, k_X12_goMost_70, k_X12_goMost_71, k_X12_goMost_72, k_X12_goMost_73, k_X12_goMost_74, k_X12_goMost_75, k_X12_goMost_76, k_X12_goMost_77, k_X12_goMost_80, k_X12_goMost_83, k_X12_goMost_86, w_X12_goMost_e, w_X12_goPlay_e, w_X12_rowOf_e, k30, hd', wMo_s]
        repeat' (first | apply And.intro | intro _)
        all_goals first | omega | exact absurd trivial (by assumption) | skip
        all_goals (refine ⟨m, upf r (4 * c + 1) t, hx, hr2, p0, p1, by omega, by omega, hT2, by rw [u50]; exact j50, by rw [u50]; exact j51, fun τ a b e q => ?_⟩; rw [u50] at q; exact i9 τ a b e q)
      · have et : t = (m 5000 30).toNat := by omega
        have q8 := h σ' hT' j50 j51 (by rw [hst, et]; rfl)
        simp only [↓reduceIte, inR_0, inR_1, inR_m, vSw2_e, swP_n, swP_c, vI_e, vL_e, vNull_e, vIload_e, vLload_e, vAload_e, vIstore_e, vLstore_e, vAstore_e, vIinc_e, vIadd_e, vIsub_e, vImul_e, vIand_e, vIor_e, vIxor_e, vIshl_e, vIshr_e, vIushr_e, vIdiv_e, vIrem_e, vLadd_e, vLsub_e, vLmul_e, vLand_e, vLor_e, vLxor_e, vLdiv_e, vLrem_e, vLushr_e, vLshl_e, vLcmp_e, vIneg_e, vI2l_e, vL2i_e, vI2b_e, vI2c_e, vDup_e, vPop_e, vDup2_e, vGoto_e, vIcEq_e, vIfEq_e, vIcNe_e, vIfNe_e, vIcLt_e, vIfLt_e, vIcGe_e, vIfGe_e, vIcGt_e, vIfGt_e, vIcLe_e, vIfLe_e, vNonnull_e, vSw_e, vGetI_e, vGetL_e, vGetR_e, vPutI_e, vPutZ_e, vPutL_e, vPutR_e, vIald_e, vIald_s, vLald_e, vBald_e, vBald_s, vAald_e, vIast_e, vLast_e, vBast_e, vAast_e, vAlen_e8, vAlen_e9, vAlen_e10, vAlen_e11, vAlen_e5, vAlen_e3, vGets_e, vCompact_e, vLdcS_e, vIret_e, vZret_e, vCret_e, vBret_e, vLret_e, vVret_e, vAret_e, vCallM_e0, vCallMV_e0, vCallS_e0, vCallSV_e0, vCallM_e1, vCallMV_e1, vCallS_e1, vCallSV_e1, vCallM_e2, vCallMV_e2, vCallS_e2, vCallSV_e2, vCallM_e3, vCallMV_e3, vCallS_e3, vCallSV_e3, vCallM_e4, vCallMV_e4, vCallS_e4, vCallSV_e4, vCallM_e5, vCallMV_e5, vCallS_e5, vCallSV_e5, vCallM_e6, vCallMV_e6, vCallS_e6, vCallSV_e6, vCallM_e7, vCallMV_e7, vCallS_e7, vCallSV_e7, vBad_e, vStrVal_e, vStrCod_e, vForm_e, vCallT_e0, vCallT_e1, vCallT_e2, vCopy_e, rf_0_0, rf_0_1, rf_0_2, rf_0_3, rf_0_4, rf_0_7, rf_0_10, rf_0_11, rf_0_12, rf_0_13, rf_0_14, rf_0_15, rf_0_16, rf_1_0, rf_3_0, rf_3_1, rf_6_0, rf_6_1, rf_9_0, rf_9_1, rf_9_3, rf_13_0, rf_13_1, rf_13_2, rf_16_0, rf_16_1, rf_16_2, rf_16_3, rf_21_0, rf_21_1, rf_21_2, rf_21_3, rf_26_0, rf_26_1, rf_26_2, rf_26_3, rf_26_4, rf_26_5, rf_26_6, rf_31_0, rf_31_2, rf_31_5, rf_31_6, rf_36_0, rf_36_1, rf_36_2, rf_36_3, rf_39_0, rf_39_1, rf_39_2, rf_41_0, rf_41_1, rf_41_2, rf_41_3, rf_5000_1, rf_5000_2, rf_5000_3, rf_5000_4, rf_5000_5, rf_5000_15, rf_5000_16, rf_5000_18, rf_5000_19, rf_5000_20, rf_5000_21, rf_5000_22, rf_5000_23, rf_5000_24, rf_5000_25, rf_5000_26, rf_5000_27, rf_5000_36, rf_5000_37, rf_5000_40, rf_5000_41, rf_5000_42, rf_5000_43, rf_5000_44, rf_5000_45, rf_5000_47, rf_5000_52, rf_5000_54, rf_5000_55, rf_100_0, rf_100_1, rf_103_0, rf_103_1, rf_106_0, rf_106_1, rf_109_0, rf_109_1, al_2, al_4, al_5, al_7, al_8, al_10, al_11, al_12, al_14, al_15, al_17, al_18, al_19, al_20, al_22, al_23, al_24, al_25, al_27, al_28, al_29, al_30, al_32, al_33, al_34, al_35, al_37, al_38, al_40, al_42, al_5001, al_5002, al_5003, al_5004, al_5005, al_5006, al_5007, al_5008, al_5009, al_5010, al_5011, al_5012, al_5013, al_5014, al_5015, al_5016, al_5017, al_5018, al_5019, al_5020, al_5021, al_5022, al_5023, al_5024, al_5025, al_5026, al_9000, al_101, al_102, al_104, al_105, al_107, al_108, al_110, al_111, vcs_e, lg_c0, lg_cs, lg_nil, set_c0, set_cs, okst_0, okst_s, acok_n, acok_c, List.contains_nil, List.contains_cons, Bool.or_false, Bool.false_or, Bool.false_eq_true, if_false, if_true, ite_self, ne_eq, true_and, and_true, not_false_eq_true, not_true_eq_false, false_imp_iff, true_imp_iff, Nat.ble_eq, Bool.and_eq_true, reduceCtorEq, or_false, false_or, or_true, true_or, false_and, and_false, and_self, Int.reduceLE, Int.reduceAdd, Int.reduceSub, Int.reduceMul, Int.reduceNeg, Int.reduceLT, Int.reduceEq, Int.reduceNe, Nat.reduceBEq, Nat.reduceBNe, Nat.reduceEqDiff, amCmp_in, amCmp_lt, amCmp_le, amCmp_gt, amCmp_ge, amCmp_eq, amCmp_ne, Nat.reduceLeDiff, Nat.reduceSub, Bool.and_true, Bool.true_and, Bool.and_self, Bool.or_true, Bool.true_or, isRf_3, isRf_4, isRf_5, isRf_8, isRf_9, isRf_10, isRf_11, isRf_15, isRf_16, isRf_17, isRf_18, isRf_19, isRf_20, isRf_21, isRf_22, isRf_23, isRf_24, isRf_25, isRf_26, isRf_27, isRf_28, k_X12_goMost_0, k_X12_goMost_1, k_X12_goMost_2, k_X12_goMost_5, k_X12_goMost_8, k_X12_goMost_9, k_X12_goMost_10, k_X12_goMost_13, k_X12_goMost_14, k_X12_goMost_17, k_X12_goMost_18, k_X12_goMost_19, k_X12_goMost_22, k_X12_goMost_23, k_X12_goMost_26, k_X12_goMost_29, k_X12_goMost_30, k_X12_goMost_31, k_X12_goMost_32, k_X12_goMost_35, k_X12_goMost_38, k_X12_goMost_39, k_X12_goMost_40, k_X12_goMost_41, k_X12_goMost_44, k_X12_goMost_47, k_X12_goMost_50, k_X12_goMost_51, k_X12_goMost_52, k_X12_goMost_53, k_X12_goMost_54, k_X12_goMost_55, k_X12_goMost_58, k_X12_goMost_61, k_X12_goMost_62, k_X12_goMost_65, k_X12_goMost_66, k_X12_goMost_67, k_X12_goMost_68, k_X12_goMost_69, k_X12_goMost_70, k_X12_goMost_71, k_X12_goMost_72, k_X12_goMost_73, k_X12_goMost_74, k_X12_goMost_75, k_X12_goMost_76, k_X12_goMost_77, k_X12_goMost_80, k_X12_goMost_83, k_X12_goMost_86, w_X12_goMost_e, w_X12_goPlay_e, w_X12_rowOf_e, k30]
        repeat' (first | apply And.intro | intro _)
        all_goals first | omega | exact absurd trivial (by assumption) | exact q8
    · change vcs _ _ _ _ 60 0 [(28, 5000), (0, c), (0, p), (6, 0)] [] σ
      obtain ⟨k29, k30, k7⟩ := kk σ hT.1
      have i9 : ∃ k', inv_gms m r c p (σ 5000 50, σ 5000 51) d' k' 53 [(28, 5000), (0, c), (0, p), (0, 0)] [] σ := ⟨(m 5000 30).toNat, rfl, rfl, hT, i50, i51, 0, rfl, by omega, rfl⟩
      have hne : ¬ c = m 5000 29 := by omega
      simp only [↓reduceIte, inR_0, inR_1, inR_m, vSw2_e, swP_n, swP_c, vI_e, vL_e, vNull_e, vIload_e, vLload_e, vAload_e, vIstore_e, vLstore_e, vAstore_e, vIinc_e, vIadd_e, vIsub_e, vImul_e, vIand_e, vIor_e, vIxor_e, vIshl_e, vIshr_e, vIushr_e, vIdiv_e, vIrem_e, vLadd_e, vLsub_e, vLmul_e, vLand_e, vLor_e, vLxor_e, vLdiv_e, vLrem_e, vLushr_e, vLshl_e, vLcmp_e, vIneg_e, vI2l_e, vL2i_e, vI2b_e, vI2c_e, vDup_e, vPop_e, vDup2_e, vGoto_e, vIcEq_e, vIfEq_e, vIcNe_e, vIfNe_e, vIcLt_e, vIfLt_e, vIcGe_e, vIfGe_e, vIcGt_e, vIfGt_e, vIcLe_e, vIfLe_e, vNonnull_e, vSw_e, vGetI_e, vGetL_e, vGetR_e, vPutI_e, vPutZ_e, vPutL_e, vPutR_e, vIald_e, vIald_s, vLald_e, vBald_e, vBald_s, vAald_e, vIast_e, vLast_e, vBast_e, vAast_e, vAlen_e8, vAlen_e9, vAlen_e10, vAlen_e11, vAlen_e5, vAlen_e3, vGets_e, vCompact_e, vLdcS_e, vIret_e, vZret_e, vCret_e, vBret_e, vLret_e, vVret_e, vAret_e, vCallM_e0, vCallMV_e0, vCallS_e0, vCallSV_e0, vCallM_e1, vCallMV_e1, vCallS_e1, vCallSV_e1, vCallM_e2, vCallMV_e2, vCallS_e2, vCallSV_e2, vCallM_e3, vCallMV_e3, vCallS_e3, vCallSV_e3, vCallM_e4, vCallMV_e4, vCallS_e4, vCallSV_e4, vCallM_e5, vCallMV_e5, vCallS_e5, vCallSV_e5, vCallM_e6, vCallMV_e6, vCallS_e6, vCallSV_e6, vCallM_e7, vCallMV_e7, vCallS_e7, vCallSV_e7, vBad_e, vStrVal_e, vStrCod_e, vForm_e, vCallT_e0, vCallT_e1, vCallT_e2, vCopy_e, rf_0_0, rf_0_1, rf_0_2, rf_0_3, rf_0_4, rf_0_7, rf_0_10, rf_0_11, rf_0_12, rf_0_13, rf_0_14, rf_0_15, rf_0_16, rf_1_0, rf_3_0, rf_3_1, rf_6_0, rf_6_1, rf_9_0, rf_9_1, rf_9_3, rf_13_0, rf_13_1, rf_13_2, rf_16_0, rf_16_1, rf_16_2, rf_16_3, rf_21_0, rf_21_1, rf_21_2, rf_21_3, rf_26_0, rf_26_1, rf_26_2, rf_26_3, rf_26_4, rf_26_5, rf_26_6, rf_31_0, rf_31_2, rf_31_5, rf_31_6, rf_36_0, rf_36_1, rf_36_2, rf_36_3, rf_39_0, rf_39_1, rf_39_2, rf_41_0, rf_41_1, rf_41_2, rf_41_3, rf_5000_1, rf_5000_2, rf_5000_3, rf_5000_4, rf_5000_5, rf_5000_15, rf_5000_16, rf_5000_18, rf_5000_19, rf_5000_20, rf_5000_21, rf_5000_22, rf_5000_23, rf_5000_24, rf_5000_25, rf_5000_26, rf_5000_27, rf_5000_36, rf_5000_37, rf_5000_40, rf_5000_41, rf_5000_42, rf_5000_43, rf_5000_44, rf_5000_45, rf_5000_47, rf_5000_52, rf_5000_54, rf_5000_55, rf_100_0, rf_100_1, rf_103_0, rf_103_1, rf_106_0, rf_106_1, rf_109_0, rf_109_1, al_2, al_4, al_5, al_7, al_8, al_10, al_11, al_12, al_14, al_15, al_17, al_18, al_19, al_20, al_22, al_23, al_24, al_25, al_27, al_28, al_29, al_30, al_32, al_33, al_34, al_35, al_37, al_38, al_40, al_42, al_5001, al_5002, al_5003, al_5004, al_5005, al_5006, al_5007, al_5008, al_5009, al_5010, al_5011, al_5012, al_5013, al_5014, al_5015, al_5016, al_5017, al_5018, al_5019, al_5020, al_5021, al_5022, al_5023, al_5024, al_5025, al_5026, al_9000, al_101, al_102, al_104, al_105, al_107, al_108, al_110, al_111, vcs_e, lg_c0, lg_cs, lg_nil, set_c0, set_cs, okst_0, okst_s, acok_n, acok_c, List.contains_nil, List.contains_cons, Bool.or_false, Bool.false_or, Bool.false_eq_true, if_false, if_true, ite_self, ne_eq, true_and, and_true, not_false_eq_true, not_true_eq_false, false_imp_iff, true_imp_iff, Nat.ble_eq, Bool.and_eq_true, reduceCtorEq, or_false, false_or, or_true, true_or, false_and, and_false, and_self, Int.reduceLE, Int.reduceAdd, Int.reduceSub, Int.reduceMul, Int.reduceNeg, Int.reduceLT, Int.reduceEq, Int.reduceNe, Nat.reduceBEq, Nat.reduceBNe, Nat.reduceEqDiff, amCmp_in, amCmp_lt, amCmp_le, amCmp_gt, amCmp_ge, amCmp_eq, amCmp_ne, Nat.reduceLeDiff, Nat.reduceSub, Bool.and_true, Bool.true_and, Bool.and_self, Bool.or_true, Bool.true_or, isRf_3, isRf_4, isRf_5, isRf_8, isRf_9, isRf_10, isRf_11, isRf_15, isRf_16, isRf_17, isRf_18, isRf_19, isRf_20, isRf_21, isRf_22, isRf_23, isRf_24, isRf_25, isRf_26, isRf_27, isRf_28, k_X12_goMost_0, k_X12_goMost_1, k_X12_goMost_2, k_X12_goMost_5, k_X12_goMost_8, k_X12_goMost_9, k_X12_goMost_10, k_X12_goMost_13, k_X12_goMost_14, k_X12_goMost_17, k_X12_goMost_18, k_X12_goMost_19, k_X12_goMost_22, k_X12_goMost_23, k_X12_goMost_26, k_X12_goMost_29, k_X12_goMost_30, k_X12_goMost_31, k_X12_goMost_32, k_X12_goMost_35, k_X12_goMost_38, k_X12_goMost_39, k_X12_goMost_40, k_X12_goMost_41, k_X12_goMost_44, k_X12_goMost_47, k_X12_goMost_50, k_X12_goMost_51, k_X12_goMost_52, k_X12_goMost_53, k_X12_goMost_54, k_X12_goMost_55, k_X12_goMost_58, k_X12_goMost_61, k_X12_goMost_62, k_X12_goMost_65, k_X12_goMost_66, k_X12_goMost_67, k_X12_goMost_68, k_X12_goMost_69, k_X12_goMost_70, k_X12_goMost_71, k_X12_goMost_72, k_X12_goMost_73, k_X12_goMost_74, k_X12_goMost_75, k_X12_goMost_76, k_X12_goMost_77, k_X12_goMost_80, k_X12_goMost_83, k_X12_goMost_86, w_X12_goMost_e, w_X12_goPlay_e, w_X12_rowOf_e, k29, hne]
      repeat' (first | apply And.intro | intro _)
      all_goals first | omega | exact absurd trivial (by assumption) | exact i9
theorem wMo_w (d : Nat) (av : List AV) (σ : Mem) (Q : AV → Mem → Prop) : wMo (d + 1) av σ Q → w_X12_goMost d av σ Q := fun h => h
theorem moS (d : Nat) : MoS d := by
  induction d with
  | zero => exact fun _ _ _ h => absurd h id
  | succ d ih =>
    intro av σ Q h
    have h9 := s_X12_goMost d ih av σ Q (wMo_w d av σ Q h)
    rw [show 60 + (d + 1) = 61 + d by omega]; exact h9
