/-! Match: GAMES -/

theorem wd_1112 : Cond.methodLink RX4 49 yX0_isChair ∈ TBL := tb_tab (List.mem_of_getElem? (i := 1112) (by decide +kernel)) rfl
theorem lk_X4_49 : amLk RX4 49 yX0_isChair cX0_isChair 1 (some .boolean) 1 := ⟨wd_1112, wd_6, wd_819, by decide +kernel, by decide +kernel, by decide⟩
theorem wd_281 : Cond.fieldLink RX4 19 "ArmchairHouse$Match" "stage" "LArmchairHouse$Stage;" ∈ TBL := tb_tab (List.mem_of_getElem? (i := 281) (by decide +kernel)) rfl
theorem fl_X4_19 : amFl RX4 4 1 19 RX4 TX4 3 := ⟨rfl, inT_4, by decide, wd_281⟩
theorem wd_194 : Cond.fieldLink RX4 53 "ArmchairHouse$Stage" "ledOut" "[I" ∈ TBL := tb_tab (List.mem_of_getElem? (i := 194) (by decide +kernel)) rfl
theorem fl_X4_53 : amFl RX4 9 5 53 RX9 TX9 9 := ⟨rfl, inT_9, by decide, wd_194⟩
theorem wd_190 : Cond.fieldLink RX4 56 "ArmchairHouse$Stage" "felt" "[I" ∈ TBL := tb_tab (List.mem_of_getElem? (i := 190) (by decide +kernel)) rfl
theorem fl_X4_56 : amFl RX4 9 4 56 RX9 TX9 9 := ⟨rfl, inT_9, by decide, wd_190⟩
theorem wd_146 : Cond.fieldLink RX4 59 "ArmchairHouse$Audience" "seats" "[I" ∈ TBL := tb_tab (List.mem_of_getElem? (i := 146) (by decide +kernel)) rfl
theorem fl_X4_59 : amFl RX4 0 1 59 RX0 TX0 7 := ⟨rfl, inT_0, by decide, wd_146⟩
theorem wd_158 : Cond.fieldLink RX4 62 "ArmchairHouse$Audience" "priceNow" "I" ∈ TBL := tb_tab (List.mem_of_getElem? (i := 158) (by decide +kernel)) rfl
theorem fl_X4_62 : amFl RX4 0 5 62 RX0 TX0 7 := ⟨rfl, inT_0, by decide, wd_158⟩
def a_X4_has : AC := [(0, vIload 2 1), (1, vCallS w_X0_isChair 1 4), (4, vIfNe 9 7), (7, vI 0 8), (8, vIret), (9, vAload 0 10), (10, vGetR TT 20 1 25 13), (13, vGetR TT 25 5 8 16), (16, vIload 2 17), (17, vIald TT 18), (18, vI (-1) 19), (19, vIcNe 34 22), (22, vAload 0 23), (23, vGetR TT 20 1 25 26), (26, vGetR TT 25 4 8 29), (29, vIload 2 30), (30, vIald TT 31), (31, vGoto 35), (34, vI 0 35), (35, vIstore 4 37), (37, vAload 1 38), (38, vGetR TT 16 1 8 41), (41, vIload 2 42), (42, vIald TT 43), (43, vIload 3 44), (44, vIcNe 52 47), (47, vIload 4 49), (49, vGoto 59), (52, vIload 4 54), (54, vAload 1 55), (55, vGetI 16 5 58), (58, vIsub 59), (59, vIret)]
theorem k_X4_has_0 : look a_X4_has 0 = vIload 2 1 := rfl
theorem k_X4_has_1 : look a_X4_has 1 = vCallS w_X0_isChair 1 4 := rfl
theorem k_X4_has_4 : look a_X4_has 4 = vIfNe 9 7 := rfl
theorem k_X4_has_7 : look a_X4_has 7 = vI 0 8 := rfl
theorem k_X4_has_8 : look a_X4_has 8 = vIret := rfl
theorem k_X4_has_9 : look a_X4_has 9 = vAload 0 10 := rfl
theorem k_X4_has_10 : look a_X4_has 10 = vGetR TT 20 1 25 13 := rfl
theorem k_X4_has_13 : look a_X4_has 13 = vGetR TT 25 5 8 16 := rfl
theorem k_X4_has_16 : look a_X4_has 16 = vIload 2 17 := rfl
theorem k_X4_has_17 : look a_X4_has 17 = vIald TT 18 := rfl
theorem k_X4_has_18 : look a_X4_has 18 = vI (-1) 19 := rfl
theorem k_X4_has_19 : look a_X4_has 19 = vIcNe 34 22 := rfl
theorem k_X4_has_22 : look a_X4_has 22 = vAload 0 23 := rfl
theorem k_X4_has_23 : look a_X4_has 23 = vGetR TT 20 1 25 26 := rfl
theorem k_X4_has_26 : look a_X4_has 26 = vGetR TT 25 4 8 29 := rfl
theorem k_X4_has_29 : look a_X4_has 29 = vIload 2 30 := rfl
theorem k_X4_has_30 : look a_X4_has 30 = vIald TT 31 := rfl
theorem k_X4_has_31 : look a_X4_has 31 = vGoto 35 := rfl
theorem k_X4_has_34 : look a_X4_has 34 = vI 0 35 := rfl
theorem k_X4_has_35 : look a_X4_has 35 = vIstore 4 37 := rfl
theorem k_X4_has_37 : look a_X4_has 37 = vAload 1 38 := rfl
theorem k_X4_has_38 : look a_X4_has 38 = vGetR TT 16 1 8 41 := rfl
theorem k_X4_has_41 : look a_X4_has 41 = vIload 2 42 := rfl
theorem k_X4_has_42 : look a_X4_has 42 = vIald TT 43 := rfl
theorem k_X4_has_43 : look a_X4_has 43 = vIload 3 44 := rfl
theorem k_X4_has_44 : look a_X4_has 44 = vIcNe 52 47 := rfl
theorem k_X4_has_47 : look a_X4_has 47 = vIload 4 49 := rfl
theorem k_X4_has_49 : look a_X4_has 49 = vGoto 59 := rfl
theorem k_X4_has_52 : look a_X4_has 52 = vIload 4 54 := rfl
theorem k_X4_has_54 : look a_X4_has 54 = vAload 1 55 := rfl
theorem k_X4_has_55 : look a_X4_has 55 = vGetI 16 5 58 := rfl
theorem k_X4_has_58 : look a_X4_has 58 = vIsub 59 := rfl
theorem k_X4_has_59 : look a_X4_has 59 = vIret := rfl
theorem o_X4_has {X : amX} (e1 : XT X = TT) (e2 : XD X = 1) (hB : amB X RX4 cX4_has (some .int) 5) : ∀ pc, amOK X pc (look a_X4_has pc) := by
  have hT : amTok (XT X) := e1 ▸ TT_ok
  refine look_ok ?_
  unfold a_X4_has
  refine fc (ok_iload_n hB dX4_has_0) ?_
  refine fc (ok_callS hB (e1 ▸ s_X0_isChair) lk_X4_49 (by rw [e2]; decide) wd_818 dX4_has_1) ?_
  refine fc (ok_if_ne hB (t := 9) (by decide) dX4_has_4) ?_
  refine fc (ok_iconst hB dX4_has_7) ?_
  refine fc (ok_iret hB dX4_has_8) ?_
  refine fc (ok_aload_n hB dX4_has_9) ?_
  refine fc (okt_getR e1 hB hT fl_X4_19 rfl af_4_1 at_4_1 (by decide) dX4_has_10) ?_
  refine fc (okt_getR e1 hB hT fl_X4_53 rfl af_9_5 at_9_5 (by decide) dX4_has_13) ?_
  refine fc (ok_iload_n hB dX4_has_16) ?_
  refine fc (okt_iaload e1 hB dX4_has_17) ?_
  refine fc (ok_iconst hB dX4_has_18) ?_
  refine fc (ok_icmp_ne hB (t := 34) (by decide) dX4_has_19) ?_
  refine fc (ok_aload_n hB dX4_has_22) ?_
  refine fc (okt_getR e1 hB hT fl_X4_19 rfl af_4_1 at_4_1 (by decide) dX4_has_23) ?_
  refine fc (okt_getR e1 hB hT fl_X4_56 rfl af_9_4 at_9_4 (by decide) dX4_has_26) ?_
  refine fc (ok_iload_n hB dX4_has_29) ?_
  refine fc (okt_iaload e1 hB dX4_has_30) ?_
  refine fc (ok_goto hB (t := 35) (by decide) dX4_has_31) ?_
  refine fc (ok_iconst hB dX4_has_34) ?_
  refine fc (ok_istore hB (by decide) dX4_has_35) ?_
  refine fc (ok_aload_n hB dX4_has_37) ?_
  refine fc (okt_getR e1 hB hT fl_X4_59 rfl af_0_1 at_0_1 (by decide) dX4_has_38) ?_
  refine fc (ok_iload_n hB dX4_has_41) ?_
  refine fc (okt_iaload e1 hB dX4_has_42) ?_
  refine fc (ok_iload_n hB dX4_has_43) ?_
  refine fc (ok_icmp_ne hB (t := 52) (by decide) dX4_has_44) ?_
  refine fc (ok_iload hB dX4_has_47) ?_
  refine fc (ok_goto hB (t := 59) (by decide) dX4_has_49) ?_
  refine fc (ok_iload hB dX4_has_52) ?_
  refine fc (ok_aload_n hB dX4_has_54) ?_
  refine fc (ok_getI hB hT fl_X4_62 rfl rfl (Or.inl af_0_5) dX4_has_55) ?_
  refine fc (ok_isub hB dX4_has_58) ?_
  refine fc (ok_iret hB dX4_has_59) ?_
  exact fn
def hasF (σ : Mem) (c t : Int) : Int := (if σ 30 c = -1 then σ 29 c else 0) - if σ 18 c = t then 0 else σ 16 5
def w_X4_has : WP := fun av σ Q => ∃ (a : Int) (c : Int) (t : Int), av = [(20, 39), (16, a), (0, c), (0, t)] ∧ (a = 16 ∧ 0 ≤ c ∧ c < 6 ∧ InR (σ 30 c) ∧ InR t ∧ InR (σ 18 c) ∧ Q (0, hasF σ c t) σ)
theorem w_X4_has_e (a : Int) (c : Int) (t : Int) (σ : Mem) (Q : AV → Mem → Prop) : w_X4_has [(20, 39), (16, a), (0, c), (0, t)] σ Q = (a = 16 ∧ 0 ≤ c ∧ c < 6 ∧ InR (σ 30 c) ∧ InR t ∧ InR (σ 18 c) ∧ Q (0, hasF σ c t) σ) := by
  apply propext; constructor
  · rintro ⟨a', c', t', h9, hb9⟩; cases h9; exact hb9
  · intro hb9; exact ⟨a, c, t, rfl, hb9⟩

set_option maxRecDepth 100000 in
set_option maxHeartbeats 4000000 in
theorem s_X4_has : ∀ av σ Q, w_X4_has av σ Q → amCall 1 0 0 TT yX4_has cX4_has 5 (some .int) av σ Q := by
  rintro av σ Q ⟨a, c, t, rfl, rfl, hc0, hc1, h30, ht, h18, h⟩
  refine am_m0 (own := RX4) (A := look a_X4_has) (fun X e1 e2 hB => o_X4_has e1 e2 hB) rfl (by decide +kernel) rfl rfl 90 (w := 5) ?_
  change vcs _ _ _ _ 90 0 [(20, 39), (16, 16), (0, c), (0, t), (6, 0)] [] σ
  simp only [↓reduceIte, inR_0, inR_1, inR_m, vSw2_e, swP_n, swP_c, vI_e, vL_e, vNull_e, vIload_e, vLload_e, vAload_e, vIstore_e, vLstore_e, vAstore_e, vIinc_e, vIadd_e, vIsub_e, vImul_e, vIand_e, vIor_e, vIxor_e, vIshl_e, vIshr_e, vIushr_e, vIdiv_e, vIrem_e, vLadd_e, vLsub_e, vLmul_e, vLand_e, vLor_e, vLxor_e, vLdiv_e, vLrem_e, vLushr_e, vLshl_e, vLcmp_e, vIneg_e, vI2l_e, vL2i_e, vI2b_e, vI2c_e, vDup_e, vPop_e, vDup2_e, vGoto_e, vIcEq_e, vIfEq_e, vIcNe_e, vIfNe_e, vIcLt_e, vIfLt_e, vIcGe_e, vIfGe_e, vIcGt_e, vIfGt_e, vIcLe_e, vIfLe_e, vNonnull_e, vSw_e, vGetI_e, vGetL_e, vGetR_e, vPutI_e, vPutZ_e, vPutL_e, vPutR_e, vIald_e, vIald_s, vLald_e, vBald_e, vBald_s, vAald_e, vIast_e, vLast_e, vBast_e, vAast_e, vAlen_e8, vAlen_e9, vAlen_e10, vAlen_e11, vAlen_e5, vAlen_e3, vGets_e, vCompact_e, vLdcS_e, vIret_e, vZret_e, vCret_e, vBret_e, vLret_e, vVret_e, vAret_e, vCallM_e0, vCallMV_e0, vCallS_e0, vCallSV_e0, vCallM_e1, vCallMV_e1, vCallS_e1, vCallSV_e1, vCallM_e2, vCallMV_e2, vCallS_e2, vCallSV_e2, vCallM_e3, vCallMV_e3, vCallS_e3, vCallSV_e3, vCallM_e4, vCallMV_e4, vCallS_e4, vCallSV_e4, vCallM_e5, vCallMV_e5, vCallS_e5, vCallSV_e5, vCallM_e6, vCallMV_e6, vCallS_e6, vCallSV_e6, vCallM_e7, vCallMV_e7, vCallS_e7, vCallSV_e7, vBad_e, vStrVal_e, vStrCod_e, vForm_e, vCallT_e0, vCallT_e1, vCallT_e2, vCopy_e, rf_0_0, rf_0_1, rf_0_2, rf_0_3, rf_0_4, rf_0_7, rf_0_10, rf_0_11, rf_0_12, rf_0_13, rf_0_14, rf_0_15, rf_0_16, rf_1_0, rf_3_0, rf_3_1, rf_6_0, rf_6_1, rf_9_0, rf_9_1, rf_9_3, rf_13_0, rf_13_1, rf_13_2, rf_16_0, rf_16_1, rf_16_2, rf_16_3, rf_21_0, rf_21_1, rf_21_2, rf_21_3, rf_26_0, rf_26_1, rf_26_2, rf_26_3, rf_26_4, rf_26_5, rf_26_6, rf_31_0, rf_31_2, rf_31_5, rf_31_6, rf_36_0, rf_36_1, rf_36_2, rf_36_3, rf_39_0, rf_39_1, rf_39_2, rf_41_0, rf_41_1, rf_41_2, rf_41_3, rf_5000_1, rf_5000_2, rf_5000_3, rf_5000_4, rf_5000_5, rf_5000_15, rf_5000_16, rf_5000_18, rf_5000_19, rf_5000_20, rf_5000_21, rf_5000_22, rf_5000_23, rf_5000_24, rf_5000_25, rf_5000_26, rf_5000_27, rf_5000_36, rf_5000_37, rf_5000_40, rf_5000_41, rf_5000_42, rf_5000_43, rf_5000_44, rf_5000_45, rf_5000_47, rf_5000_52, rf_5000_54, rf_5000_55, rf_100_0, rf_100_1, rf_103_0, rf_103_1, rf_106_0, rf_106_1, rf_109_0, rf_109_1, al_2, al_4, al_5, al_7, al_8, al_10, al_11, al_12, al_14, al_15, al_17, al_18, al_19, al_20, al_22, al_23, al_24, al_25, al_27, al_28, al_29, al_30, al_32, al_33, al_34, al_35, al_37, al_38, al_40, al_42, al_5001, al_5002, al_5003, al_5004, al_5005, al_5006, al_5007, al_5008, al_5009, al_5010, al_5011, al_5012, al_5013, al_5014, al_5015, al_5016, al_5017, al_5018, al_5019, al_5020, al_5021, al_5022, al_5023, al_5024, al_5025, al_5026, al_9000, al_101, al_102, al_104, al_105, al_107, al_108, al_110, al_111, vcs_e, lg_c0, lg_cs, lg_nil, set_c0, set_cs, okst_0, okst_s, acok_n, acok_c, List.contains_nil, List.contains_cons, Bool.or_false, Bool.false_or, Bool.false_eq_true, if_false, if_true, ite_self, ne_eq, true_and, and_true, not_false_eq_true, not_true_eq_false, false_imp_iff, true_imp_iff, Nat.ble_eq, Bool.and_eq_true, reduceCtorEq, or_false, false_or, or_true, true_or, false_and, and_false, and_self, Int.reduceLE, Int.reduceAdd, Int.reduceSub, Int.reduceMul, Int.reduceNeg, Int.reduceLT, Int.reduceEq, Int.reduceNe, Nat.reduceBEq, Nat.reduceBNe, Nat.reduceEqDiff, amCmp_in, amCmp_lt, amCmp_le, amCmp_gt, amCmp_ge, amCmp_eq, amCmp_ne, Nat.reduceLeDiff, Nat.reduceSub, Bool.and_true, Bool.true_and, Bool.and_self, Bool.or_true, Bool.true_or, isRf_3, isRf_4, isRf_5, isRf_8, isRf_9, isRf_10, isRf_11, isRf_15, isRf_16, isRf_17, isRf_18, isRf_19, isRf_20, isRf_21, isRf_22, isRf_23, isRf_24, isRf_25, isRf_26, isRf_27, isRf_28, k_X4_has_0, k_X4_has_1, k_X4_has_4, k_X4_has_7, k_X4_has_8, k_X4_has_9, k_X4_has_10, k_X4_has_13, k_X4_has_16, k_X4_has_17, k_X4_has_18, k_X4_has_19, k_X4_has_22, k_X4_has_23, k_X4_has_26, k_X4_has_29, k_X4_has_30, k_X4_has_31, k_X4_has_34, k_X4_has_35, k_X4_has_37, k_X4_has_38, k_X4_has_41, k_X4_has_42, k_X4_has_43, k_X4_has_44, k_X4_has_47, k_X4_has_49, k_X4_has_52, k_X4_has_54, k_X4_has_55, k_X4_has_58, k_X4_has_59, w_X0_isChair_e]
  rw [if_pos (show 0 ≤ c ∧ c < 6 by omega)]
  unfold hasF at h
  by_cases c1 : σ 30 c = -1
  · rw [if_pos c1] at h
    by_cases c2 : σ 18 c = t
    · rw [if_pos c2, Int.sub_zero] at h
      repeat' (first | assumption | apply And.intro | intro _)
      all_goals first | omega | exact absurd trivial (by assumption) | exact h
    · rw [if_neg c2] at h
      repeat' (first | assumption | apply And.intro | intro _)
      all_goals first | omega | exact absurd trivial (by assumption) | exact h
  · rw [if_neg c1] at h
    by_cases c2 : σ 18 c = t
    · rw [if_pos c2, Int.sub_zero] at h
      repeat' (first | assumption | apply And.intro | intro _)
      all_goals first | omega | exact absurd trivial (by assumption) | exact h
    · rw [if_neg c2] at h
      repeat' (first | assumption | apply And.intro | intro _)
      all_goals first | omega | exact absurd trivial (by assumption) | exact h
theorem wd_282 : Cond.fieldLink RX4 9 "ArmchairHouse$Match" "gains" "[I" ∈ TBL := tb_tab (List.mem_of_getElem? (i := 282) (by decide +kernel)) rfl
theorem fl_X4_9 : amFl RX4 4 2 9 RX4 TX4 3 := ⟨rfl, inT_4, by decide, wd_282⟩
def a_X4_gain : AC := [(0, vI 4 1), (1, vIload 1 2), (2, vIfNe 9 5), (5, vIload 2 6), (6, vGoto 10), (9, vIload 3 10), (10, vImul 11), (11, vI 2 12), (12, vIload 1 13), (13, vImul 14), (14, vIadd 15), (15, vIload 2 16), (16, vIload 3 17), (17, vIcNe 24 20), (20, vI 1 21), (21, vGoto 25), (24, vI 0 25), (25, vIadd 26), (26, vIstore 4 28), (28, vIload 4 30), (30, vIfLt 53 33), (33, vIload 4 35), (35, vAload 0 36), (36, vGetR TT 20 2 8 39), (39, vAlen TT 40), (40, vIcGe 53 43), (43, vAload 0 44), (44, vGetR TT 20 2 8 47), (47, vIload 4 49), (49, vIald TT 50), (50, vGoto 54), (53, vI 0 54), (54, vIret)]
theorem k_X4_gain_0 : look a_X4_gain 0 = vI 4 1 := rfl
theorem k_X4_gain_1 : look a_X4_gain 1 = vIload 1 2 := rfl
theorem k_X4_gain_2 : look a_X4_gain 2 = vIfNe 9 5 := rfl
theorem k_X4_gain_5 : look a_X4_gain 5 = vIload 2 6 := rfl
theorem k_X4_gain_6 : look a_X4_gain 6 = vGoto 10 := rfl
theorem k_X4_gain_9 : look a_X4_gain 9 = vIload 3 10 := rfl
theorem k_X4_gain_10 : look a_X4_gain 10 = vImul 11 := rfl
theorem k_X4_gain_11 : look a_X4_gain 11 = vI 2 12 := rfl
theorem k_X4_gain_12 : look a_X4_gain 12 = vIload 1 13 := rfl
theorem k_X4_gain_13 : look a_X4_gain 13 = vImul 14 := rfl
theorem k_X4_gain_14 : look a_X4_gain 14 = vIadd 15 := rfl
theorem k_X4_gain_15 : look a_X4_gain 15 = vIload 2 16 := rfl
theorem k_X4_gain_16 : look a_X4_gain 16 = vIload 3 17 := rfl
theorem k_X4_gain_17 : look a_X4_gain 17 = vIcNe 24 20 := rfl
theorem k_X4_gain_20 : look a_X4_gain 20 = vI 1 21 := rfl
theorem k_X4_gain_21 : look a_X4_gain 21 = vGoto 25 := rfl
theorem k_X4_gain_24 : look a_X4_gain 24 = vI 0 25 := rfl
theorem k_X4_gain_25 : look a_X4_gain 25 = vIadd 26 := rfl
theorem k_X4_gain_26 : look a_X4_gain 26 = vIstore 4 28 := rfl
theorem k_X4_gain_28 : look a_X4_gain 28 = vIload 4 30 := rfl
theorem k_X4_gain_30 : look a_X4_gain 30 = vIfLt 53 33 := rfl
theorem k_X4_gain_33 : look a_X4_gain 33 = vIload 4 35 := rfl
theorem k_X4_gain_35 : look a_X4_gain 35 = vAload 0 36 := rfl
theorem k_X4_gain_36 : look a_X4_gain 36 = vGetR TT 20 2 8 39 := rfl
theorem k_X4_gain_39 : look a_X4_gain 39 = vAlen TT 40 := rfl
theorem k_X4_gain_40 : look a_X4_gain 40 = vIcGe 53 43 := rfl
theorem k_X4_gain_43 : look a_X4_gain 43 = vAload 0 44 := rfl
theorem k_X4_gain_44 : look a_X4_gain 44 = vGetR TT 20 2 8 47 := rfl
theorem k_X4_gain_47 : look a_X4_gain 47 = vIload 4 49 := rfl
theorem k_X4_gain_49 : look a_X4_gain 49 = vIald TT 50 := rfl
theorem k_X4_gain_50 : look a_X4_gain 50 = vGoto 54 := rfl
theorem k_X4_gain_53 : look a_X4_gain 53 = vI 0 54 := rfl
theorem k_X4_gain_54 : look a_X4_gain 54 = vIret := rfl
theorem o_X4_gain {X : amX} (e1 : XT X = TT) (e2 : XD X = 0) (hB : amB X RX4 cX4_gain (some .int) 5) : ∀ pc, amOK X pc (look a_X4_gain pc) := by
  have hT : amTok (XT X) := e1 ▸ TT_ok
  refine look_ok ?_
  unfold a_X4_gain
  refine fc (ok_iconst hB dX4_gain_0) ?_
  refine fc (ok_iload_n hB dX4_gain_1) ?_
  refine fc (ok_if_ne hB (t := 9) (by decide) dX4_gain_2) ?_
  refine fc (ok_iload_n hB dX4_gain_5) ?_
  refine fc (ok_goto hB (t := 10) (by decide) dX4_gain_6) ?_
  refine fc (ok_iload_n hB dX4_gain_9) ?_
  refine fc (ok_imul hB dX4_gain_10) ?_
  refine fc (ok_iconst hB dX4_gain_11) ?_
  refine fc (ok_iload_n hB dX4_gain_12) ?_
  refine fc (ok_imul hB dX4_gain_13) ?_
  refine fc (ok_iadd hB dX4_gain_14) ?_
  refine fc (ok_iload_n hB dX4_gain_15) ?_
  refine fc (ok_iload_n hB dX4_gain_16) ?_
  refine fc (ok_icmp_ne hB (t := 24) (by decide) dX4_gain_17) ?_
  refine fc (ok_iconst hB dX4_gain_20) ?_
  refine fc (ok_goto hB (t := 25) (by decide) dX4_gain_21) ?_
  refine fc (ok_iconst hB dX4_gain_24) ?_
  refine fc (ok_iadd hB dX4_gain_25) ?_
  refine fc (ok_istore hB (by decide) dX4_gain_26) ?_
  refine fc (ok_iload hB dX4_gain_28) ?_
  refine fc (ok_if_lt hB (t := 53) (by decide) dX4_gain_30) ?_
  refine fc (ok_iload hB dX4_gain_33) ?_
  refine fc (ok_aload_n hB dX4_gain_35) ?_
  refine fc (okt_getR e1 hB hT fl_X4_9 rfl af_4_2 at_4_2 (by decide) dX4_gain_36) ?_
  refine fc (okt_arraylength e1 hB dX4_gain_39) ?_
  refine fc (ok_icmp_ge hB (t := 53) (by decide) dX4_gain_40) ?_
  refine fc (ok_aload_n hB dX4_gain_43) ?_
  refine fc (okt_getR e1 hB hT fl_X4_9 rfl af_4_2 at_4_2 (by decide) dX4_gain_44) ?_
  refine fc (ok_iload hB dX4_gain_47) ?_
  refine fc (okt_iaload e1 hB dX4_gain_49) ?_
  refine fc (ok_goto hB (t := 54) (by decide) dX4_gain_50) ?_
  refine fc (ok_iconst hB dX4_gain_53) ?_
  refine fc (ok_iret hB dX4_gain_54) ?_
  exact fn
def gnF (g : Int → Int) (w x y : Int) : Int := g (4 * (if w = 0 then x else y) + 2 * w + if x = y then 1 else 0)
def w_X4_gain : WP := fun av σ Q => ∃ (w : Int) (x : Int) (y : Int), av = [(20, 39), (0, w), (0, x), (0, y)] ∧ ((w = 0 ∨ w = 1) ∧ 0 ≤ x ∧ x < 6 ∧ 0 ≤ y ∧ y < 6 ∧ Q (0, gnF (σ 40) w x y) σ)
theorem w_X4_gain_e (w : Int) (x : Int) (y : Int) (σ : Mem) (Q : AV → Mem → Prop) : w_X4_gain [(20, 39), (0, w), (0, x), (0, y)] σ Q = ((w = 0 ∨ w = 1) ∧ 0 ≤ x ∧ x < 6 ∧ 0 ≤ y ∧ y < 6 ∧ Q (0, gnF (σ 40) w x y) σ) := by
  apply propext; constructor
  · rintro ⟨w', x', y', h9, hb9⟩; cases h9; exact hb9
  · intro hb9; exact ⟨w, x, y, rfl, hb9⟩

set_option maxRecDepth 100000 in
set_option maxHeartbeats 4000000 in
theorem s_X4_gain : ∀ av σ Q, w_X4_gain av σ Q → amCall 0 0 0 TT yX4_gain cX4_gain 5 (some .int) av σ Q := by
  rintro av σ Q ⟨w, x, y, rfl, hw, hx0, hx1, hy0, hy1, h⟩
  refine am_m0 (own := RX4) (A := look a_X4_gain) (fun X e1 e2 hB => o_X4_gain e1 e2 hB) rfl (by decide +kernel) rfl rfl 90 (w := 5) ?_
  change vcs _ _ _ _ 90 0 [(20, 39), (0, w), (0, x), (0, y), (6, 0)] [] σ
  unfold gnF at h
  rcases hw with rfl | rfl
  · simp only [↓reduceIte, inR_0, inR_1, inR_m, vSw2_e, swP_n, swP_c, vI_e, vL_e, vNull_e, vIload_e, vLload_e, vAload_e, vIstore_e, vLstore_e, vAstore_e, vIinc_e, vIadd_e, vIsub_e, vImul_e, vIand_e, vIor_e, vIxor_e, vIshl_e, vIshr_e, vIushr_e, vIdiv_e, vIrem_e, vLadd_e, vLsub_e, vLmul_e, vLand_e, vLor_e, vLxor_e, vLdiv_e, vLrem_e, vLushr_e, vLshl_e, vLcmp_e, vIneg_e, vI2l_e, vL2i_e, vI2b_e, vI2c_e, vDup_e, vPop_e, vDup2_e, vGoto_e, vIcEq_e, vIfEq_e, vIcNe_e, vIfNe_e, vIcLt_e, vIfLt_e, vIcGe_e, vIfGe_e, vIcGt_e, vIfGt_e, vIcLe_e, vIfLe_e, vNonnull_e, vSw_e, vGetI_e, vGetL_e, vGetR_e, vPutI_e, vPutZ_e, vPutL_e, vPutR_e, vIald_e, vIald_s, vLald_e, vBald_e, vBald_s, vAald_e, vIast_e, vLast_e, vBast_e, vAast_e, vAlen_e8, vAlen_e9, vAlen_e10, vAlen_e11, vAlen_e5, vAlen_e3, vGets_e, vCompact_e, vLdcS_e, vIret_e, vZret_e, vCret_e, vBret_e, vLret_e, vVret_e, vAret_e, vCallM_e0, vCallMV_e0, vCallS_e0, vCallSV_e0, vCallM_e1, vCallMV_e1, vCallS_e1, vCallSV_e1, vCallM_e2, vCallMV_e2, vCallS_e2, vCallSV_e2, vCallM_e3, vCallMV_e3, vCallS_e3, vCallSV_e3, vCallM_e4, vCallMV_e4, vCallS_e4, vCallSV_e4, vCallM_e5, vCallMV_e5, vCallS_e5, vCallSV_e5, vCallM_e6, vCallMV_e6, vCallS_e6, vCallSV_e6, vCallM_e7, vCallMV_e7, vCallS_e7, vCallSV_e7, vBad_e, vStrVal_e, vStrCod_e, vForm_e, vCallT_e0, vCallT_e1, vCallT_e2, vCopy_e, rf_0_0, rf_0_1, rf_0_2, rf_0_3, rf_0_4, rf_0_7, rf_0_10, rf_0_11, rf_0_12, rf_0_13, rf_0_14, rf_0_15, rf_0_16, rf_1_0, rf_3_0, rf_3_1, rf_6_0, rf_6_1, rf_9_0, rf_9_1, rf_9_3, rf_13_0, rf_13_1, rf_13_2, rf_16_0, rf_16_1, rf_16_2, rf_16_3, rf_21_0, rf_21_1, rf_21_2, rf_21_3, rf_26_0, rf_26_1, rf_26_2, rf_26_3, rf_26_4, rf_26_5, rf_26_6, rf_31_0, rf_31_2, rf_31_5, rf_31_6, rf_36_0, rf_36_1, rf_36_2, rf_36_3, rf_39_0, rf_39_1, rf_39_2, rf_41_0, rf_41_1, rf_41_2, rf_41_3, rf_5000_1, rf_5000_2, rf_5000_3, rf_5000_4, rf_5000_5, rf_5000_15, rf_5000_16, rf_5000_18, rf_5000_19, rf_5000_20, rf_5000_21, rf_5000_22, rf_5000_23, rf_5000_24, rf_5000_25, rf_5000_26, rf_5000_27, rf_5000_36, rf_5000_37, rf_5000_40, rf_5000_41, rf_5000_42, rf_5000_43, rf_5000_44, rf_5000_45, rf_5000_47, rf_5000_52, rf_5000_54, rf_5000_55, rf_100_0, rf_100_1, rf_103_0, rf_103_1, rf_106_0, rf_106_1, rf_109_0, rf_109_1, al_2, al_4, al_5, al_7, al_8, al_10, al_11, al_12, al_14, al_15, al_17, al_18, al_19, al_20, al_22, al_23, al_24, al_25, al_27, al_28, al_29, al_30, al_32, al_33, al_34, al_35, al_37, al_38, al_40, al_42, al_5001, al_5002, al_5003, al_5004, al_5005, al_5006, al_5007, al_5008, al_5009, al_5010, al_5011, al_5012, al_5013, al_5014, al_5015, al_5016, al_5017, al_5018, al_5019, al_5020, al_5021, al_5022, al_5023, al_5024, al_5025, al_5026, al_9000, al_101, al_102, al_104, al_105, al_107, al_108, al_110, al_111, vcs_e, lg_c0, lg_cs, lg_nil, set_c0, set_cs, okst_0, okst_s, acok_n, acok_c, List.contains_nil, List.contains_cons, Bool.or_false, Bool.false_or, Bool.false_eq_true, if_false, if_true, ite_self, ne_eq, true_and, and_true, not_false_eq_true, not_true_eq_false, false_imp_iff, true_imp_iff, Nat.ble_eq, Bool.and_eq_true, reduceCtorEq, or_false, false_or, or_true, true_or, false_and, and_false, and_self, Int.reduceLE, Int.reduceAdd, Int.reduceSub, Int.reduceMul, Int.reduceNeg, Int.reduceLT, Int.reduceEq, Int.reduceNe, Nat.reduceBEq, Nat.reduceBNe, Nat.reduceEqDiff, amCmp_in, amCmp_lt, amCmp_le, amCmp_gt, amCmp_ge, amCmp_eq, amCmp_ne, Nat.reduceLeDiff, Nat.reduceSub, Bool.and_true, Bool.true_and, Bool.and_self, Bool.or_true, Bool.true_or, isRf_3, isRf_4, isRf_5, isRf_8, isRf_9, isRf_10, isRf_11, isRf_15, isRf_16, isRf_17, isRf_18, isRf_19, isRf_20, isRf_21, isRf_22, isRf_23, isRf_24, isRf_25, isRf_26, isRf_27, isRf_28, k_X4_gain_0, k_X4_gain_1, k_X4_gain_2, k_X4_gain_5, k_X4_gain_6, k_X4_gain_9, k_X4_gain_10, k_X4_gain_11, k_X4_gain_12, k_X4_gain_13, k_X4_gain_14, k_X4_gain_15, k_X4_gain_16, k_X4_gain_17, k_X4_gain_20, k_X4_gain_21, k_X4_gain_24, k_X4_gain_25, k_X4_gain_26, k_X4_gain_28, k_X4_gain_30, k_X4_gain_33, k_X4_gain_35, k_X4_gain_36, k_X4_gain_39, k_X4_gain_40, k_X4_gain_43, k_X4_gain_44, k_X4_gain_47, k_X4_gain_49, k_X4_gain_50, k_X4_gain_53, k_X4_gain_54]
    rw [if_pos rfl] at h
    by_cases c : x = y
    · rw [if_pos c] at h
      repeat' (first | assumption | apply And.intro | intro _)
      all_goals first | omega | exact absurd trivial (by assumption) | exact h
    · rw [if_neg c] at h
      repeat' (first | assumption | apply And.intro | intro _)
      all_goals first | omega | exact absurd trivial (by assumption) | exact h
  · simp only [↓reduceIte, inR_0, inR_1, inR_m, vSw2_e, swP_n, swP_c, vI_e, vL_e, vNull_e, vIload_e, vLload_e, vAload_e, vIstore_e, vLstore_e, vAstore_e, vIinc_e, vIadd_e, vIsub_e, vImul_e, vIand_e, vIor_e, vIxor_e, vIshl_e, vIshr_e, vIushr_e, vIdiv_e, vIrem_e, vLadd_e, vLsub_e, vLmul_e, vLand_e, vLor_e, vLxor_e, vLdiv_e, vLrem_e, vLushr_e, vLshl_e, vLcmp_e, vIneg_e, vI2l_e, vL2i_e, vI2b_e, vI2c_e, vDup_e, vPop_e, vDup2_e, vGoto_e, vIcEq_e, vIfEq_e, vIcNe_e, vIfNe_e, vIcLt_e, vIfLt_e, vIcGe_e, vIfGe_e, vIcGt_e, vIfGt_e, vIcLe_e, vIfLe_e, vNonnull_e, vSw_e, vGetI_e, vGetL_e, vGetR_e, vPutI_e, vPutZ_e, vPutL_e, vPutR_e, vIald_e, vIald_s, vLald_e, vBald_e, vBald_s, vAald_e, vIast_e, vLast_e, vBast_e, vAast_e, vAlen_e8, vAlen_e9, vAlen_e10, vAlen_e11, vAlen_e5, vAlen_e3, vGets_e, vCompact_e, vLdcS_e, vIret_e, vZret_e, vCret_e, vBret_e, vLret_e, vVret_e, vAret_e, vCallM_e0, vCallMV_e0, vCallS_e0, vCallSV_e0, vCallM_e1, vCallMV_e1, vCallS_e1, vCallSV_e1, vCallM_e2, vCallMV_e2, vCallS_e2, vCallSV_e2, vCallM_e3, vCallMV_e3, vCallS_e3, vCallSV_e3, vCallM_e4, vCallMV_e4, vCallS_e4, vCallSV_e4, vCallM_e5, vCallMV_e5, vCallS_e5, vCallSV_e5, vCallM_e6, vCallMV_e6, vCallS_e6, vCallSV_e6, vCallM_e7, vCallMV_e7, vCallS_e7, vCallSV_e7, vBad_e, vStrVal_e, vStrCod_e, vForm_e, vCallT_e0, vCallT_e1, vCallT_e2, vCopy_e, rf_0_0, rf_0_1, rf_0_2, rf_0_3, rf_0_4, rf_0_7, rf_0_10, rf_0_11, rf_0_12, rf_0_13, rf_0_14, rf_0_15, rf_0_16, rf_1_0, rf_3_0, rf_3_1, rf_6_0, rf_6_1, rf_9_0, rf_9_1, rf_9_3, rf_13_0, rf_13_1, rf_13_2, rf_16_0, rf_16_1, rf_16_2, rf_16_3, rf_21_0, rf_21_1, rf_21_2, rf_21_3, rf_26_0, rf_26_1, rf_26_2, rf_26_3, rf_26_4, rf_26_5, rf_26_6, rf_31_0, rf_31_2, rf_31_5, rf_31_6, rf_36_0, rf_36_1, rf_36_2, rf_36_3, rf_39_0, rf_39_1, rf_39_2, rf_41_0, rf_41_1, rf_41_2, rf_41_3, rf_5000_1, rf_5000_2, rf_5000_3, rf_5000_4, rf_5000_5, rf_5000_15, rf_5000_16, rf_5000_18, rf_5000_19, rf_5000_20, rf_5000_21, rf_5000_22, rf_5000_23, rf_5000_24, rf_5000_25, rf_5000_26, rf_5000_27, rf_5000_36, rf_5000_37, rf_5000_40, rf_5000_41, rf_5000_42, rf_5000_43, rf_5000_44, rf_5000_45, rf_5000_47, rf_5000_52, rf_5000_54, rf_5000_55, rf_100_0, rf_100_1, rf_103_0, rf_103_1, rf_106_0, rf_106_1, rf_109_0, rf_109_1, al_2, al_4, al_5, al_7, al_8, al_10, al_11, al_12, al_14, al_15, al_17, al_18, al_19, al_20, al_22, al_23, al_24, al_25, al_27, al_28, al_29, al_30, al_32, al_33, al_34, al_35, al_37, al_38, al_40, al_42, al_5001, al_5002, al_5003, al_5004, al_5005, al_5006, al_5007, al_5008, al_5009, al_5010, al_5011, al_5012, al_5013, al_5014, al_5015, al_5016, al_5017, al_5018, al_5019, al_5020, al_5021, al_5022, al_5023, al_5024, al_5025, al_5026, al_9000, al_101, al_102, al_104, al_105, al_107, al_108, al_110, al_111, vcs_e, lg_c0, lg_cs, lg_nil, set_c0, set_cs, okst_0, okst_s, acok_n, acok_c, List.contains_nil, List.contains_cons, Bool.or_false, Bool.false_or, Bool.false_eq_true, if_false, if_true, ite_self, ne_eq, true_and, and_true, not_false_eq_true, not_true_eq_false, false_imp_iff, true_imp_iff, Nat.ble_eq, Bool.and_eq_true, reduceCtorEq, or_false, false_or, or_true, true_or, false_and, and_false, and_self, Int.reduceLE, Int.reduceAdd, Int.reduceSub, Int.reduceMul, Int.reduceNeg, Int.reduceLT, Int.reduceEq, Int.reduceNe, Nat.reduceBEq, Nat.reduceBNe, Nat.reduceEqDiff, amCmp_in, amCmp_lt, amCmp_le, amCmp_gt, amCmp_ge, amCmp_eq, amCmp_ne, Nat.reduceLeDiff, Nat.reduceSub, Bool.and_true, Bool.true_and, Bool.and_self, Bool.or_true, Bool.true_or, isRf_3, isRf_4, isRf_5, isRf_8, isRf_9, isRf_10, isRf_11, isRf_15, isRf_16, isRf_17, isRf_18, isRf_19, isRf_20, isRf_21, isRf_22, isRf_23, isRf_24, isRf_25, isRf_26, isRf_27, isRf_28, k_X4_gain_0, k_X4_gain_1, k_X4_gain_2, k_X4_gain_5, k_X4_gain_6, k_X4_gain_9, k_X4_gain_10, k_X4_gain_11, k_X4_gain_12, k_X4_gain_13, k_X4_gain_14, k_X4_gain_15, k_X4_gain_16, k_X4_gain_17, k_X4_gain_20, k_X4_gain_21, k_X4_gain_24, k_X4_gain_25, k_X4_gain_26, k_X4_gain_28, k_X4_gain_30, k_X4_gain_33, k_X4_gain_35, k_X4_gain_36, k_X4_gain_39, k_X4_gain_40, k_X4_gain_43, k_X4_gain_44, k_X4_gain_47, k_X4_gain_49, k_X4_gain_50, k_X4_gain_53, k_X4_gain_54]
    rw [if_neg (by decide)] at h
    by_cases c : x = y
    · rw [if_pos c] at h
      repeat' (first | assumption | apply And.intro | intro _)
      all_goals first | omega | exact absurd trivial (by assumption) | exact h
    · rw [if_neg c] at h
      repeat' (first | assumption | apply And.intro | intro _)
      all_goals first | omega | exact absurd trivial (by assumption) | exact h
theorem wd_280 : Cond.fieldLink RX4 15 "ArmchairHouse$Match" "plan" "LArmchairHouse$Plan;" ∈ TBL := tb_tab (List.mem_of_getElem? (i := 280) (by decide +kernel)) rfl
theorem fl_X4_15 : amFl RX4 4 0 15 RX4 TX4 3 := ⟨rfl, inT_4, by decide, wd_280⟩
theorem wd_1104 : Cond.methodLink RX4 25 yX6_many ∈ TBL := tb_tab (List.mem_of_getElem? (i := 1104) (by decide +kernel)) rfl
theorem lk_X4_25 : amLk RX4 25 yX6_many cX6_many 2 (some .int) 1 := ⟨wd_1104, wd_3, wd_559, by decide +kernel, by decide +kernel, by decide⟩
theorem wd_1125 : Cond.methodLink RX4 66 yX4_gain ∈ TBL := tb_tab (List.mem_of_getElem? (i := 1125) (by decide +kernel)) rfl
theorem wd_10 : Cond.initialized RX4 ∈ TBL := tb_tab (List.mem_of_getElem? (i := 10) (by decide +kernel)) rfl
theorem wd_1116 : Cond.code yX4_gain cX4_gain 5 (some .int) ∈ TBL := tb_tab (List.mem_of_getElem? (i := 1116) (by decide +kernel)) rfl
theorem lk_X4_66 : amLk RX4 66 yX4_gain cX4_gain 5 (some .int) 3 := ⟨wd_1125, wd_10, wd_1116, by decide +kernel, by decide +kernel, by decide⟩
theorem wd_1114 : Cond.instanceMethod yX4_gain ∈ TBL := tb_tab (List.mem_of_getElem? (i := 1114) (by decide +kernel)) rfl
theorem wd_1115 : Cond.selects RX4 yX4_gain yX4_gain ∈ TBL := tb_tab (List.mem_of_getElem? (i := 1115) (by decide +kernel)) rfl
def a_X4_isRest : AC := [(0, vI 0 1), (1, vIstore 3 2), (2, vIload 3 3), (3, vAload 0 4), (4, vGetR TT 20 0 22 7), (7, vI 3 8), (8, vCallM w_X6_many 22 1 11), (11, vIcGe 56 14), (14, vAload 0 15), (15, vI 0 16), (16, vIload 3 17), (17, vIload 2 18), (18, vCallM w_X4_gain 20 3 21), (21, vAload 0 22), (22, vI 0 23), (23, vIload 1 24), (24, vIload 2 25), (25, vCallM w_X4_gain 20 3 28), (28, vIcGt 48 31), (31, vAload 0 32), (32, vI 1 33), (33, vIload 1 34), (34, vIload 3 35), (35, vCallM w_X4_gain 20 3 38), (38, vAload 0 39), (39, vI 1 40), (40, vIload 1 41), (41, vIload 2 42), (42, vCallM w_X4_gain 20 3 45), (45, vIcLe 50 48), (48, vI 0 49), (49, vZret), (50, vIinc 3 1 53), (53, vGoto 2), (56, vI 1 57), (57, vZret)]
theorem k_X4_isRest_0 : look a_X4_isRest 0 = vI 0 1 := rfl
theorem k_X4_isRest_1 : look a_X4_isRest 1 = vIstore 3 2 := rfl
theorem k_X4_isRest_2 : look a_X4_isRest 2 = vIload 3 3 := rfl
theorem k_X4_isRest_3 : look a_X4_isRest 3 = vAload 0 4 := rfl
theorem k_X4_isRest_4 : look a_X4_isRest 4 = vGetR TT 20 0 22 7 := rfl
theorem k_X4_isRest_7 : look a_X4_isRest 7 = vI 3 8 := rfl
theorem k_X4_isRest_8 : look a_X4_isRest 8 = vCallM w_X6_many 22 1 11 := rfl
theorem k_X4_isRest_11 : look a_X4_isRest 11 = vIcGe 56 14 := rfl
theorem k_X4_isRest_14 : look a_X4_isRest 14 = vAload 0 15 := rfl
theorem k_X4_isRest_15 : look a_X4_isRest 15 = vI 0 16 := rfl
theorem k_X4_isRest_16 : look a_X4_isRest 16 = vIload 3 17 := rfl
theorem k_X4_isRest_17 : look a_X4_isRest 17 = vIload 2 18 := rfl
theorem k_X4_isRest_18 : look a_X4_isRest 18 = vCallM w_X4_gain 20 3 21 := rfl
theorem k_X4_isRest_21 : look a_X4_isRest 21 = vAload 0 22 := rfl
theorem k_X4_isRest_22 : look a_X4_isRest 22 = vI 0 23 := rfl
theorem k_X4_isRest_23 : look a_X4_isRest 23 = vIload 1 24 := rfl
theorem k_X4_isRest_24 : look a_X4_isRest 24 = vIload 2 25 := rfl
theorem k_X4_isRest_25 : look a_X4_isRest 25 = vCallM w_X4_gain 20 3 28 := rfl
theorem k_X4_isRest_28 : look a_X4_isRest 28 = vIcGt 48 31 := rfl
theorem k_X4_isRest_31 : look a_X4_isRest 31 = vAload 0 32 := rfl
theorem k_X4_isRest_32 : look a_X4_isRest 32 = vI 1 33 := rfl
theorem k_X4_isRest_33 : look a_X4_isRest 33 = vIload 1 34 := rfl
theorem k_X4_isRest_34 : look a_X4_isRest 34 = vIload 3 35 := rfl
theorem k_X4_isRest_35 : look a_X4_isRest 35 = vCallM w_X4_gain 20 3 38 := rfl
theorem k_X4_isRest_38 : look a_X4_isRest 38 = vAload 0 39 := rfl
theorem k_X4_isRest_39 : look a_X4_isRest 39 = vI 1 40 := rfl
theorem k_X4_isRest_40 : look a_X4_isRest 40 = vIload 1 41 := rfl
theorem k_X4_isRest_41 : look a_X4_isRest 41 = vIload 2 42 := rfl
theorem k_X4_isRest_42 : look a_X4_isRest 42 = vCallM w_X4_gain 20 3 45 := rfl
theorem k_X4_isRest_45 : look a_X4_isRest 45 = vIcLe 50 48 := rfl
theorem k_X4_isRest_48 : look a_X4_isRest 48 = vI 0 49 := rfl
theorem k_X4_isRest_49 : look a_X4_isRest 49 = vZret := rfl
theorem k_X4_isRest_50 : look a_X4_isRest 50 = vIinc 3 1 53 := rfl
theorem k_X4_isRest_53 : look a_X4_isRest 53 = vGoto 2 := rfl
theorem k_X4_isRest_56 : look a_X4_isRest 56 = vI 1 57 := rfl
theorem k_X4_isRest_57 : look a_X4_isRest 57 = vZret := rfl
theorem o_X4_isRest {X : amX} (e1 : XT X = TT) (e2 : XD X = 2) (hB : amB X RX4 cX4_isRest (some .boolean) 4) : ∀ pc, amOK X pc (look a_X4_isRest pc) := by
  have hT : amTok (XT X) := e1 ▸ TT_ok
  refine look_ok ?_
  unfold a_X4_isRest
  refine fc (ok_iconst hB dX4_isRest_0) ?_
  refine fc (ok_istore_n hB (by decide) dX4_isRest_1) ?_
  refine fc (ok_iload_n hB dX4_isRest_2) ?_
  refine fc (ok_aload_n hB dX4_isRest_3) ?_
  refine fc (okt_getR e1 hB hT fl_X4_15 rfl af_4_0 at_4_0 (by decide) dX4_isRest_4) ?_
  refine fc (ok_iconst hB dX4_isRest_7) ?_
  refine fc (ok_callM hB hT (e1 ▸ s_X6_many) lk_X4_25 (by rw [e2]; decide) (c := 6) rfl rfl rfl wd_557 wd_558 dX4_isRest_8) ?_
  refine fc (ok_icmp_ge hB (t := 56) (by decide) dX4_isRest_11) ?_
  refine fc (ok_aload_n hB dX4_isRest_14) ?_
  refine fc (ok_iconst hB dX4_isRest_15) ?_
  refine fc (ok_iload_n hB dX4_isRest_16) ?_
  refine fc (ok_iload_n hB dX4_isRest_17) ?_
  refine fc (ok_callM hB hT (e1 ▸ s_X4_gain) lk_X4_66 (by rw [e2]; decide) (c := 4) rfl rfl rfl wd_1114 wd_1115 dX4_isRest_18) ?_
  refine fc (ok_aload_n hB dX4_isRest_21) ?_
  refine fc (ok_iconst hB dX4_isRest_22) ?_
  refine fc (ok_iload_n hB dX4_isRest_23) ?_
  refine fc (ok_iload_n hB dX4_isRest_24) ?_
  refine fc (ok_callM hB hT (e1 ▸ s_X4_gain) lk_X4_66 (by rw [e2]; decide) (c := 4) rfl rfl rfl wd_1114 wd_1115 dX4_isRest_25) ?_
  refine fc (ok_icmp_gt hB (t := 48) (by decide) dX4_isRest_28) ?_
  refine fc (ok_aload_n hB dX4_isRest_31) ?_
  refine fc (ok_iconst hB dX4_isRest_32) ?_
  refine fc (ok_iload_n hB dX4_isRest_33) ?_
  refine fc (ok_iload_n hB dX4_isRest_34) ?_
  refine fc (ok_callM hB hT (e1 ▸ s_X4_gain) lk_X4_66 (by rw [e2]; decide) (c := 4) rfl rfl rfl wd_1114 wd_1115 dX4_isRest_35) ?_
  refine fc (ok_aload_n hB dX4_isRest_38) ?_
  refine fc (ok_iconst hB dX4_isRest_39) ?_
  refine fc (ok_iload_n hB dX4_isRest_40) ?_
  refine fc (ok_iload_n hB dX4_isRest_41) ?_
  refine fc (ok_callM hB hT (e1 ▸ s_X4_gain) lk_X4_66 (by rw [e2]; decide) (c := 4) rfl rfl rfl wd_1114 wd_1115 dX4_isRest_42) ?_
  refine fc (ok_icmp_le hB (t := 50) (by decide) dX4_isRest_45) ?_
  refine fc (ok_iconst hB dX4_isRest_48) ?_
  refine fc (ok_zret hB dX4_isRest_49) ?_
  refine fc (ok_iinc hB (by decide) dX4_isRest_50) ?_
  refine fc (ok_goto hB (t := 2) (by decide) dX4_isRest_53) ?_
  refine fc (ok_iconst hB dX4_isRest_56) ?_
  refine fc (ok_zret hB dX4_isRest_57) ?_
  exact fn
def rstP (g : Int → Int) (x y n : Int) : Prop := ∀ o : Int, 0 ≤ o → o < n → gnF g 0 o y ≤ gnF g 0 x y ∧ gnF g 1 x o ≤ gnF g 1 x y
def inv_rst (σ : Mem) (x y : Int) (n pc : Nat) (ls st : List AV) (σ' : Mem) : Prop := pc = 2 ∧ st = [] ∧ σ' = σ ∧ ∃ k : Nat, ls = [(20, 39), (0, x), (0, y), (0, (k : Int))] ∧ (k : Int) + n = pcnt σ 6 3 ∧ rstP (σ 40) x y k
def w_X4_isRest : WP := fun av σ Q => ∃ (x : Int) (y : Int), av = [(20, 39), (0, x), (0, y)] ∧ (0 ≤ x ∧ x < pcnt σ 6 3 ∧ 0 ≤ y ∧ y < pcnt σ 6 3 ∧ 0 ≤ pcnt σ 6 3 ∧ pcnt σ 6 3 ≤ 6 ∧ (∀ j, 0 ≤ j → j < 4 * pcnt σ 6 3 → InR (σ 40 j)) ∧ (rstP (σ 40) x y (pcnt σ 6 3) → Q (0, 1) σ) ∧ (¬ rstP (σ 40) x y (pcnt σ 6 3) → Q (0, 0) σ))
theorem w_X4_isRest_e (x : Int) (y : Int) (σ : Mem) (Q : AV → Mem → Prop) : w_X4_isRest [(20, 39), (0, x), (0, y)] σ Q = (0 ≤ x ∧ x < pcnt σ 6 3 ∧ 0 ≤ y ∧ y < pcnt σ 6 3 ∧ 0 ≤ pcnt σ 6 3 ∧ pcnt σ 6 3 ≤ 6 ∧ (∀ j, 0 ≤ j → j < 4 * pcnt σ 6 3 → InR (σ 40 j)) ∧ (rstP (σ 40) x y (pcnt σ 6 3) → Q (0, 1) σ) ∧ (¬ rstP (σ 40) x y (pcnt σ 6 3) → Q (0, 0) σ)) := by
  apply propext; constructor
  · rintro ⟨x', y', h9, hb9⟩; cases h9; exact hb9
  · intro hb9; exact ⟨x, y, rfl, hb9⟩

set_option maxRecDepth 100000 in
set_option maxHeartbeats 4000000 in
theorem s_X4_isRest : ∀ av σ Q, w_X4_isRest av σ Q → amCall 2 0 0 TT yX4_isRest cX4_isRest 4 (some .boolean) av σ Q := by
  rintro av σ Q ⟨x, y, rfl, hx0, hx1, hy0, hy1, c0, c1, hr, hy, hn⟩
  have gr : ∀ w a b : Int, (w = 0 ∨ w = 1) → 0 ≤ a → a < pcnt σ 6 3 → 0 ≤ b → b < pcnt σ 6 3 → InR (gnF (σ 40) w a b) := fun w a b hw a0 a1 b0 b1 => by
    unfold gnF
    have e1 : 0 ≤ (if w = 0 then a else b) ∧ (if w = 0 then a else b) < pcnt σ 6 3 := by split <;> omega
    have e2 : 0 ≤ (if a = b then (1 : Int) else 0) ∧ (if a = b then (1 : Int) else 0) ≤ 1 := by split <;> omega
    exact hr _ (by omega) (by omega)
  refine am_m [2] (inv_rst σ x y) (own := RX4) (A := look a_X4_isRest) (fun X e1 e2 hB => o_X4_isRest e1 e2 hB) rfl (by decide +kernel) rfl rfl ?_ ⟨60, ?_⟩ (w := 4)
  · rintro n pc ls st σ' ⟨rfl, rfl, rfl, k, rfl, hk, hrk⟩
    refine ⟨90, ?_⟩
    simp only [↓reduceIte, inR_0, inR_1, inR_m, vSw2_e, swP_n, swP_c, vI_e, vL_e, vNull_e, vIload_e, vLload_e, vAload_e, vIstore_e, vLstore_e, vAstore_e, vIinc_e, vIadd_e, vIsub_e, vImul_e, vIand_e, vIor_e, vIxor_e, vIshl_e, vIshr_e, vIushr_e, vIdiv_e, vIrem_e, vLadd_e, vLsub_e, vLmul_e, vLand_e, vLor_e, vLxor_e, vLdiv_e, vLrem_e, vLushr_e, vLshl_e, vLcmp_e, vIneg_e, vI2l_e, vL2i_e, vI2b_e, vI2c_e, vDup_e, vPop_e, vDup2_e, vGoto_e, vIcEq_e, vIfEq_e, vIcNe_e, vIfNe_e, vIcLt_e, vIfLt_e, vIcGe_e, vIfGe_e, vIcGt_e, vIfGt_e, vIcLe_e, vIfLe_e, vNonnull_e, vSw_e, vGetI_e, vGetL_e, vGetR_e, vPutI_e, vPutZ_e, vPutL_e, vPutR_e, vIald_e, vIald_s, vLald_e, vBald_e, vBald_s, vAald_e, vIast_e, vLast_e, vBast_e, vAast_e, vAlen_e8, vAlen_e9, vAlen_e10, vAlen_e11, vAlen_e5, vAlen_e3, vGets_e, vCompact_e, vLdcS_e, vIret_e, vZret_e, vCret_e, vBret_e, vLret_e, vVret_e, vAret_e, vCallM_e0, vCallMV_e0, vCallS_e0, vCallSV_e0, vCallM_e1, vCallMV_e1, vCallS_e1, vCallSV_e1, vCallM_e2, vCallMV_e2, vCallS_e2, vCallSV_e2, vCallM_e3, vCallMV_e3, vCallS_e3, vCallSV_e3, vCallM_e4, vCallMV_e4, vCallS_e4, vCallSV_e4, vCallM_e5, vCallMV_e5, vCallS_e5, vCallSV_e5, vCallM_e6, vCallMV_e6, vCallS_e6, vCallSV_e6, vCallM_e7, vCallMV_e7, vCallS_e7, vCallSV_e7, vBad_e, vStrVal_e, vStrCod_e, vForm_e, vCallT_e0, vCallT_e1, vCallT_e2, vCopy_e, rf_0_0, rf_0_1, rf_0_2, rf_0_3, rf_0_4, rf_0_7, rf_0_10, rf_0_11, rf_0_12, rf_0_13, rf_0_14, rf_0_15, rf_0_16, rf_1_0, rf_3_0, rf_3_1, rf_6_0, rf_6_1, rf_9_0, rf_9_1, rf_9_3, rf_13_0, rf_13_1, rf_13_2, rf_16_0, rf_16_1, rf_16_2, rf_16_3, rf_21_0, rf_21_1, rf_21_2, rf_21_3, rf_26_0, rf_26_1, rf_26_2, rf_26_3, rf_26_4, rf_26_5, rf_26_6, rf_31_0, rf_31_2, rf_31_5, rf_31_6, rf_36_0, rf_36_1, rf_36_2, rf_36_3, rf_39_0, rf_39_1, rf_39_2, rf_41_0, rf_41_1, rf_41_2, rf_41_3, rf_5000_1, rf_5000_2, rf_5000_3, rf_5000_4, rf_5000_5, rf_5000_15, rf_5000_16, rf_5000_18, rf_5000_19, rf_5000_20, rf_5000_21, rf_5000_22, rf_5000_23, rf_5000_24, rf_5000_25, rf_5000_26, rf_5000_27, rf_5000_36, rf_5000_37, rf_5000_40, rf_5000_41, rf_5000_42, rf_5000_43, rf_5000_44, rf_5000_45, rf_5000_47, rf_5000_52, rf_5000_54, rf_5000_55, rf_100_0, rf_100_1, rf_103_0, rf_103_1, rf_106_0, rf_106_1, rf_109_0, rf_109_1, al_2, al_4, al_5, al_7, al_8, al_10, al_11, al_12, al_14, al_15, al_17, al_18, al_19, al_20, al_22, al_23, al_24, al_25, al_27, al_28, al_29, al_30, al_32, al_33, al_34, al_35, al_37, al_38, al_40, al_42, al_5001, al_5002, al_5003, al_5004, al_5005, al_5006, al_5007, al_5008, al_5009, al_5010, al_5011, al_5012, al_5013, al_5014, al_5015, al_5016, al_5017, al_5018, al_5019, al_5020, al_5021, al_5022, al_5023, al_5024, al_5025, al_5026, al_9000, al_101, al_102, al_104, al_105, al_107, al_108, al_110, al_111, vcs_e, lg_c0, lg_cs, lg_nil, set_c0, set_cs, okst_0, okst_s, acok_n, acok_c, List.contains_nil, List.contains_cons, Bool.or_false, Bool.false_or, Bool.false_eq_true, if_false, if_true, ite_self, ne_eq, true_and, and_true, not_false_eq_true, not_true_eq_false, false_imp_iff, true_imp_iff, Nat.ble_eq, Bool.and_eq_true, reduceCtorEq, or_false, false_or, or_true, true_or, false_and, and_false, and_self, Int.reduceLE, Int.reduceAdd, Int.reduceSub, Int.reduceMul, Int.reduceNeg, Int.reduceLT, Int.reduceEq, Int.reduceNe, Nat.reduceBEq, Nat.reduceBNe, Nat.reduceEqDiff, amCmp_in, amCmp_lt, amCmp_le, amCmp_gt, amCmp_ge, amCmp_eq, amCmp_ne, Nat.reduceLeDiff, Nat.reduceSub, Bool.and_true, Bool.true_and, Bool.and_self, Bool.or_true, Bool.true_or, isRf_3, isRf_4, isRf_5, isRf_8, isRf_9, isRf_10, isRf_11, isRf_15, isRf_16, isRf_17, isRf_18, isRf_19, isRf_20, isRf_21, isRf_22, isRf_23, isRf_24, isRf_25, isRf_26, isRf_27, isRf_28, k_X4_isRest_0, k_X4_isRest_1, k_X4_isRest_2, k_X4_isRest_3, k_X4_isRest_4, k_X4_isRest_7, k_X4_isRest_8, k_X4_isRest_11, k_X4_isRest_14, k_X4_isRest_15, k_X4_isRest_16, k_X4_isRest_17, k_X4_isRest_18, k_X4_isRest_21, k_X4_isRest_22, k_X4_isRest_23, k_X4_isRest_24, k_X4_isRest_25, k_X4_isRest_28, k_X4_isRest_31, k_X4_isRest_32, k_X4_isRest_33, k_X4_isRest_34, k_X4_isRest_35, k_X4_isRest_38, k_X4_isRest_39, k_X4_isRest_40, k_X4_isRest_41, k_X4_isRest_42, k_X4_isRest_45, k_X4_isRest_48, k_X4_isRest_49, k_X4_isRest_50, k_X4_isRest_53, k_X4_isRest_56, k_X4_isRest_57, w_X4_gain_e, w_X6_many_e]
    by_cases hlt : (k : Int) < pcnt σ' 6 3
    · have g1 := gr 0 k y (Or.inl rfl) (by omega) (by omega) hy0 hy1
      have g2 := gr 0 x y (Or.inl rfl) hx0 hx1 hy0 hy1
      have g3 := gr 1 x k (Or.inr rfl) hx0 hx1 (by omega) (by omega)
      have g4 := gr 1 x y (Or.inr rfl) hx0 hx1 hy0 hy1
      by_cases c : gnF (σ' 40) 0 k y ≤ gnF (σ' 40) 0 x y ∧ gnF (σ' 40) 1 x k ≤ gnF (σ' 40) 1 x y
      · have i9 : ∃ k', k' < n ∧ inv_rst σ' x y k' 2 [(20, 39), (0, x), (0, y), (0, (k : Int) + 1)] [] σ' := ⟨n - 1, by omega, rfl, rfl, rfl, k + 1, rfl, by omega, fun o o0 o1 => by
          by_cases e : o = k
          · rw [e]; exact c
          · exact hrk o o0 (by omega)⟩
        repeat' (first | assumption | apply And.intro | intro _)
        all_goals first | omega | exact absurd trivial (by assumption) | exact Or.inr rfl | exact i9
      · have hh := hn (fun q => c (q k (by omega) hlt))
        repeat' (first | assumption | apply And.intro | intro _)
        all_goals first | omega | exact absurd trivial (by assumption) | exact Or.inr rfl | exact hh
    · have hh := hy (by rw [show pcnt σ' 6 3 = (k : Int) by omega]; exact hrk)
      repeat' (first | assumption | apply And.intro | intro _)
      all_goals first | omega | exact absurd trivial (by assumption) | exact Or.inr rfl | exact hh
  · change vcs _ _ _ _ 60 0 [(20, 39), (0, x), (0, y), (6, 0)] [] σ
    simp only [↓reduceIte, inR_0, inR_1, inR_m, vI_e, vL_e, vNull_e, vIload_e, vLload_e, vAload_e, vIstore_e, vLstore_e, vAstore_e, vIinc_e, vIadd_e, vIsub_e, vImul_e, vIand_e, vIor_e, vIxor_e, vIshl_e, vIshr_e, vIushr_e, vIdiv_e, vIrem_e, vLadd_e, vLsub_e, vLmul_e, vLand_e, vLor_e, vLxor_e, vLdiv_e, vLrem_e, vLushr_e, vLshl_e, vLcmp_e, vIneg_e, vI2l_e, vL2i_e, vI2b_e, vI2c_e, vDup_e, vPop_e, vDup2_e, vGoto_e, vIcEq_e, vIfEq_e, vIcNe_e, vIfNe_e, vIcLt_e, vIfLt_e, vIcGe_e, vIfGe_e, vIcGt_e, vIfGt_e, vIcLe_e, vIfLe_e, vNonnull_e, vSw_e, vGetI_e, vGetL_e, vGetR_e, vPutI_e, vPutZ_e, vPutL_e, vPutR_e, vIald_e, vIald_s, vLald_e, vBald_e, vBald_s, vAald_e, vIast_e, vLast_e, vBast_e, vAast_e, vAlen_e8, vAlen_e9, vAlen_e10, vAlen_e11, vAlen_e5, vAlen_e3, vGets_e, vCompact_e, vLdcS_e, vIret_e, vZret_e, vCret_e, vBret_e, vLret_e, vVret_e, vAret_e, vCallM_e0, vCallMV_e0, vCallS_e0, vCallSV_e0, vCallM_e1, vCallMV_e1, vCallS_e1, vCallSV_e1, vCallM_e2, vCallMV_e2, vCallS_e2, vCallSV_e2, vCallM_e3, vCallMV_e3, vCallS_e3, vCallSV_e3, vCallM_e4, vCallMV_e4, vCallS_e4, vCallSV_e4, vCallM_e5, vCallMV_e5, vCallS_e5, vCallSV_e5, vCallM_e6, vCallMV_e6, vCallS_e6, vCallSV_e6, vCallM_e7, vCallMV_e7, vCallS_e7, vCallSV_e7, vBad_e, vStrVal_e, vStrCod_e, vForm_e, vCallT_e0, vCallT_e1, vCallT_e2, vCopy_e, rf_0_0, rf_0_1, rf_0_2, rf_0_3, rf_0_4, rf_0_7, rf_0_10, rf_0_11, rf_0_12, rf_0_13, rf_0_14, rf_0_15, rf_0_16, rf_1_0, rf_3_0, rf_3_1, rf_6_0, rf_6_1, rf_9_0, rf_9_1, rf_9_3, rf_13_0, rf_13_1, rf_13_2, rf_16_0, rf_16_1, rf_16_2, rf_16_3, rf_21_0, rf_21_1, rf_21_2, rf_21_3, rf_26_0, rf_26_1, rf_26_2, rf_26_3, rf_26_4, rf_26_5, rf_26_6, rf_31_0, rf_31_2, rf_31_5, rf_31_6, rf_36_0, rf_36_1, rf_36_2, rf_36_3, rf_39_0, rf_39_1, rf_39_2, rf_41_0, rf_41_1, rf_41_2, rf_41_3, rf_5000_1, rf_5000_2, rf_5000_3, rf_5000_4, rf_5000_5, rf_5000_15, rf_5000_16, rf_5000_18, rf_5000_19, rf_5000_20, rf_5000_21, rf_5000_22, rf_5000_23, rf_5000_24, rf_5000_25, rf_5000_26, rf_5000_27, rf_5000_36, rf_5000_37, rf_5000_40, rf_5000_41, rf_5000_42, rf_5000_43, rf_5000_44, rf_5000_45, rf_5000_47, rf_5000_52, rf_5000_54, rf_5000_55, rf_100_0, rf_100_1, rf_103_0, rf_103_1, rf_106_0, rf_106_1, rf_109_0, rf_109_1, al_2, al_4, al_5, al_7, al_8, al_10, al_11, al_12, al_14, al_15, al_17, al_18, al_19, al_20, al_22, al_23, al_24, al_25, al_27, al_28, al_29, al_30, al_32, al_33, al_34, al_35, al_37, al_38, al_40, al_42, al_5001, al_5002, al_5003, al_5004, al_5005, al_5006, al_5007, al_5008, al_5009, al_5010, al_5011, al_5012, al_5013, al_5014, al_5015, al_5016, al_5017, al_5018, al_5019, al_5020, al_5021, al_5022, al_5023, al_5024, al_5025, al_5026, al_9000, al_101, al_102, al_104, al_105, al_107, al_108, al_110, al_111, vcs_e, lg_c0, lg_cs, lg_nil, set_c0, set_cs, okst_0, okst_s, acok_n, acok_c, List.contains_nil, List.contains_cons, Bool.or_false, Bool.false_or, Bool.false_eq_true, if_false, if_true, ite_self, ne_eq, true_and, and_true, not_false_eq_true, not_true_eq_false, false_imp_iff, true_imp_iff, Nat.ble_eq, Bool.and_eq_true, reduceCtorEq, or_false, false_or, or_true, true_or, false_and, and_false, and_self, Int.reduceLE, Int.reduceAdd, Int.reduceSub, Int.reduceMul, Int.reduceNeg, Int.reduceLT, Int.reduceEq, Int.reduceNe, Nat.reduceBEq, Nat.reduceBNe, Nat.reduceEqDiff, amCmp_in, amCmp_lt, amCmp_le, amCmp_gt, amCmp_ge, amCmp_eq, amCmp_ne, Nat.reduceLeDiff, Nat.reduceSub, Bool.and_true, Bool.true_and, Bool.and_self, Bool.or_true, Bool.true_or, isRf_3, isRf_4, isRf_5, isRf_8, isRf_9, isRf_10, isRf_11, isRf_15, isRf_16, isRf_17, isRf_18, isRf_19, isRf_20, isRf_21, isRf_22, isRf_23, isRf_24, isRf_25, isRf_26, isRf_27, isRf_28, k_X4_isRest_0, k_X4_isRest_1, k_X4_isRest_2, k_X4_isRest_3, k_X4_isRest_4, k_X4_isRest_7, k_X4_isRest_8, k_X4_isRest_11, k_X4_isRest_14, k_X4_isRest_15, k_X4_isRest_16, k_X4_isRest_17, k_X4_isRest_18, k_X4_isRest_21, k_X4_isRest_22, k_X4_isRest_23, k_X4_isRest_24, k_X4_isRest_25, k_X4_isRest_28, k_X4_isRest_31, k_X4_isRest_32, k_X4_isRest_33, k_X4_isRest_34, k_X4_isRest_35, k_X4_isRest_38, k_X4_isRest_39, k_X4_isRest_40, k_X4_isRest_41, k_X4_isRest_42, k_X4_isRest_45, k_X4_isRest_48, k_X4_isRest_49, k_X4_isRest_50, k_X4_isRest_53, k_X4_isRest_56, k_X4_isRest_57]
    exact ⟨(pcnt σ 6 3).toNat, rfl, rfl, rfl, 0, rfl, by omega, fun o o0 o1 => by omega⟩
