/-! ArmchairHouse: FAULT, HOUSES, SEASONS -/

theorem wd_314 : Cond.fieldLink RX11 19 "ArmchairHouse" "draft" "LArmchairHouse$Plan;" ∈ TBL := tb_tab (List.mem_of_getElem? (i := 314) (by decide +kernel)) rfl
theorem fl_X11_19 : amFl RX11 11 1 19 RX11 TX11 17 := ⟨rfl, inT_11, by decide, wd_314⟩
theorem wd_384 : Cond.methodLink RX11 124 yX6_read ∈ TBL := tb_tab (List.mem_of_getElem? (i := 384) (by decide +kernel)) rfl
theorem wd_387 : Cond.code yX6_read cX6_read 4 (some .int) ∈ TBL := tb_tab (List.mem_of_getElem? (i := 387) (by decide +kernel)) rfl
theorem lk_X11_124 : amLk RX11 124 yX6_read cX6_read 4 (some .int) 1 := ⟨wd_384, wd_3, wd_387, by decide +kernel, by decide +kernel, by decide⟩
theorem wd_385 : Cond.instanceMethod yX6_read ∈ TBL := tb_tab (List.mem_of_getElem? (i := 385) (by decide +kernel)) rfl
theorem wd_386 : Cond.selects RX6 yX6_read yX6_read ∈ TBL := tb_tab (List.mem_of_getElem? (i := 386) (by decide +kernel)) rfl
theorem wd_316 : Cond.fieldLink RX11 31 "ArmchairHouse" "lawReader" "LArmchairHouse$LawReader;" ∈ TBL := tb_tab (List.mem_of_getElem? (i := 316) (by decide +kernel)) rfl
theorem fl_X11_31 : amFl RX11 11 3 31 RX11 TX11 17 := ⟨rfl, inT_11, by decide, wd_316⟩
theorem wd_568 : Cond.methodLink RX11 128 yX3_read ∈ TBL := tb_tab (List.mem_of_getElem? (i := 568) (by decide +kernel)) rfl
theorem wd_571 : Cond.code yX3_read cX3_read 2 (some .int) ∈ TBL := tb_tab (List.mem_of_getElem? (i := 571) (by decide +kernel)) rfl
theorem lk_X11_128 : amLk RX11 128 yX3_read cX3_read 2 (some .int) 0 := ⟨wd_568, wd_4, wd_571, by decide +kernel, by decide +kernel, by decide⟩
theorem wd_569 : Cond.instanceMethod yX3_read ∈ TBL := tb_tab (List.mem_of_getElem? (i := 569) (by decide +kernel)) rfl
theorem wd_570 : Cond.selects RX3 yX3_read yX3_read ∈ TBL := tb_tab (List.mem_of_getElem? (i := 570) (by decide +kernel)) rfl
theorem wd_633 : Cond.methodLink RX11 131 yX7_read ∈ TBL := tb_tab (List.mem_of_getElem? (i := 633) (by decide +kernel)) rfl
theorem wd_636 : Cond.code yX7_read cX7_read 3 (some .int) ∈ TBL := tb_tab (List.mem_of_getElem? (i := 636) (by decide +kernel)) rfl
theorem lk_X11_131 : amLk RX11 131 yX7_read cX7_read 3 (some .int) 0 := ⟨wd_633, wd_5, wd_636, by decide +kernel, by decide +kernel, by decide⟩
theorem wd_634 : Cond.instanceMethod yX7_read ∈ TBL := tb_tab (List.mem_of_getElem? (i := 634) (by decide +kernel)) rfl
theorem wd_635 : Cond.selects RX7 yX7_read yX7_read ∈ TBL := tb_tab (List.mem_of_getElem? (i := 635) (by decide +kernel)) rfl
def a_X11_fault : AC := [(0, vIload 1 1), (1, vSw2 [(0, 28), (1, 40), (2, 48)] 56), (28, vAload 0 29), (29, vGetR TT 27 1 22 32), (32, vAload 0 33), (33, vGetR TT 27 0 26 36), (36, vCallM w_X6_read 22 1 39), (39, vIret), (40, vAload 0 41), (41, vGetR TT 27 3 19 44), (44, vCallM w_X3_read 19 0 47), (47, vIret), (48, vAload 0 49), (49, vGetR TT 27 7 23 52), (52, vCallM w_X7_read 23 0 55), (55, vIret), (56, vI (-2) 58), (58, vIret)]
theorem k_X11_fault_0 : look a_X11_fault 0 = vIload 1 1 := rfl
theorem k_X11_fault_1 : look a_X11_fault 1 = vSw2 [(0, 28), (1, 40), (2, 48)] 56 := rfl
theorem k_X11_fault_28 : look a_X11_fault 28 = vAload 0 29 := rfl
theorem k_X11_fault_29 : look a_X11_fault 29 = vGetR TT 27 1 22 32 := rfl
theorem k_X11_fault_32 : look a_X11_fault 32 = vAload 0 33 := rfl
theorem k_X11_fault_33 : look a_X11_fault 33 = vGetR TT 27 0 26 36 := rfl
theorem k_X11_fault_36 : look a_X11_fault 36 = vCallM w_X6_read 22 1 39 := rfl
theorem k_X11_fault_39 : look a_X11_fault 39 = vIret := rfl
theorem k_X11_fault_40 : look a_X11_fault 40 = vAload 0 41 := rfl
theorem k_X11_fault_41 : look a_X11_fault 41 = vGetR TT 27 3 19 44 := rfl
theorem k_X11_fault_44 : look a_X11_fault 44 = vCallM w_X3_read 19 0 47 := rfl
theorem k_X11_fault_47 : look a_X11_fault 47 = vIret := rfl
theorem k_X11_fault_48 : look a_X11_fault 48 = vAload 0 49 := rfl
theorem k_X11_fault_49 : look a_X11_fault 49 = vGetR TT 27 7 23 52 := rfl
theorem k_X11_fault_52 : look a_X11_fault 52 = vCallM w_X7_read 23 0 55 := rfl
theorem k_X11_fault_55 : look a_X11_fault 55 = vIret := rfl
theorem k_X11_fault_56 : look a_X11_fault 56 = vI (-2) 58 := rfl
theorem k_X11_fault_58 : look a_X11_fault 58 = vIret := rfl
theorem o_X11_fault {X : amX} (e1 : XT X = TT) (e2 : XD X = 8) (hB : amB X RX11 cX11_fault (some .int) 2) : ∀ pc, amOK X pc (look a_X11_fault pc) := by
  have hT : amTok (XT X) := e1 ▸ TT_ok
  refine look_ok ?_
  unfold a_X11_fault
  refine fc (ok_iload_n hB dX11_fault_0) ?_
  refine fc (ok_sw2 (by decide) (ok_tableswitch hB [(0, 28), (1, 40), (2, 48)] dX11_fault_1 (by decide) (by decide) (by decide) (by decide))) ?_
  refine fc (ok_aload_n hB dX11_fault_28) ?_
  refine fc (okt_getR e1 hB hT fl_X11_19 rfl af_11_1 at_11_1 (by decide) dX11_fault_29) ?_
  refine fc (ok_aload_n hB dX11_fault_32) ?_
  refine fc (okt_getR e1 hB hT fl_X11_10 rfl af_11_0 at_11_0 (by decide) dX11_fault_33) ?_
  refine fc (ok_callM hB hT (e1 ▸ s_X6_read) lk_X11_124 (by rw [e2]; decide) (c := 6) rfl rfl rfl wd_385 wd_386 dX11_fault_36) ?_
  refine fc (ok_iret hB dX11_fault_39) ?_
  refine fc (ok_aload_n hB dX11_fault_40) ?_
  refine fc (okt_getR e1 hB hT fl_X11_31 rfl af_11_3 at_11_3 (by decide) dX11_fault_41) ?_
  refine fc (ok_callM hB hT (e1 ▸ s_X3_read) lk_X11_128 (by rw [e2]; decide) (c := 3) rfl rfl rfl wd_569 wd_570 dX11_fault_44) ?_
  refine fc (ok_iret hB dX11_fault_47) ?_
  refine fc (ok_aload_n hB dX11_fault_48) ?_
  refine fc (okt_getR e1 hB hT fl_X11_51 rfl af_11_7 at_11_7 (by decide) dX11_fault_49) ?_
  refine fc (ok_callM hB hT (e1 ▸ s_X7_read) lk_X11_131 (by rw [e2]; decide) (c := 7) rfl rfl rfl wd_634 wd_635 dX11_fault_52) ?_
  refine fc (ok_iret hB dX11_fault_55) ?_
  refine fc (ok_bipush hB dX11_fault_56 (by decide)) ?_
  refine fc (ok_iret hB dX11_fault_58) ?_
  exact fn

def w_X11_fault : WP := fun av σ Q => ∃ (w : Int), av = [(27, 0), (0, w)] ∧ (InR w ∧ (w < 0 ∨ 2 < w → Q (0, -2) σ) ∧ (w = 0 → w_X6_read [(22, 3), (26, 1)] σ Q) ∧ (w = 1 → w_X3_read [(19, 9)] σ Q) ∧ (w = 2 → w_X7_read [(23, 13)] σ Q))
theorem w_X11_fault_e (w : Int) (σ : Mem) (Q : AV → Mem → Prop) : w_X11_fault [(27, 0), (0, w)] σ Q = (InR w ∧ (w < 0 ∨ 2 < w → Q (0, -2) σ) ∧ (w = 0 → w_X6_read [(22, 3), (26, 1)] σ Q) ∧ (w = 1 → w_X3_read [(19, 9)] σ Q) ∧ (w = 2 → w_X7_read [(23, 13)] σ Q)) := by
  apply propext; constructor
  · rintro ⟨w', h9, hb9⟩; cases h9; exact hb9
  · intro hb9; exact ⟨w, rfl, hb9⟩

set_option maxRecDepth 100000 in
set_option maxHeartbeats 4000000 in
theorem s_X11_fault : ∀ av σ Q, w_X11_fault av σ Q → amCall 8 0 0 TT yX11_fault cX11_fault 2 (some .int) av σ Q := by
  rintro av σ Q ⟨w, rfl, hw, h1, h2, h3, h4⟩
  simp only [w_X6_read_e, w_X3_read_e, w_X7_read_e] at h2 h3 h4
  refine am_m0 (own := RX11) (A := look a_X11_fault) (fun X e1 e2 hB => o_X11_fault e1 e2 hB) rfl (by decide +kernel) rfl rfl 190 (w := 2) ?_
  change vcs _ _ _ _ 190 0 [(27, 0), (0, w)] [] σ
  simp only [↓reduceIte, inR_0, inR_1, inR_m, vSw2_e, swP_n, swP_c, vI_e, vL_e, vNull_e, vIload_e, vLload_e, vAload_e, vIstore_e, vLstore_e, vAstore_e, vIinc_e, vIadd_e, vIsub_e, vImul_e, vIand_e, vIor_e, vIxor_e, vIshl_e, vIshr_e, vIushr_e, vIdiv_e, vIrem_e, vLadd_e, vLsub_e, vLmul_e, vLand_e, vLor_e, vLxor_e, vLdiv_e, vLrem_e, vLushr_e, vLshl_e, vLcmp_e, vIneg_e, vI2l_e, vL2i_e, vI2b_e, vI2c_e, vDup_e, vPop_e, vDup2_e, vGoto_e, vIcEq_e, vIfEq_e, vIcNe_e, vIfNe_e, vIcLt_e, vIfLt_e, vIcGe_e, vIfGe_e, vIcGt_e, vIfGt_e, vIcLe_e, vIfLe_e, vNonnull_e, vSw_e, vGetI_e, vGetL_e, vGetR_e, vPutI_e, vPutZ_e, vPutL_e, vPutR_e, vIald_e, vIald_s, vLald_e, vBald_e, vBald_s, vAald_e, vIast_e, vLast_e, vBast_e, vAast_e, vAlen_e8, vAlen_e9, vAlen_e10, vAlen_e11, vAlen_e5, vAlen_e3, vGets_e, vCompact_e, vLdcS_e, vIret_e, vZret_e, vCret_e, vBret_e, vLret_e, vVret_e, vAret_e, vCallM_e0, vCallMV_e0, vCallS_e0, vCallSV_e0, vCallM_e1, vCallMV_e1, vCallS_e1, vCallSV_e1, vCallM_e2, vCallMV_e2, vCallS_e2, vCallSV_e2, vCallM_e3, vCallMV_e3, vCallS_e3, vCallSV_e3, vCallM_e4, vCallMV_e4, vCallS_e4, vCallSV_e4, vCallM_e5, vCallMV_e5, vCallS_e5, vCallSV_e5, vCallM_e6, vCallMV_e6, vCallS_e6, vCallSV_e6, vCallM_e7, vCallMV_e7, vCallS_e7, vCallSV_e7, vBad_e, vStrVal_e, vStrCod_e, vForm_e, vCallT_e0, vCallT_e1, vCallT_e2, vCopy_e, rf_0_0, rf_0_1, rf_0_2, rf_0_3, rf_0_4, rf_0_7, rf_0_10, rf_0_11, rf_0_12, rf_0_13, rf_0_14, rf_0_15, rf_0_16, rf_1_0, rf_3_0, rf_3_1, rf_6_0, rf_6_1, rf_9_0, rf_9_1, rf_9_3, rf_13_0, rf_13_1, rf_13_2, rf_16_0, rf_16_1, rf_16_2, rf_16_3, rf_21_0, rf_21_1, rf_21_2, rf_21_3, rf_26_0, rf_26_1, rf_26_2, rf_26_3, rf_26_4, rf_26_5, rf_26_6, rf_31_0, rf_31_2, rf_31_5, rf_31_6, rf_36_0, rf_36_1, rf_36_2, rf_36_3, rf_39_0, rf_39_1, rf_39_2, rf_41_0, rf_41_1, rf_41_2, rf_41_3, rf_5000_1, rf_5000_2, rf_5000_3, rf_5000_4, rf_5000_5, rf_5000_15, rf_5000_16, rf_5000_18, rf_5000_19, rf_5000_20, rf_5000_21, rf_5000_22, rf_5000_23, rf_5000_24, rf_5000_25, rf_5000_26, rf_5000_27, rf_5000_36, rf_5000_37, rf_5000_40, rf_5000_41, rf_5000_42, rf_5000_43, rf_5000_44, rf_5000_45, rf_5000_47, rf_5000_52, rf_5000_54, rf_5000_55, rf_100_0, rf_100_1, rf_103_0, rf_103_1, rf_106_0, rf_106_1, rf_109_0, rf_109_1, al_2, al_4, al_5, al_7, al_8, al_10, al_11, al_12, al_14, al_15, al_17, al_18, al_19, al_20, al_22, al_23, al_24, al_25, al_27, al_28, al_29, al_30, al_32, al_33, al_34, al_35, al_37, al_38, al_40, al_42, al_5001, al_5002, al_5003, al_5004, al_5005, al_5006, al_5007, al_5008, al_5009, al_5010, al_5011, al_5012, al_5013, al_5014, al_5015, al_5016, al_5017, al_5018, al_5019, al_5020, al_5021, al_5022, al_5023, al_5024, al_5025, al_5026, al_9000, al_101, al_102, al_104, al_105, al_107, al_108, al_110, al_111, vcs_e, lg_c0, lg_cs, lg_nil, set_c0, set_cs, okst_0, okst_s, acok_n, acok_c, List.contains_nil, List.contains_cons, Bool.or_false, Bool.false_or, Bool.false_eq_true, if_false, if_true, ite_self, ne_eq, true_and, and_true, not_false_eq_true, not_true_eq_false, false_imp_iff, true_imp_iff, Nat.ble_eq, Bool.and_eq_true, reduceCtorEq, or_false, false_or, or_true, true_or, false_and, and_false, and_self, Int.reduceLE, Int.reduceAdd, Int.reduceSub, Int.reduceMul, Int.reduceNeg, Int.reduceLT, Int.reduceEq, Int.reduceNe, Nat.reduceBEq, Nat.reduceBNe, Nat.reduceEqDiff, amCmp_in, amCmp_lt, amCmp_le, amCmp_gt, amCmp_ge, amCmp_eq, amCmp_ne, Nat.reduceLeDiff, Nat.reduceSub, Bool.and_true, Bool.true_and, Bool.and_self, Bool.or_true, Bool.true_or, isRf_3, isRf_4, isRf_5, isRf_8, isRf_9, isRf_10, isRf_11, isRf_15, isRf_16, isRf_17, isRf_18, isRf_19, isRf_20, isRf_21, isRf_22, isRf_23, isRf_24, isRf_25, isRf_26, isRf_27, isRf_28, k_X11_fault_0, k_X11_fault_1, k_X11_fault_28, k_X11_fault_29, k_X11_fault_32, k_X11_fault_33, k_X11_fault_36, k_X11_fault_39, k_X11_fault_40, k_X11_fault_41, k_X11_fault_44, k_X11_fault_47, k_X11_fault_48, k_X11_fault_49, k_X11_fault_52, k_X11_fault_55, k_X11_fault_56, k_X11_fault_58, w_X3_read_e, w_X6_read_e, w_X7_read_e, up_s, up_nj, up_na, up_up, savR_o, cpy_o, fillm_o, setAud_o, setv_o, setv_s, Int.reduceNe, Int.reduceEq, Int.reduceLT, Int.reduceAdd, not_false_eq_true, ne_eq, or_true, true_or]
  by_cases c0 : w = 0
  · obtain ⟨a1, a2, a3, a4, a5⟩ := h2 c0
    repeat' (first | assumption | apply And.intro | intro _)
    all_goals first | omega | exact absurd trivial (by assumption) | exact a5
  by_cases c1 : w = 1
  · obtain ⟨a1, a2, a3⟩ := h3 c1
    repeat' (first | assumption | apply And.intro | intro _)
    all_goals first | omega | exact absurd trivial (by assumption) | exact a2 _ _ (by assumption) (by assumption) | exact a3 _ _ _ (by assumption) (by assumption) (by assumption) (by assumption) (by assumption)
  by_cases c2 : w = 2
  · obtain ⟨a1, a2, a3, a4⟩ := h4 c2
    repeat' (first | assumption | apply And.intro | intro _)
    all_goals first | omega | exact absurd trivial (by assumption) | exact a4 _ _ (by assumption)
  · repeat' (first | assumption | apply And.intro | intro _)
    all_goals first | omega | exact absurd trivial (by assumption) | exact h1 (by omega)
theorem fp_X11_161 : amFp RX11 7 3 161 RX7 TX7 4 tyX7 .int := ⟨fl_X11_161, tyX7_ok, nmX7, by decide +kernel⟩
def a_X11_takeSeason : AC := [(0, vAload 0 1), (1, vGetR TT 27 7 23 4), (4, vGetI 23 3 7), (7, vI 4 8), (8, vIcGe 22 11), (11, vAload 0 12), (12, vGetR TT 27 7 23 15), (15, vCallM w_X7_read 23 0 18), (18, vI (-1) 19), (19, vIcEq 24 22), (22, vI (-1) 23), (23, vIret), (24, vAload 0 25), (25, vGetR TT 27 7 23 28), (28, vDup 29), (29, vGetI 23 3 32), (32, vI 1 33), (33, vIadd 34), (34, vPutI 23 3 37), (37, vAload 0 38), (38, vGetR TT 27 0 26 41), (41, vI 0 42), (42, vPutI 26 1 45), (45, vAload 0 46), (46, vGetR TT 27 7 23 49), (49, vGetI 23 3 52), (52, vI 1 53), (53, vIsub 54), (54, vIret)]
theorem k_X11_takeSeason_0 : look a_X11_takeSeason 0 = vAload 0 1 := rfl
theorem k_X11_takeSeason_1 : look a_X11_takeSeason 1 = vGetR TT 27 7 23 4 := rfl
theorem k_X11_takeSeason_4 : look a_X11_takeSeason 4 = vGetI 23 3 7 := rfl
theorem k_X11_takeSeason_7 : look a_X11_takeSeason 7 = vI 4 8 := rfl
theorem k_X11_takeSeason_8 : look a_X11_takeSeason 8 = vIcGe 22 11 := rfl
theorem k_X11_takeSeason_11 : look a_X11_takeSeason 11 = vAload 0 12 := rfl
theorem k_X11_takeSeason_12 : look a_X11_takeSeason 12 = vGetR TT 27 7 23 15 := rfl
theorem k_X11_takeSeason_15 : look a_X11_takeSeason 15 = vCallM w_X7_read 23 0 18 := rfl
theorem k_X11_takeSeason_18 : look a_X11_takeSeason 18 = vI (-1) 19 := rfl
theorem k_X11_takeSeason_19 : look a_X11_takeSeason 19 = vIcEq 24 22 := rfl
theorem k_X11_takeSeason_22 : look a_X11_takeSeason 22 = vI (-1) 23 := rfl
theorem k_X11_takeSeason_23 : look a_X11_takeSeason 23 = vIret := rfl
theorem k_X11_takeSeason_24 : look a_X11_takeSeason 24 = vAload 0 25 := rfl
theorem k_X11_takeSeason_25 : look a_X11_takeSeason 25 = vGetR TT 27 7 23 28 := rfl
theorem k_X11_takeSeason_28 : look a_X11_takeSeason 28 = vDup 29 := rfl
theorem k_X11_takeSeason_29 : look a_X11_takeSeason 29 = vGetI 23 3 32 := rfl
theorem k_X11_takeSeason_32 : look a_X11_takeSeason 32 = vI 1 33 := rfl
theorem k_X11_takeSeason_33 : look a_X11_takeSeason 33 = vIadd 34 := rfl
theorem k_X11_takeSeason_34 : look a_X11_takeSeason 34 = vPutI 23 3 37 := rfl
theorem k_X11_takeSeason_37 : look a_X11_takeSeason 37 = vAload 0 38 := rfl
theorem k_X11_takeSeason_38 : look a_X11_takeSeason 38 = vGetR TT 27 0 26 41 := rfl
theorem k_X11_takeSeason_41 : look a_X11_takeSeason 41 = vI 0 42 := rfl
theorem k_X11_takeSeason_42 : look a_X11_takeSeason 42 = vPutI 26 1 45 := rfl
theorem k_X11_takeSeason_45 : look a_X11_takeSeason 45 = vAload 0 46 := rfl
theorem k_X11_takeSeason_46 : look a_X11_takeSeason 46 = vGetR TT 27 7 23 49 := rfl
theorem k_X11_takeSeason_49 : look a_X11_takeSeason 49 = vGetI 23 3 52 := rfl
theorem k_X11_takeSeason_52 : look a_X11_takeSeason 52 = vI 1 53 := rfl
theorem k_X11_takeSeason_53 : look a_X11_takeSeason 53 = vIsub 54 := rfl
theorem k_X11_takeSeason_54 : look a_X11_takeSeason 54 = vIret := rfl
theorem o_X11_takeSeason {X : amX} (e1 : XT X = TT) (e2 : XD X = 7) (hB : amB X RX11 cX11_takeSeason (some .int) 1) : ∀ pc, amOK X pc (look a_X11_takeSeason pc) := by
  have hT : amTok (XT X) := e1 ▸ TT_ok
  refine look_ok ?_
  unfold a_X11_takeSeason
  refine fc (ok_aload_n hB dX11_takeSeason_0) ?_
  refine fc (okt_getR e1 hB hT fl_X11_51 rfl af_11_7 at_11_7 (by decide) dX11_takeSeason_1) ?_
  refine fc (ok_getI hB hT fl_X11_161 rfl rfl (Or.inl af_7_3) dX11_takeSeason_4) ?_
  refine fc (ok_iconst hB dX11_takeSeason_7) ?_
  refine fc (ok_icmp_ge hB (t := 22) (by decide) dX11_takeSeason_8) ?_
  refine fc (ok_aload_n hB dX11_takeSeason_11) ?_
  refine fc (okt_getR e1 hB hT fl_X11_51 rfl af_11_7 at_11_7 (by decide) dX11_takeSeason_12) ?_
  refine fc (ok_callM hB hT (e1 ▸ s_X7_read) lk_X11_131 (by rw [e2]; decide) (c := 7) rfl rfl rfl wd_634 wd_635 dX11_takeSeason_15) ?_
  refine fc (ok_iconst hB dX11_takeSeason_18) ?_
  refine fc (ok_icmp_eq hB (t := 24) (by decide) dX11_takeSeason_19) ?_
  refine fc (ok_iconst hB dX11_takeSeason_22) ?_
  refine fc (ok_iret hB dX11_takeSeason_23) ?_
  refine fc (ok_aload_n hB dX11_takeSeason_24) ?_
  refine fc (okt_getR e1 hB hT fl_X11_51 rfl af_11_7 at_11_7 (by decide) dX11_takeSeason_25) ?_
  refine fc (ok_dup hB dX11_takeSeason_28) ?_
  refine fc (ok_getI hB hT fl_X11_161 rfl rfl (Or.inl af_7_3) dX11_takeSeason_29) ?_
  refine fc (ok_iconst hB dX11_takeSeason_32) ?_
  refine fc (ok_iadd hB dX11_takeSeason_33) ?_
  refine fc (ok_putI hB hT fp_X11_161 rfl rfl rfl af_7_3 dX11_takeSeason_34) ?_
  refine fc (ok_aload_n hB dX11_takeSeason_37) ?_
  refine fc (okt_getR e1 hB hT fl_X11_10 rfl af_11_0 at_11_0 (by decide) dX11_takeSeason_38) ?_
  refine fc (ok_iconst hB dX11_takeSeason_41) ?_
  refine fc (ok_putI hB hT fp_X11_117 rfl rfl rfl af_10_1 dX11_takeSeason_42) ?_
  refine fc (ok_aload_n hB dX11_takeSeason_45) ?_
  refine fc (okt_getR e1 hB hT fl_X11_51 rfl af_11_7 at_11_7 (by decide) dX11_takeSeason_46) ?_
  refine fc (ok_getI hB hT fl_X11_161 rfl rfl (Or.inl af_7_3) dX11_takeSeason_49) ?_
  refine fc (ok_iconst hB dX11_takeSeason_52) ?_
  refine fc (ok_isub hB dX11_takeSeason_53) ?_
  refine fc (ok_iret hB dX11_takeSeason_54) ?_
  exact fn
abbrev seF (σ : Mem) : Int × Int × (Int → Int) := seasF (tsg σ) (σ 1 1) 16 0 0 (fun _ => 0)
def w_X11_takeSeason : WP := fun av σ Q => av = [(27, 0)] ∧ (tapeOk σ ∧ 0 ≤ σ 13 3 ∧ σ 13 3 ≤ 4 ∧ InR (seF σ).1 ∧ (σ 13 3 = 4 → Q (0, -1) σ) ∧ (σ 13 3 < 4 → ∀ p v, ((seF σ).1 = -1 → ∀ k, 0 ≤ k → k < (seF σ).2.1 * 3 → v k = (seF σ).2.2 k) → ((seF σ).1 ≠ -1 → Q (0, -1) (setP (up σ 1 2 p) (σ 13 3) v)) ∧ ((seF σ).1 = -1 → Q (0, σ 13 3) (up (up (up (setP (up σ 1 2 p) (σ 13 3) v) 15 (σ 13 3) (seF σ).2.1) 13 3 (σ 13 3 + 1)) 1 1 0))))
theorem w_X11_takeSeason_e  (σ : Mem) (Q : AV → Mem → Prop) : w_X11_takeSeason [(27, 0)] σ Q = (tapeOk σ ∧ 0 ≤ σ 13 3 ∧ σ 13 3 ≤ 4 ∧ InR (seF σ).1 ∧ (σ 13 3 = 4 → Q (0, -1) σ) ∧ (σ 13 3 < 4 → ∀ p v, ((seF σ).1 = -1 → ∀ k, 0 ≤ k → k < (seF σ).2.1 * 3 → v k = (seF σ).2.2 k) → ((seF σ).1 ≠ -1 → Q (0, -1) (setP (up σ 1 2 p) (σ 13 3) v)) ∧ ((seF σ).1 = -1 → Q (0, σ 13 3) (up (up (up (setP (up σ 1 2 p) (σ 13 3) v) 15 (σ 13 3) (seF σ).2.1) 13 3 (σ 13 3 + 1)) 1 1 0)))) := by
  apply propext; constructor
  · rintro ⟨h9, hb9⟩; cases h9; exact hb9
  · intro hb9; exact ⟨rfl, hb9⟩

set_option maxRecDepth 100000 in
set_option maxHeartbeats 4000000 in
theorem s_X11_takeSeason : ∀ av σ Q, w_X11_takeSeason av σ Q → amCall 7 0 0 TT yX11_takeSeason cX11_takeSeason 1 (some .int) av σ Q := by
  rintro av σ Q ⟨rfl, ht, s0, s1, hF, h1, h2⟩
  by_cases c4 : σ 13 3 = 4
  · have hh := h1 c4
    refine am_m0 (own := RX11) (A := look a_X11_takeSeason) (fun X e1 e2 hB => o_X11_takeSeason e1 e2 hB) rfl (by decide +kernel) rfl rfl 190 (w := 1) ?_
    change vcs _ _ _ _ 190 0 [(27, 0)] [] σ
    simp only [↓reduceIte, inR_0, inR_1, inR_m, vSw2_e, swP_n, swP_c, vI_e, vL_e, vNull_e, vIload_e, vLload_e, vAload_e, vIstore_e, vLstore_e, vAstore_e, vIinc_e, vIadd_e, vIsub_e, vImul_e, vIand_e, vIor_e, vIxor_e, vIshl_e, vIshr_e, vIushr_e, vIdiv_e, vIrem_e, vLadd_e, vLsub_e, vLmul_e, vLand_e, vLor_e, vLxor_e, vLdiv_e, vLrem_e, vLushr_e, vLshl_e, vLcmp_e, vIneg_e, vI2l_e, vL2i_e, vI2b_e, vI2c_e, vDup_e, vPop_e, vDup2_e, vGoto_e, vIcEq_e, vIfEq_e, vIcNe_e, vIfNe_e, vIcLt_e, vIfLt_e, vIcGe_e, vIfGe_e, vIcGt_e, vIfGt_e, vIcLe_e, vIfLe_e, vNonnull_e, vSw_e, vGetI_e, vGetL_e, vGetR_e, vPutI_e, vPutZ_e, vPutL_e, vPutR_e, vIald_e, vIald_s, vLald_e, vBald_e, vBald_s, vAald_e, vIast_e, vLast_e, vBast_e, vAast_e, vAlen_e8, vAlen_e9, vAlen_e10, vAlen_e11, vAlen_e5, vAlen_e3, vGets_e, vCompact_e, vLdcS_e, vIret_e, vZret_e, vCret_e, vBret_e, vLret_e, vVret_e, vAret_e, vCallM_e0, vCallMV_e0, vCallS_e0, vCallSV_e0, vCallM_e1, vCallMV_e1, vCallS_e1, vCallSV_e1, vCallM_e2, vCallMV_e2, vCallS_e2, vCallSV_e2, vCallM_e3, vCallMV_e3, vCallS_e3, vCallSV_e3, vCallM_e4, vCallMV_e4, vCallS_e4, vCallSV_e4, vCallM_e5, vCallMV_e5, vCallS_e5, vCallSV_e5, vCallM_e6, vCallMV_e6, vCallS_e6, vCallSV_e6, vCallM_e7, vCallMV_e7, vCallS_e7, vCallSV_e7, vBad_e, vStrVal_e, vStrCod_e, vForm_e, vCallT_e0, vCallT_e1, vCallT_e2, vCopy_e, rf_0_0, rf_0_1, rf_0_2, rf_0_3, rf_0_4, rf_0_7, rf_0_10, rf_0_11, rf_0_12, rf_0_13, rf_0_14, rf_0_15, rf_0_16, rf_1_0, rf_3_0, rf_3_1, rf_6_0, rf_6_1, rf_9_0, rf_9_1, rf_9_3, rf_13_0, rf_13_1, rf_13_2, rf_16_0, rf_16_1, rf_16_2, rf_16_3, rf_21_0, rf_21_1, rf_21_2, rf_21_3, rf_26_0, rf_26_1, rf_26_2, rf_26_3, rf_26_4, rf_26_5, rf_26_6, rf_31_0, rf_31_2, rf_31_5, rf_31_6, rf_36_0, rf_36_1, rf_36_2, rf_36_3, rf_39_0, rf_39_1, rf_39_2, rf_41_0, rf_41_1, rf_41_2, rf_41_3, rf_5000_1, rf_5000_2, rf_5000_3, rf_5000_4, rf_5000_5, rf_5000_15, rf_5000_16, rf_5000_18, rf_5000_19, rf_5000_20, rf_5000_21, rf_5000_22, rf_5000_23, rf_5000_24, rf_5000_25, rf_5000_26, rf_5000_27, rf_5000_36, rf_5000_37, rf_5000_40, rf_5000_41, rf_5000_42, rf_5000_43, rf_5000_44, rf_5000_45, rf_5000_47, rf_5000_52, rf_5000_54, rf_5000_55, rf_100_0, rf_100_1, rf_103_0, rf_103_1, rf_106_0, rf_106_1, rf_109_0, rf_109_1, al_2, al_4, al_5, al_7, al_8, al_10, al_11, al_12, al_14, al_15, al_17, al_18, al_19, al_20, al_22, al_23, al_24, al_25, al_27, al_28, al_29, al_30, al_32, al_33, al_34, al_35, al_37, al_38, al_40, al_42, al_5001, al_5002, al_5003, al_5004, al_5005, al_5006, al_5007, al_5008, al_5009, al_5010, al_5011, al_5012, al_5013, al_5014, al_5015, al_5016, al_5017, al_5018, al_5019, al_5020, al_5021, al_5022, al_5023, al_5024, al_5025, al_5026, al_9000, al_101, al_102, al_104, al_105, al_107, al_108, al_110, al_111, vcs_e, lg_c0, lg_cs, lg_nil, set_c0, set_cs, okst_0, okst_s, acok_n, acok_c, List.contains_nil, List.contains_cons, Bool.or_false, Bool.false_or, Bool.false_eq_true, if_false, if_true, ite_self, ne_eq, true_and, and_true, not_false_eq_true, not_true_eq_false, false_imp_iff, true_imp_iff, Nat.ble_eq, Bool.and_eq_true, reduceCtorEq, or_false, false_or, or_true, true_or, false_and, and_false, and_self, Int.reduceLE, Int.reduceAdd, Int.reduceSub, Int.reduceMul, Int.reduceNeg, Int.reduceLT, Int.reduceEq, Int.reduceNe, Nat.reduceBEq, Nat.reduceBNe, Nat.reduceEqDiff, amCmp_in, amCmp_lt, amCmp_le, amCmp_gt, amCmp_ge, amCmp_eq, amCmp_ne, Nat.reduceLeDiff, Nat.reduceSub, Bool.and_true, Bool.true_and, Bool.and_self, Bool.or_true, Bool.true_or, isRf_3, isRf_4, isRf_5, isRf_8, isRf_9, isRf_10, isRf_11, isRf_15, isRf_16, isRf_17, isRf_18, isRf_19, isRf_20, isRf_21, isRf_22, isRf_23, isRf_24, isRf_25, isRf_26, isRf_27, isRf_28, k_X11_takeSeason_0, k_X11_takeSeason_1, k_X11_takeSeason_4, k_X11_takeSeason_7, k_X11_takeSeason_8, k_X11_takeSeason_11, k_X11_takeSeason_12, k_X11_takeSeason_15, k_X11_takeSeason_18, k_X11_takeSeason_19, k_X11_takeSeason_22, k_X11_takeSeason_23, k_X11_takeSeason_24, k_X11_takeSeason_25, k_X11_takeSeason_28, k_X11_takeSeason_29, k_X11_takeSeason_32, k_X11_takeSeason_33, k_X11_takeSeason_34, k_X11_takeSeason_37, k_X11_takeSeason_38, k_X11_takeSeason_41, k_X11_takeSeason_42, k_X11_takeSeason_45, k_X11_takeSeason_46, k_X11_takeSeason_49, k_X11_takeSeason_52, k_X11_takeSeason_53, k_X11_takeSeason_54, w_X7_read_e, up_s, up_nj, up_na, up_up, savR_o, cpy_o, fillm_o, setAud_o, setv_o, setv_s, Int.reduceNe, Int.reduceEq, Int.reduceLT, Int.reduceAdd, not_false_eq_true, ne_eq, or_true, true_or]
    repeat' (first | assumption | apply And.intro | intro _)
    all_goals first | omega | exact absurd trivial (by assumption) | exact hh
  · have hh := h2 (by omega)
    unfold seF at *
    by_cases cF : (seasF (tsg σ) (σ 1 1) 16 0 0 (fun _ => 0)).1 = -1
    · have e13 : ∀ p v N, up (setP (up σ 1 2 p) (σ 13 3) v) 15 (σ 13 3) N 13 3 = σ 13 3 := fun p v N => by rw [up_na _ (by decide), setP_o _ _ (by decide), up_na _ (by decide)]
      refine am_m0 (own := RX11) (A := look a_X11_takeSeason) (fun X e1 e2 hB => o_X11_takeSeason e1 e2 hB) rfl (by decide +kernel) rfl rfl 190 (w := 1) ?_
      change vcs _ _ _ _ 190 0 [(27, 0)] [] σ
      simp only [↓reduceIte, inR_0, inR_1, inR_m, vSw2_e, swP_n, swP_c, vI_e, vL_e, vNull_e, vIload_e, vLload_e, vAload_e, vIstore_e, vLstore_e, vAstore_e, vIinc_e, vIadd_e, vIsub_e, vImul_e, vIand_e, vIor_e, vIxor_e, vIshl_e, vIshr_e, vIushr_e, vIdiv_e, vIrem_e, vLadd_e, vLsub_e, vLmul_e, vLand_e, vLor_e, vLxor_e, vLdiv_e, vLrem_e, vLushr_e, vLshl_e, vLcmp_e, vIneg_e, vI2l_e, vL2i_e, vI2b_e, vI2c_e, vDup_e, vPop_e, vDup2_e, vGoto_e, vIcEq_e, vIfEq_e, vIcNe_e, vIfNe_e, vIcLt_e, vIfLt_e, vIcGe_e, vIfGe_e, vIcGt_e, vIfGt_e, vIcLe_e, vIfLe_e, vNonnull_e, vSw_e, vGetI_e, vGetL_e, vGetR_e, vPutI_e, vPutZ_e, vPutL_e, vPutR_e, vIald_e, vIald_s, vLald_e, vBald_e, vBald_s, vAald_e, vIast_e, vLast_e, vBast_e, vAast_e, vAlen_e8, vAlen_e9, vAlen_e10, vAlen_e11, vAlen_e5, vAlen_e3, vGets_e, vCompact_e, vLdcS_e, vIret_e, vZret_e, vCret_e, vBret_e, vLret_e, vVret_e, vAret_e, vCallM_e0, vCallMV_e0, vCallS_e0, vCallSV_e0, vCallM_e1, vCallMV_e1, vCallS_e1, vCallSV_e1, vCallM_e2, vCallMV_e2, vCallS_e2, vCallSV_e2, vCallM_e3, vCallMV_e3, vCallS_e3, vCallSV_e3, vCallM_e4, vCallMV_e4, vCallS_e4, vCallSV_e4, vCallM_e5, vCallMV_e5, vCallS_e5, vCallSV_e5, vCallM_e6, vCallMV_e6, vCallS_e6, vCallSV_e6, vCallM_e7, vCallMV_e7, vCallS_e7, vCallSV_e7, vBad_e, vStrVal_e, vStrCod_e, vForm_e, vCallT_e0, vCallT_e1, vCallT_e2, vCopy_e, rf_0_0, rf_0_1, rf_0_2, rf_0_3, rf_0_4, rf_0_7, rf_0_10, rf_0_11, rf_0_12, rf_0_13, rf_0_14, rf_0_15, rf_0_16, rf_1_0, rf_3_0, rf_3_1, rf_6_0, rf_6_1, rf_9_0, rf_9_1, rf_9_3, rf_13_0, rf_13_1, rf_13_2, rf_16_0, rf_16_1, rf_16_2, rf_16_3, rf_21_0, rf_21_1, rf_21_2, rf_21_3, rf_26_0, rf_26_1, rf_26_2, rf_26_3, rf_26_4, rf_26_5, rf_26_6, rf_31_0, rf_31_2, rf_31_5, rf_31_6, rf_36_0, rf_36_1, rf_36_2, rf_36_3, rf_39_0, rf_39_1, rf_39_2, rf_41_0, rf_41_1, rf_41_2, rf_41_3, rf_5000_1, rf_5000_2, rf_5000_3, rf_5000_4, rf_5000_5, rf_5000_15, rf_5000_16, rf_5000_18, rf_5000_19, rf_5000_20, rf_5000_21, rf_5000_22, rf_5000_23, rf_5000_24, rf_5000_25, rf_5000_26, rf_5000_27, rf_5000_36, rf_5000_37, rf_5000_40, rf_5000_41, rf_5000_42, rf_5000_43, rf_5000_44, rf_5000_45, rf_5000_47, rf_5000_52, rf_5000_54, rf_5000_55, rf_100_0, rf_100_1, rf_103_0, rf_103_1, rf_106_0, rf_106_1, rf_109_0, rf_109_1, al_2, al_4, al_5, al_7, al_8, al_10, al_11, al_12, al_14, al_15, al_17, al_18, al_19, al_20, al_22, al_23, al_24, al_25, al_27, al_28, al_29, al_30, al_32, al_33, al_34, al_35, al_37, al_38, al_40, al_42, al_5001, al_5002, al_5003, al_5004, al_5005, al_5006, al_5007, al_5008, al_5009, al_5010, al_5011, al_5012, al_5013, al_5014, al_5015, al_5016, al_5017, al_5018, al_5019, al_5020, al_5021, al_5022, al_5023, al_5024, al_5025, al_5026, al_9000, al_101, al_102, al_104, al_105, al_107, al_108, al_110, al_111, vcs_e, lg_c0, lg_cs, lg_nil, set_c0, set_cs, okst_0, okst_s, acok_n, acok_c, List.contains_nil, List.contains_cons, Bool.or_false, Bool.false_or, Bool.false_eq_true, if_false, if_true, ite_self, ne_eq, true_and, and_true, not_false_eq_true, not_true_eq_false, false_imp_iff, true_imp_iff, Nat.ble_eq, Bool.and_eq_true, reduceCtorEq, or_false, false_or, or_true, true_or, false_and, and_false, and_self, Int.reduceLE, Int.reduceAdd, Int.reduceSub, Int.reduceMul, Int.reduceNeg, Int.reduceLT, Int.reduceEq, Int.reduceNe, Nat.reduceBEq, Nat.reduceBNe, Nat.reduceEqDiff, amCmp_in, amCmp_lt, amCmp_le, amCmp_gt, amCmp_ge, amCmp_eq, amCmp_ne, Nat.reduceLeDiff, Nat.reduceSub, Bool.and_true, Bool.true_and, Bool.and_self, Bool.or_true, Bool.true_or, isRf_3, isRf_4, isRf_5, isRf_8, isRf_9, isRf_10, isRf_11, isRf_15, isRf_16, isRf_17, isRf_18, isRf_19, isRf_20, isRf_21, isRf_22, isRf_23, isRf_24, isRf_25, isRf_26, isRf_27, isRf_28, k_X11_takeSeason_0, k_X11_takeSeason_1, k_X11_takeSeason_4, k_X11_takeSeason_7, k_X11_takeSeason_8, k_X11_takeSeason_11, k_X11_takeSeason_12, k_X11_takeSeason_15, k_X11_takeSeason_18, k_X11_takeSeason_19, k_X11_takeSeason_22, k_X11_takeSeason_23, k_X11_takeSeason_24, k_X11_takeSeason_25, k_X11_takeSeason_28, k_X11_takeSeason_29, k_X11_takeSeason_32, k_X11_takeSeason_33, k_X11_takeSeason_34, k_X11_takeSeason_37, k_X11_takeSeason_38, k_X11_takeSeason_41, k_X11_takeSeason_42, k_X11_takeSeason_45, k_X11_takeSeason_46, k_X11_takeSeason_49, k_X11_takeSeason_52, k_X11_takeSeason_53, k_X11_takeSeason_54, w_X7_read_e, cF, if_true, e13, up_s, up_nj, up_na, Int.reduceNe, ne_eq, not_false_eq_true, Int.reduceEq]
      have el : σ 13 3 + 1 - 1 = σ 13 3 := by omega
      have fin : ∀ p v, (∀ k, 0 ≤ k → k < (seasF (tsg σ) (σ 1 1) 16 0 0 (fun _ => 0)).2.1 * 3 → v k = (seasF (tsg σ) (σ 1 1) 16 0 0 (fun _ => 0)).2.2 k) → Q (0, σ 13 3 + 1 - 1) (up (up (up (setP (up σ 1 2 p) (σ 13 3) v) 15 (σ 13 3) (seasF (tsg σ) (σ 1 1) 16 0 0 (fun _ => 0)).2.1) 13 3 (σ 13 3 + 1)) 1 1 0) := fun p v g => by
        rw [el]
        exact (hh p v (fun _ => g)).2 cF
      repeat' (first | assumption | apply And.intro | intro _)
      all_goals first | omega | exact absurd trivial (by assumption) | exact fin _ _ (by assumption)
    · refine am_m0 (own := RX11) (A := look a_X11_takeSeason) (fun X e1 e2 hB => o_X11_takeSeason e1 e2 hB) rfl (by decide +kernel) rfl rfl 190 (w := 1) ?_
      change vcs _ _ _ _ 190 0 [(27, 0)] [] σ
      simp only [↓reduceIte, inR_0, inR_1, inR_m, vSw2_e, swP_n, swP_c, vI_e, vL_e, vNull_e, vIload_e, vLload_e, vAload_e, vIstore_e, vLstore_e, vAstore_e, vIinc_e, vIadd_e, vIsub_e, vImul_e, vIand_e, vIor_e, vIxor_e, vIshl_e, vIshr_e, vIushr_e, vIdiv_e, vIrem_e, vLadd_e, vLsub_e, vLmul_e, vLand_e, vLor_e, vLxor_e, vLdiv_e, vLrem_e, vLushr_e, vLshl_e, vLcmp_e, vIneg_e, vI2l_e, vL2i_e, vI2b_e, vI2c_e, vDup_e, vPop_e, vDup2_e, vGoto_e, vIcEq_e, vIfEq_e, vIcNe_e, vIfNe_e, vIcLt_e, vIfLt_e, vIcGe_e, vIfGe_e, vIcGt_e, vIfGt_e, vIcLe_e, vIfLe_e, vNonnull_e, vSw_e, vGetI_e, vGetL_e, vGetR_e, vPutI_e, vPutZ_e, vPutL_e, vPutR_e, vIald_e, vIald_s, vLald_e, vBald_e, vBald_s, vAald_e, vIast_e, vLast_e, vBast_e, vAast_e, vAlen_e8, vAlen_e9, vAlen_e10, vAlen_e11, vAlen_e5, vAlen_e3, vGets_e, vCompact_e, vLdcS_e, vIret_e, vZret_e, vCret_e, vBret_e, vLret_e, vVret_e, vAret_e, vCallM_e0, vCallMV_e0, vCallS_e0, vCallSV_e0, vCallM_e1, vCallMV_e1, vCallS_e1, vCallSV_e1, vCallM_e2, vCallMV_e2, vCallS_e2, vCallSV_e2, vCallM_e3, vCallMV_e3, vCallS_e3, vCallSV_e3, vCallM_e4, vCallMV_e4, vCallS_e4, vCallSV_e4, vCallM_e5, vCallMV_e5, vCallS_e5, vCallSV_e5, vCallM_e6, vCallMV_e6, vCallS_e6, vCallSV_e6, vCallM_e7, vCallMV_e7, vCallS_e7, vCallSV_e7, vBad_e, vStrVal_e, vStrCod_e, vForm_e, vCallT_e0, vCallT_e1, vCallT_e2, vCopy_e, rf_0_0, rf_0_1, rf_0_2, rf_0_3, rf_0_4, rf_0_7, rf_0_10, rf_0_11, rf_0_12, rf_0_13, rf_0_14, rf_0_15, rf_0_16, rf_1_0, rf_3_0, rf_3_1, rf_6_0, rf_6_1, rf_9_0, rf_9_1, rf_9_3, rf_13_0, rf_13_1, rf_13_2, rf_16_0, rf_16_1, rf_16_2, rf_16_3, rf_21_0, rf_21_1, rf_21_2, rf_21_3, rf_26_0, rf_26_1, rf_26_2, rf_26_3, rf_26_4, rf_26_5, rf_26_6, rf_31_0, rf_31_2, rf_31_5, rf_31_6, rf_36_0, rf_36_1, rf_36_2, rf_36_3, rf_39_0, rf_39_1, rf_39_2, rf_41_0, rf_41_1, rf_41_2, rf_41_3, rf_5000_1, rf_5000_2, rf_5000_3, rf_5000_4, rf_5000_5, rf_5000_15, rf_5000_16, rf_5000_18, rf_5000_19, rf_5000_20, rf_5000_21, rf_5000_22, rf_5000_23, rf_5000_24, rf_5000_25, rf_5000_26, rf_5000_27, rf_5000_36, rf_5000_37, rf_5000_40, rf_5000_41, rf_5000_42, rf_5000_43, rf_5000_44, rf_5000_45, rf_5000_47, rf_5000_52, rf_5000_54, rf_5000_55, rf_100_0, rf_100_1, rf_103_0, rf_103_1, rf_106_0, rf_106_1, rf_109_0, rf_109_1, al_2, al_4, al_5, al_7, al_8, al_10, al_11, al_12, al_14, al_15, al_17, al_18, al_19, al_20, al_22, al_23, al_24, al_25, al_27, al_28, al_29, al_30, al_32, al_33, al_34, al_35, al_37, al_38, al_40, al_42, al_5001, al_5002, al_5003, al_5004, al_5005, al_5006, al_5007, al_5008, al_5009, al_5010, al_5011, al_5012, al_5013, al_5014, al_5015, al_5016, al_5017, al_5018, al_5019, al_5020, al_5021, al_5022, al_5023, al_5024, al_5025, al_5026, al_9000, al_101, al_102, al_104, al_105, al_107, al_108, al_110, al_111, vcs_e, lg_c0, lg_cs, lg_nil, set_c0, set_cs, okst_0, okst_s, acok_n, acok_c, List.contains_nil, List.contains_cons, Bool.or_false, Bool.false_or, Bool.false_eq_true, if_false, if_true, ite_self, ne_eq, true_and, and_true, not_false_eq_true, not_true_eq_false, false_imp_iff, true_imp_iff, Nat.ble_eq, Bool.and_eq_true, reduceCtorEq, or_false, false_or, or_true, true_or, false_and, and_false, and_self, Int.reduceLE, Int.reduceAdd, Int.reduceSub, Int.reduceMul, Int.reduceNeg, Int.reduceLT, Int.reduceEq, Int.reduceNe, Nat.reduceBEq, Nat.reduceBNe, Nat.reduceEqDiff, amCmp_in, amCmp_lt, amCmp_le, amCmp_gt, amCmp_ge, amCmp_eq, amCmp_ne, Nat.reduceLeDiff, Nat.reduceSub, Bool.and_true, Bool.true_and, Bool.and_self, Bool.or_true, Bool.true_or, isRf_3, isRf_4, isRf_5, isRf_8, isRf_9, isRf_10, isRf_11, isRf_15, isRf_16, isRf_17, isRf_18, isRf_19, isRf_20, isRf_21, isRf_22, isRf_23, isRf_24, isRf_25, isRf_26, isRf_27, isRf_28, k_X11_takeSeason_0, k_X11_takeSeason_1, k_X11_takeSeason_4, k_X11_takeSeason_7, k_X11_takeSeason_8, k_X11_takeSeason_11, k_X11_takeSeason_12, k_X11_takeSeason_15, k_X11_takeSeason_18, k_X11_takeSeason_19, k_X11_takeSeason_22, k_X11_takeSeason_23, k_X11_takeSeason_24, k_X11_takeSeason_25, k_X11_takeSeason_28, k_X11_takeSeason_29, k_X11_takeSeason_32, k_X11_takeSeason_33, k_X11_takeSeason_34, k_X11_takeSeason_37, k_X11_takeSeason_38, k_X11_takeSeason_41, k_X11_takeSeason_42, k_X11_takeSeason_45, k_X11_takeSeason_46, k_X11_takeSeason_49, k_X11_takeSeason_52, k_X11_takeSeason_53, k_X11_takeSeason_54, w_X7_read_e, cF, if_false]
      have fin := fun p v => (hh p v (fun g => absurd g cF)).1 cF
      repeat' (first | assumption | apply And.intro | intro _)
      all_goals first | omega | exact absurd trivial (by assumption) | exact fin _ _
theorem wd_657 : Cond.methodLink RX11 141 yX6_copyFrom ∈ TBL := tb_tab (List.mem_of_getElem? (i := 657) (by decide +kernel)) rfl
theorem wd_660 : Cond.code yX6_copyFrom cX6_copyFrom 2 (none) ∈ TBL := tb_tab (List.mem_of_getElem? (i := 660) (by decide +kernel)) rfl
theorem lk_X11_141 : amLk RX11 141 yX6_copyFrom cX6_copyFrom 2 (none) 1 := ⟨wd_657, wd_3, wd_660, by decide +kernel, by decide +kernel, by decide⟩
theorem wd_658 : Cond.instanceMethod yX6_copyFrom ∈ TBL := tb_tab (List.mem_of_getElem? (i := 658) (by decide +kernel)) rfl
theorem wd_659 : Cond.selects RX6 yX6_copyFrom yX6_copyFrom ∈ TBL := tb_tab (List.mem_of_getElem? (i := 659) (by decide +kernel)) rfl
theorem wd_664 : Cond.methodLink RX11 145 yX0_enter ∈ TBL := tb_tab (List.mem_of_getElem? (i := 664) (by decide +kernel)) rfl
theorem wd_667 : Cond.code yX0_enter cX0_enter 3 (none) ∈ TBL := tb_tab (List.mem_of_getElem? (i := 667) (by decide +kernel)) rfl
theorem lk_X11_145 : amLk RX11 145 yX0_enter cX0_enter 3 (none) 1 := ⟨wd_664, wd_6, wd_667, by decide +kernel, by decide +kernel, by decide⟩
theorem wd_665 : Cond.instanceMethod yX0_enter ∈ TBL := tb_tab (List.mem_of_getElem? (i := 665) (by decide +kernel)) rfl
theorem wd_666 : Cond.selects RX0 yX0_enter yX0_enter ∈ TBL := tb_tab (List.mem_of_getElem? (i := 666) (by decide +kernel)) rfl
theorem wd_669 : Cond.methodLink RX11 148 yX5_forget ∈ TBL := tb_tab (List.mem_of_getElem? (i := 669) (by decide +kernel)) rfl
theorem wd_672 : Cond.code yX5_forget cX5_forget 1 (none) ∈ TBL := tb_tab (List.mem_of_getElem? (i := 672) (by decide +kernel)) rfl
theorem lk_X11_148 : amLk RX11 148 yX5_forget cX5_forget 1 (none) 0 := ⟨wd_669, wd_8, wd_672, by decide +kernel, by decide +kernel, by decide⟩
theorem wd_670 : Cond.instanceMethod yX5_forget ∈ TBL := tb_tab (List.mem_of_getElem? (i := 670) (by decide +kernel)) rfl
theorem wd_671 : Cond.selects RX5 yX5_forget yX5_forget ∈ TBL := tb_tab (List.mem_of_getElem? (i := 671) (by decide +kernel)) rfl
theorem fp_X11_151 : amFp RX11 1 4 151 RX1 TX1 5 tyX1 .int := ⟨fl_X11_151, tyX1_ok, nmX1, by decide +kernel⟩
def a_X11_takeHouse : AC := [(0, vAload 0 1), (1, vGetR TT 27 1 22 4), (4, vAload 0 5), (5, vGetR TT 27 0 26 8), (8, vCallM w_X6_read 22 1 11), (11, vI (-1) 12), (12, vIcEq 17 15), (15, vI (-1) 16), (16, vIret), (17, vAload 0 18), (18, vGetR TT 27 2 22 21), (21, vAload 0 22), (22, vGetR TT 27 1 22 25), (25, vCallMV w_X6_copyFrom 22 1 28), (28, vAload 0 29), (29, vGetR TT 27 10 16 32), (32, vAload 0 33), (33, vGetR TT 27 2 22 36), (36, vCallMV w_X0_enter 16 1 39), (39, vAload 0 40), (40, vGetR TT 27 13 21 43), (43, vCallMV w_X5_forget 21 0 46), (46, vAload 0 47), (47, vGetR TT 27 16 17 50), (50, vI 0 51), (51, vPutI 17 4 54), (54, vAload 0 55), (55, vGetR TT 27 0 26 58), (58, vI 0 59), (59, vPutI 26 1 62), (62, vAload 0 63), (63, vGetR TT 27 2 22 66), (66, vI 2 67), (67, vCallM w_X6_many 22 1 70), (70, vIret)]
theorem k_X11_takeHouse_0 : look a_X11_takeHouse 0 = vAload 0 1 := rfl
theorem k_X11_takeHouse_1 : look a_X11_takeHouse 1 = vGetR TT 27 1 22 4 := rfl
theorem k_X11_takeHouse_4 : look a_X11_takeHouse 4 = vAload 0 5 := rfl
theorem k_X11_takeHouse_5 : look a_X11_takeHouse 5 = vGetR TT 27 0 26 8 := rfl
theorem k_X11_takeHouse_8 : look a_X11_takeHouse 8 = vCallM w_X6_read 22 1 11 := rfl
theorem k_X11_takeHouse_11 : look a_X11_takeHouse 11 = vI (-1) 12 := rfl
theorem k_X11_takeHouse_12 : look a_X11_takeHouse 12 = vIcEq 17 15 := rfl
theorem k_X11_takeHouse_15 : look a_X11_takeHouse 15 = vI (-1) 16 := rfl
theorem k_X11_takeHouse_16 : look a_X11_takeHouse 16 = vIret := rfl
theorem k_X11_takeHouse_17 : look a_X11_takeHouse 17 = vAload 0 18 := rfl
theorem k_X11_takeHouse_18 : look a_X11_takeHouse 18 = vGetR TT 27 2 22 21 := rfl
theorem k_X11_takeHouse_21 : look a_X11_takeHouse 21 = vAload 0 22 := rfl
theorem k_X11_takeHouse_22 : look a_X11_takeHouse 22 = vGetR TT 27 1 22 25 := rfl
theorem k_X11_takeHouse_25 : look a_X11_takeHouse 25 = vCallMV w_X6_copyFrom 22 1 28 := rfl
theorem k_X11_takeHouse_28 : look a_X11_takeHouse 28 = vAload 0 29 := rfl
theorem k_X11_takeHouse_29 : look a_X11_takeHouse 29 = vGetR TT 27 10 16 32 := rfl
theorem k_X11_takeHouse_32 : look a_X11_takeHouse 32 = vAload 0 33 := rfl
theorem k_X11_takeHouse_33 : look a_X11_takeHouse 33 = vGetR TT 27 2 22 36 := rfl
theorem k_X11_takeHouse_36 : look a_X11_takeHouse 36 = vCallMV w_X0_enter 16 1 39 := rfl
theorem k_X11_takeHouse_39 : look a_X11_takeHouse 39 = vAload 0 40 := rfl
theorem k_X11_takeHouse_40 : look a_X11_takeHouse 40 = vGetR TT 27 13 21 43 := rfl
theorem k_X11_takeHouse_43 : look a_X11_takeHouse 43 = vCallMV w_X5_forget 21 0 46 := rfl
theorem k_X11_takeHouse_46 : look a_X11_takeHouse 46 = vAload 0 47 := rfl
theorem k_X11_takeHouse_47 : look a_X11_takeHouse 47 = vGetR TT 27 16 17 50 := rfl
theorem k_X11_takeHouse_50 : look a_X11_takeHouse 50 = vI 0 51 := rfl
theorem k_X11_takeHouse_51 : look a_X11_takeHouse 51 = vPutI 17 4 54 := rfl
theorem k_X11_takeHouse_54 : look a_X11_takeHouse 54 = vAload 0 55 := rfl
theorem k_X11_takeHouse_55 : look a_X11_takeHouse 55 = vGetR TT 27 0 26 58 := rfl
theorem k_X11_takeHouse_58 : look a_X11_takeHouse 58 = vI 0 59 := rfl
theorem k_X11_takeHouse_59 : look a_X11_takeHouse 59 = vPutI 26 1 62 := rfl
theorem k_X11_takeHouse_62 : look a_X11_takeHouse 62 = vAload 0 63 := rfl
theorem k_X11_takeHouse_63 : look a_X11_takeHouse 63 = vGetR TT 27 2 22 66 := rfl
theorem k_X11_takeHouse_66 : look a_X11_takeHouse 66 = vI 2 67 := rfl
theorem k_X11_takeHouse_67 : look a_X11_takeHouse 67 = vCallM w_X6_many 22 1 70 := rfl
theorem k_X11_takeHouse_70 : look a_X11_takeHouse 70 = vIret := rfl
theorem o_X11_takeHouse {X : amX} (e1 : XT X = TT) (e2 : XD X = 7) (hB : amB X RX11 cX11_takeHouse (some .int) 1) : ∀ pc, amOK X pc (look a_X11_takeHouse pc) := by
  have hT : amTok (XT X) := e1 ▸ TT_ok
  refine look_ok ?_
  unfold a_X11_takeHouse
  refine fc (ok_aload_n hB dX11_takeHouse_0) ?_
  refine fc (okt_getR e1 hB hT fl_X11_19 rfl af_11_1 at_11_1 (by decide) dX11_takeHouse_1) ?_
  refine fc (ok_aload_n hB dX11_takeHouse_4) ?_
  refine fc (okt_getR e1 hB hT fl_X11_10 rfl af_11_0 at_11_0 (by decide) dX11_takeHouse_5) ?_
  refine fc (ok_callM hB hT (e1 ▸ s_X6_read) lk_X11_124 (by rw [e2]; decide) (c := 6) rfl rfl rfl wd_385 wd_386 dX11_takeHouse_8) ?_
  refine fc (ok_iconst hB dX11_takeHouse_11) ?_
  refine fc (ok_icmp_eq hB (t := 17) (by decide) dX11_takeHouse_12) ?_
  refine fc (ok_iconst hB dX11_takeHouse_15) ?_
  refine fc (ok_iret hB dX11_takeHouse_16) ?_
  refine fc (ok_aload_n hB dX11_takeHouse_17) ?_
  refine fc (okt_getR e1 hB hT fl_X11_23 rfl af_11_2 at_11_2 (by decide) dX11_takeHouse_18) ?_
  refine fc (ok_aload_n hB dX11_takeHouse_21) ?_
  refine fc (okt_getR e1 hB hT fl_X11_19 rfl af_11_1 at_11_1 (by decide) dX11_takeHouse_22) ?_
  refine fc (ok_callMV hB hT (e1 ▸ s_X6_copyFrom) lk_X11_141 (by rw [e2]; decide) (c := 6) rfl rfl rfl wd_658 wd_659 dX11_takeHouse_25) ?_
  refine fc (ok_aload_n hB dX11_takeHouse_28) ?_
  refine fc (okt_getR e1 hB hT fl_X11_65 rfl af_11_10 at_11_10 (by decide) dX11_takeHouse_29) ?_
  refine fc (ok_aload_n hB dX11_takeHouse_32) ?_
  refine fc (okt_getR e1 hB hT fl_X11_23 rfl af_11_2 at_11_2 (by decide) dX11_takeHouse_33) ?_
  refine fc (ok_callMV hB hT (e1 ▸ s_X0_enter) lk_X11_145 (by rw [e2]; decide) (c := 0) rfl rfl rfl wd_665 wd_666 dX11_takeHouse_36) ?_
  refine fc (ok_aload_n hB dX11_takeHouse_39) ?_
  refine fc (okt_getR e1 hB hT fl_X11_84 rfl af_11_13 at_11_13 (by decide) dX11_takeHouse_40) ?_
  refine fc (ok_callMV hB hT (e1 ▸ s_X5_forget) lk_X11_148 (by rw [e2]; decide) (c := 5) rfl rfl rfl wd_670 wd_671 dX11_takeHouse_43) ?_
  refine fc (ok_aload_n hB dX11_takeHouse_46) ?_
  refine fc (okt_getR e1 hB hT fl_X11_109 rfl af_11_16 at_11_16 (by decide) dX11_takeHouse_47) ?_
  refine fc (ok_iconst hB dX11_takeHouse_50) ?_
  refine fc (ok_putI hB hT fp_X11_151 rfl rfl rfl af_1_4 dX11_takeHouse_51) ?_
  refine fc (ok_aload_n hB dX11_takeHouse_54) ?_
  refine fc (okt_getR e1 hB hT fl_X11_10 rfl af_11_0 at_11_0 (by decide) dX11_takeHouse_55) ?_
  refine fc (ok_iconst hB dX11_takeHouse_58) ?_
  refine fc (ok_putI hB hT fp_X11_117 rfl rfl rfl af_10_1 dX11_takeHouse_59) ?_
  refine fc (ok_aload_n hB dX11_takeHouse_62) ?_
  refine fc (okt_getR e1 hB hT fl_X11_23 rfl af_11_2 at_11_2 (by decide) dX11_takeHouse_63) ?_
  refine fc (ok_iconst hB dX11_takeHouse_66) ?_
  refine fc (ok_callM hB hT (e1 ▸ s_X6_many) lk_X11_154 (by rw [e2]; decide) (c := 6) rfl rfl rfl wd_557 wd_558 dX11_takeHouse_67) ?_
  refine fc (ok_iret hB dX11_takeHouse_70) ?_
  exact fn
noncomputable abbrev hoF (σ : Mem) : Int × Int × (Int → Int) × (Int → Int) := hCls (tsg σ) (σ 1 1) 241 0 (fillm σ 5 4 0 5) (filv (σ 4) 0 0)
noncomputable def hoM (σ : Mem) : Mem := hst σ 3 (hoF σ).2.2.1 (hoF σ).2.2.2 (hoF σ).2.1
noncomputable def hoC (σ : Mem) : Mem := cpy (cpy (hoM σ) 4 0 7 0 68) 5 0 8 0 4
noncomputable def hoE (σ : Mem) : Mem := up (up (up (up (up (setAud (hoC σ) 16 (entF (hoC σ))) 31 1 0) 31 3 0) 31 8 0) 41 4 0) 1 1 0
def w_X11_takeHouse : WP := fun av σ Q => av = [(27, 0)] ∧ (tapeOk σ ∧ planB σ 3 ∧ InR (hoF σ).1 ∧ ((hoF σ).1 ≠ -1 → Q (0, -1) (hoM σ)) ∧ ((hoF σ).1 = -1 → Q (0, pcnt (hoE σ) 6 2) (hoE σ)))
theorem w_X11_takeHouse_e  (σ : Mem) (Q : AV → Mem → Prop) : w_X11_takeHouse [(27, 0)] σ Q = (tapeOk σ ∧ planB σ 3 ∧ InR (hoF σ).1 ∧ ((hoF σ).1 ≠ -1 → Q (0, -1) (hoM σ)) ∧ ((hoF σ).1 = -1 → Q (0, pcnt (hoE σ) 6 2) (hoE σ))) := by
  apply propext; constructor
  · rintro ⟨h9, hb9⟩; cases h9; exact hb9
  · intro hb9; exact ⟨rfl, hb9⟩

set_option maxRecDepth 100000 in
set_option maxHeartbeats 4000000 in
theorem s_X11_takeHouse : ∀ av σ Q, w_X11_takeHouse av σ Q → amCall 7 0 0 TT yX11_takeHouse cX11_takeHouse 1 (some .int) av σ Q := by
  rintro av σ Q ⟨rfl, ht, hp, hF, h1, h2⟩
  have e5 : (3 : Int) + 2 = 5 := rfl
  have e4 : (3 : Int) + 1 = 4 := rfl
  refine am_m0 (own := RX11) (A := look a_X11_takeHouse) (fun X e1 e2 hB => o_X11_takeHouse e1 e2 hB) rfl (by decide +kernel) rfl rfl 190 (w := 1) ?_
  change vcs _ _ _ _ 190 0 [(27, 0)] [] σ
  simp only [↓reduceIte, inR_0, inR_1, inR_m, vSw2_e, swP_n, swP_c, vI_e, vL_e, vNull_e, vIload_e, vLload_e, vAload_e, vIstore_e, vLstore_e, vAstore_e, vIinc_e, vIadd_e, vIsub_e, vImul_e, vIand_e, vIor_e, vIxor_e, vIshl_e, vIshr_e, vIushr_e, vIdiv_e, vIrem_e, vLadd_e, vLsub_e, vLmul_e, vLand_e, vLor_e, vLxor_e, vLdiv_e, vLrem_e, vLushr_e, vLshl_e, vLcmp_e, vIneg_e, vI2l_e, vL2i_e, vI2b_e, vI2c_e, vDup_e, vPop_e, vDup2_e, vGoto_e, vIcEq_e, vIfEq_e, vIcNe_e, vIfNe_e, vIcLt_e, vIfLt_e, vIcGe_e, vIfGe_e, vIcGt_e, vIfGt_e, vIcLe_e, vIfLe_e, vNonnull_e, vSw_e, vGetI_e, vGetL_e, vGetR_e, vPutI_e, vPutZ_e, vPutL_e, vPutR_e, vIald_e, vIald_s, vLald_e, vBald_e, vBald_s, vAald_e, vIast_e, vLast_e, vBast_e, vAast_e, vAlen_e8, vAlen_e9, vAlen_e10, vAlen_e11, vAlen_e5, vAlen_e3, vGets_e, vCompact_e, vLdcS_e, vIret_e, vZret_e, vCret_e, vBret_e, vLret_e, vVret_e, vAret_e, vCallM_e0, vCallMV_e0, vCallS_e0, vCallSV_e0, vCallM_e1, vCallMV_e1, vCallS_e1, vCallSV_e1, vCallM_e2, vCallMV_e2, vCallS_e2, vCallSV_e2, vCallM_e3, vCallMV_e3, vCallS_e3, vCallSV_e3, vCallM_e4, vCallMV_e4, vCallS_e4, vCallSV_e4, vCallM_e5, vCallMV_e5, vCallS_e5, vCallSV_e5, vCallM_e6, vCallMV_e6, vCallS_e6, vCallSV_e6, vCallM_e7, vCallMV_e7, vCallS_e7, vCallSV_e7, vBad_e, vStrVal_e, vStrCod_e, vForm_e, vCallT_e0, vCallT_e1, vCallT_e2, vCopy_e, rf_0_0, rf_0_1, rf_0_2, rf_0_3, rf_0_4, rf_0_7, rf_0_10, rf_0_11, rf_0_12, rf_0_13, rf_0_14, rf_0_15, rf_0_16, rf_1_0, rf_3_0, rf_3_1, rf_6_0, rf_6_1, rf_9_0, rf_9_1, rf_9_3, rf_13_0, rf_13_1, rf_13_2, rf_16_0, rf_16_1, rf_16_2, rf_16_3, rf_21_0, rf_21_1, rf_21_2, rf_21_3, rf_26_0, rf_26_1, rf_26_2, rf_26_3, rf_26_4, rf_26_5, rf_26_6, rf_31_0, rf_31_2, rf_31_5, rf_31_6, rf_36_0, rf_36_1, rf_36_2, rf_36_3, rf_39_0, rf_39_1, rf_39_2, rf_41_0, rf_41_1, rf_41_2, rf_41_3, rf_5000_1, rf_5000_2, rf_5000_3, rf_5000_4, rf_5000_5, rf_5000_15, rf_5000_16, rf_5000_18, rf_5000_19, rf_5000_20, rf_5000_21, rf_5000_22, rf_5000_23, rf_5000_24, rf_5000_25, rf_5000_26, rf_5000_27, rf_5000_36, rf_5000_37, rf_5000_40, rf_5000_41, rf_5000_42, rf_5000_43, rf_5000_44, rf_5000_45, rf_5000_47, rf_5000_52, rf_5000_54, rf_5000_55, rf_100_0, rf_100_1, rf_103_0, rf_103_1, rf_106_0, rf_106_1, rf_109_0, rf_109_1, al_2, al_4, al_5, al_7, al_8, al_10, al_11, al_12, al_14, al_15, al_17, al_18, al_19, al_20, al_22, al_23, al_24, al_25, al_27, al_28, al_29, al_30, al_32, al_33, al_34, al_35, al_37, al_38, al_40, al_42, al_5001, al_5002, al_5003, al_5004, al_5005, al_5006, al_5007, al_5008, al_5009, al_5010, al_5011, al_5012, al_5013, al_5014, al_5015, al_5016, al_5017, al_5018, al_5019, al_5020, al_5021, al_5022, al_5023, al_5024, al_5025, al_5026, al_9000, al_101, al_102, al_104, al_105, al_107, al_108, al_110, al_111, vcs_e, lg_c0, lg_cs, lg_nil, set_c0, set_cs, okst_0, okst_s, acok_n, acok_c, List.contains_nil, List.contains_cons, Bool.or_false, Bool.false_or, Bool.false_eq_true, if_false, if_true, ite_self, ne_eq, true_and, and_true, not_false_eq_true, not_true_eq_false, false_imp_iff, true_imp_iff, Nat.ble_eq, Bool.and_eq_true, reduceCtorEq, or_false, false_or, or_true, true_or, false_and, and_false, and_self, Int.reduceLE, Int.reduceAdd, Int.reduceSub, Int.reduceMul, Int.reduceNeg, Int.reduceLT, Int.reduceEq, Int.reduceNe, Nat.reduceBEq, Nat.reduceBNe, Nat.reduceEqDiff, amCmp_in, amCmp_lt, amCmp_le, amCmp_gt, amCmp_ge, amCmp_eq, amCmp_ne, Nat.reduceLeDiff, Nat.reduceSub, Bool.and_true, Bool.true_and, Bool.and_self, Bool.or_true, Bool.true_or, isRf_3, isRf_4, isRf_5, isRf_8, isRf_9, isRf_10, isRf_11, isRf_15, isRf_16, isRf_17, isRf_18, isRf_19, isRf_20, isRf_21, isRf_22, isRf_23, isRf_24, isRf_25, isRf_26, isRf_27, isRf_28, k_X11_takeHouse_0, k_X11_takeHouse_1, k_X11_takeHouse_4, k_X11_takeHouse_5, k_X11_takeHouse_8, k_X11_takeHouse_11, k_X11_takeHouse_12, k_X11_takeHouse_15, k_X11_takeHouse_16, k_X11_takeHouse_17, k_X11_takeHouse_18, k_X11_takeHouse_21, k_X11_takeHouse_22, k_X11_takeHouse_25, k_X11_takeHouse_28, k_X11_takeHouse_29, k_X11_takeHouse_32, k_X11_takeHouse_33, k_X11_takeHouse_36, k_X11_takeHouse_39, k_X11_takeHouse_40, k_X11_takeHouse_43, k_X11_takeHouse_46, k_X11_takeHouse_47, k_X11_takeHouse_50, k_X11_takeHouse_51, k_X11_takeHouse_54, k_X11_takeHouse_55, k_X11_takeHouse_58, k_X11_takeHouse_59, k_X11_takeHouse_62, k_X11_takeHouse_63, k_X11_takeHouse_66, k_X11_takeHouse_67, k_X11_takeHouse_70, w_X0_enter_e, w_X5_forget_e, w_X6_copyFrom_e, w_X6_many_e, w_X6_read_e, up_s, up_nj, up_na, up_up, savR_o, cpy_o, fillm_o, setAud_o, setv_o, setv_s, Int.reduceNe, Int.reduceEq, Int.reduceLT, Int.reduceAdd, not_false_eq_true, ne_eq, or_true, true_or, e5, e4]
  unfold hoE hoC hoM hoF at *
  by_cases c : (hCls (tsg σ) (σ 1 1) 241 0 (fillm σ 5 4 0 5) (filv (σ 4) 0 0)).1 = -1
  · have hh := h2 c
    repeat' (first | assumption | apply And.intro | intro _)
    all_goals first | omega | exact absurd trivial (by assumption) | exact isP3 | exact isP6 | exact hh
  · have hh := h1 c
    repeat' (first | assumption | apply And.intro | intro _)
    all_goals first | omega | exact absurd trivial (by assumption) | exact isP3 | exact hh
