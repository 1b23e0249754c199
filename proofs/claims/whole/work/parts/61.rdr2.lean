/-! LawReader: its steps -/

theorem wd_608 : Cond.methodLink RX3 120 yX3_hold ∈ TBL := tb_tab (List.mem_of_getElem? (i := 608) (by decide +kernel)) rfl
theorem wd_611 : Cond.code yX3_hold cX3_hold 2 (none) ∈ TBL := tb_tab (List.mem_of_getElem? (i := 611) (by decide +kernel)) rfl
theorem lk_X3_120 : amLk RX3 120 yX3_hold cX3_hold 2 (none) 1 := ⟨wd_608, wd_4, wd_611, by decide +kernel, by decide +kernel, by decide⟩
theorem wd_610 : Cond.instanceMethod yX3_hold ∈ TBL := tb_tab (List.mem_of_getElem? (i := 610) (by decide +kernel)) rfl
theorem sl_X3_hold : Cond.selects RX3 yX3_hold yX3_hold ∈ TBL := tb_sel (List.mem_of_getElem? (i := 12) (by decide +kernel)) rfl
theorem wd_84 : Cond.fieldLink RX3 33 "ArmchairHouse$LawReader" "brackets" "I" ∈ TBL := tb_tab (List.mem_of_getElem? (i := 84) (by decide +kernel)) rfl
theorem fl_X3_33 : amFl RX3 3 7 33 RX3 TX3 12 := ⟨rfl, inT_3, by decide, wd_84⟩
theorem fp_X3_33 : amFp RX3 3 7 33 RX3 TX3 12 tyX3 .int := ⟨fl_X3_33, tyX3_ok, nmX3, by decide +kernel⟩
theorem wd_88 : Cond.fieldLink RX3 46 "ArmchairHouse$LawReader" "unitMayBegin" "Z" ∈ TBL := tb_tab (List.mem_of_getElem? (i := 88) (by decide +kernel)) rfl
theorem fl_X3_46 : amFl RX3 3 11 46 RX3 TX3 12 := ⟨rfl, inT_3, by decide, wd_88⟩
theorem fp_X3_46 : amFp RX3 3 11 46 RX3 TX3 12 tyX3 .boolean := ⟨fl_X3_46, tyX3_ok, nmX3, by decide +kernel⟩
theorem wd_82 : Cond.fieldLink RX3 27 "ArmchairHouse$LawReader" "side" "I" ∈ TBL := tb_tab (List.mem_of_getElem? (i := 82) (by decide +kernel)) rfl
theorem fl_X3_27 : amFl RX3 3 5 27 RX3 TX3 12 := ⟨rfl, inT_3, by decide, wd_82⟩
theorem fp_X3_27 : amFp RX3 3 5 27 RX3 TX3 12 tyX3 .int := ⟨fl_X3_27, tyX3_ok, nmX3, by decide +kernel⟩
theorem wd_85 : Cond.fieldLink RX3 36 "ArmchairHouse$LawReader" "rounds" "I" ∈ TBL := tb_tab (List.mem_of_getElem? (i := 85) (by decide +kernel)) rfl
theorem fl_X3_36 : amFl RX3 3 8 36 RX3 TX3 12 := ⟨rfl, inT_3, by decide, wd_85⟩
theorem fp_X3_36 : amFp RX3 3 8 36 RX3 TX3 12 tyX3 .int := ⟨fl_X3_36, tyX3_ok, nmX3, by decide +kernel⟩
theorem wd_77 : Cond.fieldLink RX3 49 "ArmchairHouse$LawReader" "tape" "LArmchairHouse$Tape;" ∈ TBL := tb_tab (List.mem_of_getElem? (i := 77) (by decide +kernel)) rfl
theorem fl_X3_49 : amFl RX3 3 0 49 RX3 TX3 12 := ⟨rfl, inT_3, by decide, wd_77⟩
theorem wd_47 : Cond.fieldLink RX3 53 "ArmchairHouse$Tape" "at" "I" ∈ TBL := tb_tab (List.mem_of_getElem? (i := 47) (by decide +kernel)) rfl
theorem fl_X3_53 : amFl RX3 10 2 53 RX10 TX10 3 := ⟨rfl, inT_10, by decide, wd_47⟩
theorem fp_X3_53 : amFp RX3 10 2 53 RX10 TX10 3 tyX10 .int := ⟨fl_X3_53, tyX10_ok, nmX10, by decide +kernel⟩
def a_X3_open : AC := [(0, vAload 0 1), (1, vIload 1 2), (2, vCallMV w_X3_hold 19 1 5), (5, vAload 0 6), (6, vDup 7), (7, vGetI 19 6 10), (10, vI 1 11), (11, vIadd 12), (12, vPutI 19 6 15), (15, vIload 1 16), (16, vI 91 18), (18, vIcNe 39 21), (21, vAload 0 22), (22, vDup 23), (23, vGetI 19 7 26), (26, vI 1 27), (27, vIadd 28), (28, vPutI 19 7 31), (31, vAload 0 32), (32, vI 0 33), (33, vPutZ 19 11 36), (36, vGoto 64), (39, vAload 0 40), (40, vI 1 41), (41, vPutI 19 5 44), (44, vAload 0 45), (45, vDup 46), (46, vGetI 19 8 49), (49, vIload 1 50), (50, vI 40 52), (52, vIcNe 59 55), (55, vI 1 56), (56, vGoto 60), (59, vI 0 60), (60, vIadd 61), (61, vPutI 19 8 64), (64, vAload 0 65), (65, vGetR TT 19 0 26 68), (68, vDup 69), (69, vGetI 26 2 72), (72, vI 1 73), (73, vIadd 74), (74, vPutI 26 2 77), (77, vI 1 78), (78, vZret)]
theorem k_X3_open_0 : look a_X3_open 0 = vAload 0 1 := rfl
theorem k_X3_open_1 : look a_X3_open 1 = vIload 1 2 := rfl
theorem k_X3_open_2 : look a_X3_open 2 = vCallMV w_X3_hold 19 1 5 := rfl
theorem k_X3_open_5 : look a_X3_open 5 = vAload 0 6 := rfl
theorem k_X3_open_6 : look a_X3_open 6 = vDup 7 := rfl
theorem k_X3_open_7 : look a_X3_open 7 = vGetI 19 6 10 := rfl
theorem k_X3_open_10 : look a_X3_open 10 = vI 1 11 := rfl
theorem k_X3_open_11 : look a_X3_open 11 = vIadd 12 := rfl
theorem k_X3_open_12 : look a_X3_open 12 = vPutI 19 6 15 := rfl
theorem k_X3_open_15 : look a_X3_open 15 = vIload 1 16 := rfl
theorem k_X3_open_16 : look a_X3_open 16 = vI 91 18 := rfl
theorem k_X3_open_18 : look a_X3_open 18 = vIcNe 39 21 := rfl
theorem k_X3_open_21 : look a_X3_open 21 = vAload 0 22 := rfl
theorem k_X3_open_22 : look a_X3_open 22 = vDup 23 := rfl
theorem k_X3_open_23 : look a_X3_open 23 = vGetI 19 7 26 := rfl
theorem k_X3_open_26 : look a_X3_open 26 = vI 1 27 := rfl
theorem k_X3_open_27 : look a_X3_open 27 = vIadd 28 := rfl
theorem k_X3_open_28 : look a_X3_open 28 = vPutI 19 7 31 := rfl
theorem k_X3_open_31 : look a_X3_open 31 = vAload 0 32 := rfl
theorem k_X3_open_32 : look a_X3_open 32 = vI 0 33 := rfl
theorem k_X3_open_33 : look a_X3_open 33 = vPutZ 19 11 36 := rfl
theorem k_X3_open_36 : look a_X3_open 36 = vGoto 64 := rfl
theorem k_X3_open_39 : look a_X3_open 39 = vAload 0 40 := rfl
theorem k_X3_open_40 : look a_X3_open 40 = vI 1 41 := rfl
theorem k_X3_open_41 : look a_X3_open 41 = vPutI 19 5 44 := rfl
theorem k_X3_open_44 : look a_X3_open 44 = vAload 0 45 := rfl
theorem k_X3_open_45 : look a_X3_open 45 = vDup 46 := rfl
theorem k_X3_open_46 : look a_X3_open 46 = vGetI 19 8 49 := rfl
theorem k_X3_open_49 : look a_X3_open 49 = vIload 1 50 := rfl
theorem k_X3_open_50 : look a_X3_open 50 = vI 40 52 := rfl
theorem k_X3_open_52 : look a_X3_open 52 = vIcNe 59 55 := rfl
theorem k_X3_open_55 : look a_X3_open 55 = vI 1 56 := rfl
theorem k_X3_open_56 : look a_X3_open 56 = vGoto 60 := rfl
theorem k_X3_open_59 : look a_X3_open 59 = vI 0 60 := rfl
theorem k_X3_open_60 : look a_X3_open 60 = vIadd 61 := rfl
theorem k_X3_open_61 : look a_X3_open 61 = vPutI 19 8 64 := rfl
theorem k_X3_open_64 : look a_X3_open 64 = vAload 0 65 := rfl
theorem k_X3_open_65 : look a_X3_open 65 = vGetR TT 19 0 26 68 := rfl
theorem k_X3_open_68 : look a_X3_open 68 = vDup 69 := rfl
theorem k_X3_open_69 : look a_X3_open 69 = vGetI 26 2 72 := rfl
theorem k_X3_open_72 : look a_X3_open 72 = vI 1 73 := rfl
theorem k_X3_open_73 : look a_X3_open 73 = vIadd 74 := rfl
theorem k_X3_open_74 : look a_X3_open 74 = vPutI 26 2 77 := rfl
theorem k_X3_open_77 : look a_X3_open 77 = vI 1 78 := rfl
theorem k_X3_open_78 : look a_X3_open 78 = vZret := rfl
theorem o_X3_open {X : amX} (e1 : XT X = TT) (e2 : XD X = 1) (hB : amB X RX3 cX3_open (some .boolean) 2) : ∀ pc, amOK X pc (look a_X3_open pc) := by
  have hT : amTok (XT X) := e1 ▸ TT_ok
  refine look_ok ?_
  unfold a_X3_open
  refine fc (ok_aload_n hB dX3_open_0) ?_
  refine fc (ok_iload_n hB dX3_open_1) ?_
  refine fc (ok_callMV hB hT (e1 ▸ s_X3_hold) lk_X3_120 (by rw [e2]; decide) (c := 3) rfl rfl rfl wd_610 sl_X3_hold dX3_open_2) ?_
  refine fc (ok_aload_n hB dX3_open_5) ?_
  refine fc (ok_dup hB dX3_open_6) ?_
  refine fc (ok_getI hB hT fl_X3_30 rfl rfl (Or.inl af_3_6) dX3_open_7) ?_
  refine fc (ok_iconst hB dX3_open_10) ?_
  refine fc (ok_iadd hB dX3_open_11) ?_
  refine fc (ok_putI hB hT fp_X3_30 rfl rfl rfl af_3_6 dX3_open_12) ?_
  refine fc (ok_iload_n hB dX3_open_15) ?_
  refine fc (ok_bipush hB dX3_open_16 (by decide)) ?_
  refine fc (ok_icmp_ne hB (t := 39) (by decide) dX3_open_18) ?_
  refine fc (ok_aload_n hB dX3_open_21) ?_
  refine fc (ok_dup hB dX3_open_22) ?_
  refine fc (ok_getI hB hT fl_X3_33 rfl rfl (Or.inl af_3_7) dX3_open_23) ?_
  refine fc (ok_iconst hB dX3_open_26) ?_
  refine fc (ok_iadd hB dX3_open_27) ?_
  refine fc (ok_putI hB hT fp_X3_33 rfl rfl rfl af_3_7 dX3_open_28) ?_
  refine fc (ok_aload_n hB dX3_open_31) ?_
  refine fc (ok_iconst hB dX3_open_32) ?_
  refine fc (ok_putZ hB hT fp_X3_46 rfl rfl rfl af_3_11 dX3_open_33) ?_
  refine fc (ok_goto hB (t := 64) (by decide) dX3_open_36) ?_
  refine fc (ok_aload_n hB dX3_open_39) ?_
  refine fc (ok_iconst hB dX3_open_40) ?_
  refine fc (ok_putI hB hT fp_X3_27 rfl rfl rfl af_3_5 dX3_open_41) ?_
  refine fc (ok_aload_n hB dX3_open_44) ?_
  refine fc (ok_dup hB dX3_open_45) ?_
  refine fc (ok_getI hB hT fl_X3_36 rfl rfl (Or.inl af_3_8) dX3_open_46) ?_
  refine fc (ok_iload_n hB dX3_open_49) ?_
  refine fc (ok_bipush hB dX3_open_50 (by decide)) ?_
  refine fc (ok_icmp_ne hB (t := 59) (by decide) dX3_open_52) ?_
  refine fc (ok_iconst hB dX3_open_55) ?_
  refine fc (ok_goto hB (t := 60) (by decide) dX3_open_56) ?_
  refine fc (ok_iconst hB dX3_open_59) ?_
  refine fc (ok_iadd hB dX3_open_60) ?_
  refine fc (ok_putI hB hT fp_X3_36 rfl rfl rfl af_3_8 dX3_open_61) ?_
  refine fc (ok_aload_n hB dX3_open_64) ?_
  refine fc (okt_getR e1 hB hT fl_X3_49 rfl af_3_0 at_3_0 (by decide) dX3_open_65) ?_
  refine fc (ok_dup hB dX3_open_68) ?_
  refine fc (ok_getI hB hT fl_X3_53 rfl rfl (Or.inl af_10_2) dX3_open_69) ?_
  refine fc (ok_iconst hB dX3_open_72) ?_
  refine fc (ok_iadd hB dX3_open_73) ?_
  refine fc (ok_putI hB hT fp_X3_53 rfl rfl rfl af_10_2 dX3_open_74) ?_
  refine fc (ok_iconst hB dX3_open_77) ?_
  refine fc (ok_zret hB dX3_open_78) ?_
  exact fn

def w_X3_open : WP := fun av σ Q => ∃ (x : Int), av = [(19, 9), (0, x)] ∧ (∃ (m : Mem) (p : Int) (C W : List Int) (sd wi br ro ska wa um : Int), RdP m σ p C W sd wi br ro ska wa um ∧ W.length ≤ 60 ∧ 0 ≤ wi ∧ wi ≤ 100 ∧ 0 ≤ br ∧ br ≤ 100 ∧ 0 ≤ ro ∧ ro ≤ 100 ∧ 0 ≤ p ∧ p ≤ 1000 ∧ 0 ≤ x ∧ x ≤ 255 ∧
(x = 91 → ∀ τ, RdP m τ (p + 1) C (x :: W) sd (wi + 1) (br + 1) ro ska wa 0 → Q (0, 1) τ) ∧ (x ≠ 91 → ∀ τ, RdP m τ (p + 1) C (x :: W) 1 (wi + 1) br (ro + if x = 40 then 1 else 0) ska wa um → Q (0, 1) τ))
theorem w_X3_open_e (x : Int) (σ : Mem) (Q : AV → Mem → Prop) : w_X3_open [(19, 9), (0, x)] σ Q = (∃ (m : Mem) (p : Int) (C W : List Int) (sd wi br ro ska wa um : Int), RdP m σ p C W sd wi br ro ska wa um ∧ W.length ≤ 60 ∧ 0 ≤ wi ∧ wi ≤ 100 ∧ 0 ≤ br ∧ br ≤ 100 ∧ 0 ≤ ro ∧ ro ≤ 100 ∧ 0 ≤ p ∧ p ≤ 1000 ∧ 0 ≤ x ∧ x ≤ 255 ∧
(x = 91 → ∀ τ, RdP m τ (p + 1) C (x :: W) sd (wi + 1) (br + 1) ro ska wa 0 → Q (0, 1) τ) ∧ (x ≠ 91 → ∀ τ, RdP m τ (p + 1) C (x :: W) 1 (wi + 1) br (ro + if x = 40 then 1 else 0) ska wa um → Q (0, 1) τ)) := by
  apply propext; constructor
  · rintro ⟨x', h9, hb9⟩; cases h9; exact hb9
  · intro hb9; exact ⟨x, rfl, hb9⟩

set_option maxRecDepth 100000 in
set_option maxHeartbeats 4000000 in
theorem s_X3_open : ∀ av σ Q, w_X3_open av σ Q → amCall 1 0 0 TT yX3_open cX3_open 2 (some .boolean) av σ Q := by
  rintro av σ Q ⟨x, rfl, m, p, C, W, sd, wi, br, ro, ska, wa, um, hL, h1, h2, h3, h4, h5, h6, h7, h8, h9, h10, h11, hA, hB⟩
  have e4 : σ 9 4 = W.length := hL.2.2.1.1
  have e6 : σ 9 6 = wi := hL.2.2.2.2.1
  have e7 : σ 9 7 = br := hL.2.2.2.2.2.1
  have e8 : σ 9 8 = ro := hL.2.2.2.2.2.2.1
  have ep : σ 1 2 = p := hL.1.2.2
  refine am_m0 (own := RX3) (A := look a_X3_open) (fun X e1 e2 hB => o_X3_open e1 e2 hB) rfl (by decide +kernel) rfl rfl 90 (w := 2) ?_
  change vcs _ _ _ _ 90 0 [(19, 9), (0, x)] [] σ
  simp only [↓reduceIte, vSw2_e, swP_n, swP_c, vI_e, vL_e, vNull_e, vIload_e, vLload_e, vAload_e, vIstore_e, vLstore_e, vAstore_e, vIinc_e, vIadd_e, vIsub_e, vImul_e, vIand_e, vIor_e, vIxor_e, vIshl_e, vIshr_e, vIushr_e, vIdiv_e, vIrem_e, vLadd_e, vLsub_e, vLmul_e, vLand_e, vLor_e, vLxor_e, vLdiv_e, vLrem_e, vLushr_e, vLshl_e, vLcmp_e, vIneg_e, vI2l_e, vL2i_e, vI2b_e, vI2c_e, vDup_e, vPop_e, vDup2_e, vGoto_e, vIcEq_e, vIfEq_e, vIcNe_e, vIfNe_e, vIcLt_e, vIfLt_e, vIcGe_e, vIfGe_e, vIcGt_e, vIfGt_e, vIcLe_e, vIfLe_e, vNonnull_e, vSw_e, vGetI_e, vGetL_e, vGetR_e, vPutI_e, vPutZ_e, vPutL_e, vPutR_e, vIald_e, vIald_s, vLald_e, vBald_e, vBald_s, vAald_e, vIast_e, vLast_e, vBast_e, vAast_e, vAlen_e8, vAlen_e9, vAlen_e10, vAlen_e11, vAlen_e5, vAlen_e3, vGets_e, vCompact_e, vLdcS_e, vIret_e, vZret_e, vCret_e, vBret_e, vLret_e, vVret_e, vAret_e, vCallM_e0, vCallMV_e0, vCallS_e0, vCallSV_e0, vCallM_e1, vCallMV_e1, vCallS_e1, vCallSV_e1, vCallM_e2, vCallMV_e2, vCallS_e2, vCallSV_e2, vCallM_e3, vCallMV_e3, vCallS_e3, vCallSV_e3, vCallM_e4, vCallMV_e4, vCallS_e4, vCallSV_e4, vCallM_e5, vCallMV_e5, vCallS_e5, vCallSV_e5, vCallM_e6, vCallMV_e6, vCallS_e6, vCallSV_e6, vCallM_e7, vCallMV_e7, vCallS_e7, vCallSV_e7, vBad_e, vStrVal_e, vStrCod_e, vForm_e, vCallT_e0, vCallT_e1, vCallT_e2, vCopy_e, rf_0_0, rf_0_1, rf_0_2, rf_0_3, rf_0_4, rf_0_7, rf_0_10, rf_0_11, rf_0_12, rf_0_13, rf_0_14, rf_0_15, rf_0_16, rf_1_0, rf_3_0, rf_3_1, rf_6_0, rf_6_1, rf_9_0, rf_9_1, rf_9_3, rf_13_0, rf_13_1, rf_13_2, rf_16_0, rf_16_1, rf_16_2, rf_16_3, rf_21_0, rf_21_1, rf_21_2, rf_21_3, rf_26_0, rf_26_1, rf_26_2, rf_26_3, rf_26_4, rf_26_5, rf_26_6, rf_31_0, rf_31_2, rf_31_5, rf_31_6, rf_36_0, rf_36_1, rf_36_2, rf_36_3, rf_39_0, rf_39_1, rf_39_2, rf_41_0, rf_41_1, rf_41_2, rf_41_3, rf_5000_1, rf_5000_2, rf_5000_3, rf_5000_4, rf_5000_5, rf_5000_15, rf_5000_16, rf_5000_18, rf_5000_19, rf_5000_20, rf_5000_21, rf_5000_22, rf_5000_23, rf_5000_24, rf_5000_25, rf_5000_26, rf_5000_27, rf_5000_36, rf_5000_37, rf_5000_40, rf_5000_41, rf_5000_42, rf_5000_43, rf_5000_44, rf_5000_45, rf_5000_47, rf_5000_52, rf_5000_54, rf_5000_55, rf_100_0, rf_100_1, rf_103_0, rf_103_1, rf_106_0, rf_106_1, rf_109_0, rf_109_1, al_2, al_4, al_5, al_7, al_8, al_10, al_11, al_12, al_14, al_15, al_17, al_18, al_19, al_20, al_22, al_23, al_24, al_25, al_27, al_28, al_29, al_30, al_32, al_33, al_34, al_35, al_37, al_38, al_40, al_42, al_5001, al_5002, al_5003, al_5004, al_5005, al_5006, al_5007, al_5008, al_5009, al_5010, al_5011, al_5012, al_5013, al_5014, al_5015, al_5016, al_5017, al_5018, al_5019, al_5020, al_5021, al_5022, al_5023, al_5024, al_5025, al_5026, al_9000, al_101, al_102, al_104, al_105, al_107, al_108, al_110, al_111, vcs_e, lg_c0, lg_cs, lg_nil, set_c0, set_cs, okst_0, okst_s, acok_n, acok_c, List.contains_nil, List.contains_cons, Bool.or_false, Bool.false_or, Bool.false_eq_true, if_false, if_true, ite_self, ne_eq, true_and, and_true, not_false_eq_true, not_true_eq_false, false_imp_iff, true_imp_iff, Nat.ble_eq, Bool.and_eq_true, reduceCtorEq, or_false, false_or, or_true, true_or, false_and, and_false, and_self, Int.reduceLE, Int.reduceAdd, Int.reduceSub, Int.reduceMul, Int.reduceNeg, Int.reduceLT, Int.reduceEq, Int.reduceNe, Nat.reduceBEq, Nat.reduceBNe, Nat.reduceEqDiff, amCmp_in, amCmp_lt, amCmp_le, amCmp_gt, amCmp_ge, amCmp_eq, amCmp_ne, Nat.reduceLeDiff, Nat.reduceSub, Bool.and_true, Bool.true_and, Bool.and_self, Bool.or_true, Bool.true_or, isRf_3, isRf_4, isRf_5, isRf_8, isRf_9, isRf_10, isRf_11, isRf_15, isRf_16, isRf_17, isRf_18, isRf_19, isRf_20, isRf_21, isRf_22, isRf_23, isRf_24, isRf_25, isRf_26, isRf_27, isRf_28, k_X3_open_0, k_X3_open_1, k_X3_open_2, k_X3_open_5, k_X3_open_6, k_X3_open_7, k_X3_open_10, k_X3_open_11, k_X3_open_12, k_X3_open_15, k_X3_open_16, k_X3_open_18, k_X3_open_21, k_X3_open_22, k_X3_open_23, k_X3_open_26, k_X3_open_27, k_X3_open_28, k_X3_open_31, k_X3_open_32, k_X3_open_33, k_X3_open_36, k_X3_open_39, k_X3_open_40, k_X3_open_41, k_X3_open_44, k_X3_open_45, k_X3_open_46, k_X3_open_49, k_X3_open_50, k_X3_open_52, k_X3_open_55, k_X3_open_56, k_X3_open_59, k_X3_open_60, k_X3_open_61, k_X3_open_64, k_X3_open_65, k_X3_open_68, k_X3_open_69, k_X3_open_72, k_X3_open_73, k_X3_open_74, k_X3_open_77, k_X3_open_78, w_X3_hold_e, up_s, up_nj, up_na, up_up, savR_o, cpy_o, fillm_o, setAud_o, setv_o, setv_s, Int.reduceNe, Int.reduceEq, Int.reduceLT, Int.reduceAdd, not_false_eq_true, ne_eq, or_true, true_or, e4, e6, e7, e8, ep]
  have L0 := RdP_6 (RdP_hold hL ⟨h10, h11⟩) (wi + 1)
  by_cases c : x = 91
  · have hA' := hA c _ (RdP_p (RdP_11 (RdP_7 L0 (br + 1)) 0) (p + 1))
    repeat' (first | apply And.intro | intro _)
    all_goals first | omega | exact hA'
  · by_cases c2 : x = 40
    · rw [if_pos c2] at hB
      have hB' := hB c _ (RdP_p (RdP_8 (RdP_5 L0 1) (ro + 1)) (p + 1))
      repeat' (first | apply And.intro | intro _)
      all_goals first | omega | exact hB'
    · rw [if_neg c2] at hB
      have hB' := hB c _ (RdP_p (RdP_8 (RdP_5 L0 1) (ro + 0)) (p + 1))
      repeat' (first | apply And.intro | intro _)
      all_goals first | omega | exact hB'
theorem wd_585 : Cond.methodLink RX3 139 yX3_settle ∈ TBL := tb_tab (List.mem_of_getElem? (i := 585) (by decide +kernel)) rfl
theorem wd_588 : Cond.code yX3_settle cX3_settle 2 (none) ∈ TBL := tb_tab (List.mem_of_getElem? (i := 588) (by decide +kernel)) rfl
theorem lk_X3_139 : amLk RX3 139 yX3_settle cX3_settle 2 (none) 1 := ⟨wd_585, wd_4, wd_588, by decide +kernel, by decide +kernel, by decide⟩
theorem wd_587 : Cond.instanceMethod yX3_settle ∈ TBL := tb_tab (List.mem_of_getElem? (i := 587) (by decide +kernel)) rfl
theorem sl_X3_settle : Cond.selects RX3 yX3_settle yX3_settle ∈ TBL := tb_sel (List.mem_of_getElem? (i := 8) (by decide +kernel)) rfl
theorem wd_87 : Cond.fieldLink RX3 42 "ArmchairHouse$LawReader" "wantsAtom" "Z" ∈ TBL := tb_tab (List.mem_of_getElem? (i := 87) (by decide +kernel)) rfl
theorem fl_X3_42 : amFl RX3 3 10 42 RX3 TX3 12 := ⟨rfl, inT_3, by decide, wd_87⟩
theorem fp_X3_42 : amFp RX3 3 10 42 RX3 TX3 12 tyX3 .boolean := ⟨fl_X3_42, tyX3_ok, nmX3, by decide +kernel⟩
def a_X3_join : AC := [(0, vAload 0 1), (1, vIload 1 2), (2, vCallS w_X3_strength 1 5), (5, vCallMV w_X3_settle 19 1 8), (8, vAload 0 9), (9, vIload 1 10), (10, vCallMV w_X3_hold 19 1 13), (13, vAload 0 14), (14, vIload 2 15), (15, vPutI 19 5 18), (18, vAload 0 19), (19, vI 1 20), (20, vPutZ 19 10 23), (23, vAload 0 24), (24, vIload 3 25), (25, vPutZ 19 11 28), (28, vAload 0 29), (29, vGetR TT 19 0 26 32), (32, vDup 33), (33, vGetI 26 2 36), (36, vI 1 37), (37, vIadd 38), (38, vPutI 26 2 41), (41, vI 1 42), (42, vZret)]
theorem k_X3_join_0 : look a_X3_join 0 = vAload 0 1 := rfl
theorem k_X3_join_1 : look a_X3_join 1 = vIload 1 2 := rfl
theorem k_X3_join_2 : look a_X3_join 2 = vCallS w_X3_strength 1 5 := rfl
theorem k_X3_join_5 : look a_X3_join 5 = vCallMV w_X3_settle 19 1 8 := rfl
theorem k_X3_join_8 : look a_X3_join 8 = vAload 0 9 := rfl
theorem k_X3_join_9 : look a_X3_join 9 = vIload 1 10 := rfl
theorem k_X3_join_10 : look a_X3_join 10 = vCallMV w_X3_hold 19 1 13 := rfl
theorem k_X3_join_13 : look a_X3_join 13 = vAload 0 14 := rfl
theorem k_X3_join_14 : look a_X3_join 14 = vIload 2 15 := rfl
theorem k_X3_join_15 : look a_X3_join 15 = vPutI 19 5 18 := rfl
theorem k_X3_join_18 : look a_X3_join 18 = vAload 0 19 := rfl
theorem k_X3_join_19 : look a_X3_join 19 = vI 1 20 := rfl
theorem k_X3_join_20 : look a_X3_join 20 = vPutZ 19 10 23 := rfl
theorem k_X3_join_23 : look a_X3_join 23 = vAload 0 24 := rfl
theorem k_X3_join_24 : look a_X3_join 24 = vIload 3 25 := rfl
theorem k_X3_join_25 : look a_X3_join 25 = vPutZ 19 11 28 := rfl
theorem k_X3_join_28 : look a_X3_join 28 = vAload 0 29 := rfl
theorem k_X3_join_29 : look a_X3_join 29 = vGetR TT 19 0 26 32 := rfl
theorem k_X3_join_32 : look a_X3_join 32 = vDup 33 := rfl
theorem k_X3_join_33 : look a_X3_join 33 = vGetI 26 2 36 := rfl
theorem k_X3_join_36 : look a_X3_join 36 = vI 1 37 := rfl
theorem k_X3_join_37 : look a_X3_join 37 = vIadd 38 := rfl
theorem k_X3_join_38 : look a_X3_join 38 = vPutI 26 2 41 := rfl
theorem k_X3_join_41 : look a_X3_join 41 = vI 1 42 := rfl
theorem k_X3_join_42 : look a_X3_join 42 = vZret := rfl
theorem o_X3_join {X : amX} (e1 : XT X = TT) (e2 : XD X = 2) (hB : amB X RX3 cX3_join (some .boolean) 4) : ∀ pc, amOK X pc (look a_X3_join pc) := by
  have hT : amTok (XT X) := e1 ▸ TT_ok
  refine look_ok ?_
  unfold a_X3_join
  refine fc (ok_aload_n hB dX3_join_0) ?_
  refine fc (ok_iload_n hB dX3_join_1) ?_
  refine fc (ok_callS hB (e1 ▸ s_X3_strength) lk_X3_136 (by rw [e2]; decide) wd_590 dX3_join_2) ?_
  refine fc (ok_callMV hB hT (e1 ▸ s_X3_settle) lk_X3_139 (by rw [e2]; decide) (c := 3) rfl rfl rfl wd_587 sl_X3_settle dX3_join_5) ?_
  refine fc (ok_aload_n hB dX3_join_8) ?_
  refine fc (ok_iload_n hB dX3_join_9) ?_
  refine fc (ok_callMV hB hT (e1 ▸ s_X3_hold) lk_X3_120 (by rw [e2]; decide) (c := 3) rfl rfl rfl wd_610 sl_X3_hold dX3_join_10) ?_
  refine fc (ok_aload_n hB dX3_join_13) ?_
  refine fc (ok_iload_n hB dX3_join_14) ?_
  refine fc (ok_putI hB hT fp_X3_27 rfl rfl rfl af_3_5 dX3_join_15) ?_
  refine fc (ok_aload_n hB dX3_join_18) ?_
  refine fc (ok_iconst hB dX3_join_19) ?_
  refine fc (ok_putZ hB hT fp_X3_42 rfl rfl rfl af_3_10 dX3_join_20) ?_
  refine fc (ok_aload_n hB dX3_join_23) ?_
  refine fc (ok_iload_n hB dX3_join_24) ?_
  refine fc (ok_putZ hB hT fp_X3_46 rfl rfl rfl af_3_11 dX3_join_25) ?_
  refine fc (ok_aload_n hB dX3_join_28) ?_
  refine fc (okt_getR e1 hB hT fl_X3_49 rfl af_3_0 at_3_0 (by decide) dX3_join_29) ?_
  refine fc (ok_dup hB dX3_join_32) ?_
  refine fc (ok_getI hB hT fl_X3_53 rfl rfl (Or.inl af_10_2) dX3_join_33) ?_
  refine fc (ok_iconst hB dX3_join_36) ?_
  refine fc (ok_iadd hB dX3_join_37) ?_
  refine fc (ok_putI hB hT fp_X3_53 rfl rfl rfl af_10_2 dX3_join_38) ?_
  refine fc (ok_iconst hB dX3_join_41) ?_
  refine fc (ok_zret hB dX3_join_42) ?_
  exact fn

def w_X3_join : WP := fun av σ Q => ∃ (x : Int) (s : Int) (u : Int), av = [(19, 9), (0, x), (0, s), (0, u)] ∧ (∃ (m : Mem) (p : Int) (C W : List Int) (sd wi br ro ska wa um : Int), RdP m σ p C W sd wi br ro ska wa um ∧ C.length + W.length ≤ 238 ∧ W.length ≤ 60 ∧ 0 ≤ wi ∧ wi ≤ 100 ∧ 0 ≤ p ∧ p ≤ 1000 ∧ 0 ≤ x ∧ x ≤ 255 ∧ InR s ∧ (u = 0 ∨ u = 1) ∧
(∀ τ, RdP m τ (p + 1) (C ++ sC (stren x) W) (x :: sW (stren x) W) s (wi - sN (stren x) W) br ro ska 1 u → Q (0, 1) τ))
theorem w_X3_join_e (x : Int) (s : Int) (u : Int) (σ : Mem) (Q : AV → Mem → Prop) : w_X3_join [(19, 9), (0, x), (0, s), (0, u)] σ Q = (∃ (m : Mem) (p : Int) (C W : List Int) (sd wi br ro ska wa um : Int), RdP m σ p C W sd wi br ro ska wa um ∧ C.length + W.length ≤ 238 ∧ W.length ≤ 60 ∧ 0 ≤ wi ∧ wi ≤ 100 ∧ 0 ≤ p ∧ p ≤ 1000 ∧ 0 ≤ x ∧ x ≤ 255 ∧ InR s ∧ (u = 0 ∨ u = 1) ∧
(∀ τ, RdP m τ (p + 1) (C ++ sC (stren x) W) (x :: sW (stren x) W) s (wi - sN (stren x) W) br ro ska 1 u → Q (0, 1) τ)) := by
  apply propext; constructor
  · rintro ⟨x', s', u', h9, hb9⟩; cases h9; exact hb9
  · intro hb9; exact ⟨x, s, u, rfl, hb9⟩

set_option maxRecDepth 100000 in
set_option maxHeartbeats 4000000 in
theorem s_X3_join : ∀ av σ Q, w_X3_join av σ Q → amCall 2 0 0 TT yX3_join cX3_join 4 (some .boolean) av σ Q := by
  rintro av σ Q ⟨x, s, u, rfl, m, p, C, W, sd, wi, br, ro, ska, wa, um, hL, h1, h2, h3, h4, h5, h6, h7, h8, hs, hu, h⟩
  have sb := stren_b x
  refine am_m0 (own := RX3) (A := look a_X3_join) (fun X e1 e2 hB => o_X3_join e1 e2 hB) rfl (by decide +kernel) rfl rfl 90 (w := 4) ?_
  change vcs _ _ _ _ 90 0 [(19, 9), (0, x), (0, s), (0, u)] [] σ
  simp only [↓reduceIte, vSw2_e, swP_n, swP_c, vI_e, vL_e, vNull_e, vIload_e, vLload_e, vAload_e, vIstore_e, vLstore_e, vAstore_e, vIinc_e, vIadd_e, vIsub_e, vImul_e, vIand_e, vIor_e, vIxor_e, vIshl_e, vIshr_e, vIushr_e, vIdiv_e, vIrem_e, vLadd_e, vLsub_e, vLmul_e, vLand_e, vLor_e, vLxor_e, vLdiv_e, vLrem_e, vLushr_e, vLshl_e, vLcmp_e, vIneg_e, vI2l_e, vL2i_e, vI2b_e, vI2c_e, vDup_e, vPop_e, vDup2_e, vGoto_e, vIcEq_e, vIfEq_e, vIcNe_e, vIfNe_e, vIcLt_e, vIfLt_e, vIcGe_e, vIfGe_e, vIcGt_e, vIfGt_e, vIcLe_e, vIfLe_e, vNonnull_e, vSw_e, vGetI_e, vGetL_e, vGetR_e, vPutI_e, vPutZ_e, vPutL_e, vPutR_e, vIald_e, vIald_s, vLald_e, vBald_e, vBald_s, vAald_e, vIast_e, vLast_e, vBast_e, vAast_e, vAlen_e8, vAlen_e9, vAlen_e10, vAlen_e11, vAlen_e5, vAlen_e3, vGets_e, vCompact_e, vLdcS_e, vIret_e, vZret_e, vCret_e, vBret_e, vLret_e, vVret_e, vAret_e, vCallM_e0, vCallMV_e0, vCallS_e0, vCallSV_e0, vCallM_e1, vCallMV_e1, vCallS_e1, vCallSV_e1, vCallM_e2, vCallMV_e2, vCallS_e2, vCallSV_e2, vCallM_e3, vCallMV_e3, vCallS_e3, vCallSV_e3, vCallM_e4, vCallMV_e4, vCallS_e4, vCallSV_e4, vCallM_e5, vCallMV_e5, vCallS_e5, vCallSV_e5, vCallM_e6, vCallMV_e6, vCallS_e6, vCallSV_e6, vCallM_e7, vCallMV_e7, vCallS_e7, vCallSV_e7, vBad_e, vStrVal_e, vStrCod_e, vForm_e, vCallT_e0, vCallT_e1, vCallT_e2, vCopy_e, rf_0_0, rf_0_1, rf_0_2, rf_0_3, rf_0_4, rf_0_7, rf_0_10, rf_0_11, rf_0_12, rf_0_13, rf_0_14, rf_0_15, rf_0_16, rf_1_0, rf_3_0, rf_3_1, rf_6_0, rf_6_1, rf_9_0, rf_9_1, rf_9_3, rf_13_0, rf_13_1, rf_13_2, rf_16_0, rf_16_1, rf_16_2, rf_16_3, rf_21_0, rf_21_1, rf_21_2, rf_21_3, rf_26_0, rf_26_1, rf_26_2, rf_26_3, rf_26_4, rf_26_5, rf_26_6, rf_31_0, rf_31_2, rf_31_5, rf_31_6, rf_36_0, rf_36_1, rf_36_2, rf_36_3, rf_39_0, rf_39_1, rf_39_2, rf_41_0, rf_41_1, rf_41_2, rf_41_3, rf_5000_1, rf_5000_2, rf_5000_3, rf_5000_4, rf_5000_5, rf_5000_15, rf_5000_16, rf_5000_18, rf_5000_19, rf_5000_20, rf_5000_21, rf_5000_22, rf_5000_23, rf_5000_24, rf_5000_25, rf_5000_26, rf_5000_27, rf_5000_36, rf_5000_37, rf_5000_40, rf_5000_41, rf_5000_42, rf_5000_43, rf_5000_44, rf_5000_45, rf_5000_47, rf_5000_52, rf_5000_54, rf_5000_55, rf_100_0, rf_100_1, rf_103_0, rf_103_1, rf_106_0, rf_106_1, rf_109_0, rf_109_1, al_2, al_4, al_5, al_7, al_8, al_10, al_11, al_12, al_14, al_15, al_17, al_18, al_19, al_20, al_22, al_23, al_24, al_25, al_27, al_28, al_29, al_30, al_32, al_33, al_34, al_35, al_37, al_38, al_40, al_42, al_5001, al_5002, al_5003, al_5004, al_5005, al_5006, al_5007, al_5008, al_5009, al_5010, al_5011, al_5012, al_5013, al_5014, al_5015, al_5016, al_5017, al_5018, al_5019, al_5020, al_5021, al_5022, al_5023, al_5024, al_5025, al_5026, al_9000, al_101, al_102, al_104, al_105, al_107, al_108, al_110, al_111, vcs_e, lg_c0, lg_cs, lg_nil, set_c0, set_cs, okst_0, okst_s, acok_n, acok_c, List.contains_nil, List.contains_cons, Bool.or_false, Bool.false_or, Bool.false_eq_true, if_false, if_true, ite_self, ne_eq, true_and, and_true, not_false_eq_true, not_true_eq_false, false_imp_iff, true_imp_iff, Nat.ble_eq, Bool.and_eq_true, reduceCtorEq, or_false, false_or, or_true, true_or, false_and, and_false, and_self, Int.reduceLE, Int.reduceAdd, Int.reduceSub, Int.reduceMul, Int.reduceNeg, Int.reduceLT, Int.reduceEq, Int.reduceNe, Nat.reduceBEq, Nat.reduceBNe, Nat.reduceEqDiff, amCmp_in, amCmp_lt, amCmp_le, amCmp_gt, amCmp_ge, amCmp_eq, amCmp_ne, Nat.reduceLeDiff, Nat.reduceSub, Bool.and_true, Bool.true_and, Bool.and_self, Bool.or_true, Bool.true_or, isRf_3, isRf_4, isRf_5, isRf_8, isRf_9, isRf_10, isRf_11, isRf_15, isRf_16, isRf_17, isRf_18, isRf_19, isRf_20, isRf_21, isRf_22, isRf_23, isRf_24, isRf_25, isRf_26, isRf_27, isRf_28, k_X3_join_0, k_X3_join_1, k_X3_join_2, k_X3_join_5, k_X3_join_8, k_X3_join_9, k_X3_join_10, k_X3_join_13, k_X3_join_14, k_X3_join_15, k_X3_join_18, k_X3_join_19, k_X3_join_20, k_X3_join_23, k_X3_join_24, k_X3_join_25, k_X3_join_28, k_X3_join_29, k_X3_join_32, k_X3_join_33, k_X3_join_36, k_X3_join_37, k_X3_join_38, k_X3_join_41, k_X3_join_42, w_X3_hold_e, w_X3_settle_e, w_X3_strength_e, up_s, up_nj, up_na, up_up, savR_o, cpy_o, fillm_o, setAud_o, setv_o, setv_s, Int.reduceNe, Int.reduceEq, Int.reduceLT, Int.reduceAdd, not_false_eq_true, ne_eq, or_true, true_or]
  refine ⟨⟨by omega, by omega⟩, ⟨by omega, by omega⟩, m, p, C, W, sd, wi, br, ro, ska, wa, um, hL, by omega, by omega, by omega, by omega, fun τ hτ => ?_⟩
  have e4 : τ 9 4 = (sW (stren x) W).length := hτ.2.2.1.1
  have ep : τ 1 2 = p := hτ.1.2.2
  have hlen := sCW_len (stren x) W
  have hh := h _ (RdP_p (RdP_11 (RdP_10 (RdP_5 (RdP_hold hτ ⟨h7, h8⟩) s) 1) u) (p + 1))
  simp only [e4, ep]
  repeat' (first | apply And.intro | intro _)
  all_goals first | omega | exact hh
def a_X3_closeBracket : AC := [(0, vAload 0 1), (1, vI 1 2), (2, vCallMV w_X3_settle 19 1 5), (5, vAload 0 6), (6, vDup 7), (7, vGetI 19 4 10), (10, vI 1 11), (11, vIsub 12), (12, vPutI 19 4 15), (15, vAload 0 16), (16, vDup 17), (17, vGetI 19 6 20), (20, vI 1 21), (21, vIsub 22), (22, vPutI 19 6 25), (25, vAload 0 26), (26, vDup 27), (27, vGetI 19 7 30), (30, vI 1 31), (31, vIsub 32), (32, vPutI 19 7 35), (35, vAload 0 36), (36, vGetR TT 19 0 26 39), (39, vDup 40), (40, vGetI 26 2 43), (43, vI 1 44), (44, vIadd 45), (45, vPutI 26 2 48), (48, vI 1 49), (49, vZret)]
theorem k_X3_closeBracket_0 : look a_X3_closeBracket 0 = vAload 0 1 := rfl
theorem k_X3_closeBracket_1 : look a_X3_closeBracket 1 = vI 1 2 := rfl
theorem k_X3_closeBracket_2 : look a_X3_closeBracket 2 = vCallMV w_X3_settle 19 1 5 := rfl
theorem k_X3_closeBracket_5 : look a_X3_closeBracket 5 = vAload 0 6 := rfl
theorem k_X3_closeBracket_6 : look a_X3_closeBracket 6 = vDup 7 := rfl
theorem k_X3_closeBracket_7 : look a_X3_closeBracket 7 = vGetI 19 4 10 := rfl
theorem k_X3_closeBracket_10 : look a_X3_closeBracket 10 = vI 1 11 := rfl
theorem k_X3_closeBracket_11 : look a_X3_closeBracket 11 = vIsub 12 := rfl
theorem k_X3_closeBracket_12 : look a_X3_closeBracket 12 = vPutI 19 4 15 := rfl
theorem k_X3_closeBracket_15 : look a_X3_closeBracket 15 = vAload 0 16 := rfl
theorem k_X3_closeBracket_16 : look a_X3_closeBracket 16 = vDup 17 := rfl
theorem k_X3_closeBracket_17 : look a_X3_closeBracket 17 = vGetI 19 6 20 := rfl
theorem k_X3_closeBracket_20 : look a_X3_closeBracket 20 = vI 1 21 := rfl
theorem k_X3_closeBracket_21 : look a_X3_closeBracket 21 = vIsub 22 := rfl
theorem k_X3_closeBracket_22 : look a_X3_closeBracket 22 = vPutI 19 6 25 := rfl
theorem k_X3_closeBracket_25 : look a_X3_closeBracket 25 = vAload 0 26 := rfl
theorem k_X3_closeBracket_26 : look a_X3_closeBracket 26 = vDup 27 := rfl
theorem k_X3_closeBracket_27 : look a_X3_closeBracket 27 = vGetI 19 7 30 := rfl
theorem k_X3_closeBracket_30 : look a_X3_closeBracket 30 = vI 1 31 := rfl
theorem k_X3_closeBracket_31 : look a_X3_closeBracket 31 = vIsub 32 := rfl
theorem k_X3_closeBracket_32 : look a_X3_closeBracket 32 = vPutI 19 7 35 := rfl
theorem k_X3_closeBracket_35 : look a_X3_closeBracket 35 = vAload 0 36 := rfl
theorem k_X3_closeBracket_36 : look a_X3_closeBracket 36 = vGetR TT 19 0 26 39 := rfl
theorem k_X3_closeBracket_39 : look a_X3_closeBracket 39 = vDup 40 := rfl
theorem k_X3_closeBracket_40 : look a_X3_closeBracket 40 = vGetI 26 2 43 := rfl
theorem k_X3_closeBracket_43 : look a_X3_closeBracket 43 = vI 1 44 := rfl
theorem k_X3_closeBracket_44 : look a_X3_closeBracket 44 = vIadd 45 := rfl
theorem k_X3_closeBracket_45 : look a_X3_closeBracket 45 = vPutI 26 2 48 := rfl
theorem k_X3_closeBracket_48 : look a_X3_closeBracket 48 = vI 1 49 := rfl
theorem k_X3_closeBracket_49 : look a_X3_closeBracket 49 = vZret := rfl
theorem o_X3_closeBracket {X : amX} (e1 : XT X = TT) (e2 : XD X = 2) (hB : amB X RX3 cX3_closeBracket (some .boolean) 1) : ∀ pc, amOK X pc (look a_X3_closeBracket pc) := by
  have hT : amTok (XT X) := e1 ▸ TT_ok
  refine look_ok ?_
  unfold a_X3_closeBracket
  refine fc (ok_aload_n hB dX3_closeBracket_0) ?_
  refine fc (ok_iconst hB dX3_closeBracket_1) ?_
  refine fc (ok_callMV hB hT (e1 ▸ s_X3_settle) lk_X3_139 (by rw [e2]; decide) (c := 3) rfl rfl rfl wd_587 sl_X3_settle dX3_closeBracket_2) ?_
  refine fc (ok_aload_n hB dX3_closeBracket_5) ?_
  refine fc (ok_dup hB dX3_closeBracket_6) ?_
  refine fc (ok_getI hB hT fl_X3_24 rfl rfl (Or.inl af_3_4) dX3_closeBracket_7) ?_
  refine fc (ok_iconst hB dX3_closeBracket_10) ?_
  refine fc (ok_isub hB dX3_closeBracket_11) ?_
  refine fc (ok_putI hB hT fp_X3_24 rfl rfl rfl af_3_4 dX3_closeBracket_12) ?_
  refine fc (ok_aload_n hB dX3_closeBracket_15) ?_
  refine fc (ok_dup hB dX3_closeBracket_16) ?_
  refine fc (ok_getI hB hT fl_X3_30 rfl rfl (Or.inl af_3_6) dX3_closeBracket_17) ?_
  refine fc (ok_iconst hB dX3_closeBracket_20) ?_
  refine fc (ok_isub hB dX3_closeBracket_21) ?_
  refine fc (ok_putI hB hT fp_X3_30 rfl rfl rfl af_3_6 dX3_closeBracket_22) ?_
  refine fc (ok_aload_n hB dX3_closeBracket_25) ?_
  refine fc (ok_dup hB dX3_closeBracket_26) ?_
  refine fc (ok_getI hB hT fl_X3_33 rfl rfl (Or.inl af_3_7) dX3_closeBracket_27) ?_
  refine fc (ok_iconst hB dX3_closeBracket_30) ?_
  refine fc (ok_isub hB dX3_closeBracket_31) ?_
  refine fc (ok_putI hB hT fp_X3_33 rfl rfl rfl af_3_7 dX3_closeBracket_32) ?_
  refine fc (ok_aload_n hB dX3_closeBracket_35) ?_
  refine fc (okt_getR e1 hB hT fl_X3_49 rfl af_3_0 at_3_0 (by decide) dX3_closeBracket_36) ?_
  refine fc (ok_dup hB dX3_closeBracket_39) ?_
  refine fc (ok_getI hB hT fl_X3_53 rfl rfl (Or.inl af_10_2) dX3_closeBracket_40) ?_
  refine fc (ok_iconst hB dX3_closeBracket_43) ?_
  refine fc (ok_iadd hB dX3_closeBracket_44) ?_
  refine fc (ok_putI hB hT fp_X3_53 rfl rfl rfl af_10_2 dX3_closeBracket_45) ?_
  refine fc (ok_iconst hB dX3_closeBracket_48) ?_
  refine fc (ok_zret hB dX3_closeBracket_49) ?_
  exact fn

def w_X3_closeBracket : WP := fun av σ Q => av = [(19, 9)] ∧ (∃ (m : Mem) (p : Int) (C W : List Int) (sd wi br ro ska wa um a : Int) (w : List Int), RdP m σ p C W sd wi br ro ska wa um ∧ C.length + W.length ≤ 238 ∧ W.length ≤ 60 ∧ 0 ≤ wi ∧ wi ≤ 100 ∧ 0 ≤ p ∧ p ≤ 1000 ∧ 0 ≤ br ∧ br ≤ 100 ∧ sW 1 W = a :: w ∧
(∀ τ, RdP m τ (p + 1) (C ++ sC 1 W) w sd (wi - sN 1 W - 1) (br - 1) ro ska wa um → Q (0, 1) τ))
theorem w_X3_closeBracket_e  (σ : Mem) (Q : AV → Mem → Prop) : w_X3_closeBracket [(19, 9)] σ Q = (∃ (m : Mem) (p : Int) (C W : List Int) (sd wi br ro ska wa um a : Int) (w : List Int), RdP m σ p C W sd wi br ro ska wa um ∧ C.length + W.length ≤ 238 ∧ W.length ≤ 60 ∧ 0 ≤ wi ∧ wi ≤ 100 ∧ 0 ≤ p ∧ p ≤ 1000 ∧ 0 ≤ br ∧ br ≤ 100 ∧ sW 1 W = a :: w ∧
(∀ τ, RdP m τ (p + 1) (C ++ sC 1 W) w sd (wi - sN 1 W - 1) (br - 1) ro ska wa um → Q (0, 1) τ)) := by
  apply propext; constructor
  · rintro ⟨h9, hb9⟩; cases h9; exact hb9
  · intro hb9; exact ⟨rfl, hb9⟩

set_option maxRecDepth 100000 in
set_option maxHeartbeats 4000000 in
theorem s_X3_closeBracket : ∀ av σ Q, w_X3_closeBracket av σ Q → amCall 2 0 0 TT yX3_closeBracket cX3_closeBracket 1 (some .boolean) av σ Q := by
  rintro av σ Q ⟨rfl, m, p, C, W, sd, wi, br, ro, ska, wa, um, a, w, hL, h1, h2, h3, h4, h5, h6, h7, h8, hs, h⟩
  refine am_m0 (own := RX3) (A := look a_X3_closeBracket) (fun X e1 e2 hB => o_X3_closeBracket e1 e2 hB) rfl (by decide +kernel) rfl rfl 90 (w := 1) ?_
  change vcs _ _ _ _ 90 0 [(19, 9)] [] σ
  simp only [↓reduceIte, vSw2_e, swP_n, swP_c, vI_e, vL_e, vNull_e, vIload_e, vLload_e, vAload_e, vIstore_e, vLstore_e, vAstore_e, vIinc_e, vIadd_e, vIsub_e, vImul_e, vIand_e, vIor_e, vIxor_e, vIshl_e, vIshr_e, vIushr_e, vIdiv_e, vIrem_e, vLadd_e, vLsub_e, vLmul_e, vLand_e, vLor_e, vLxor_e, vLdiv_e, vLrem_e, vLushr_e, vLshl_e, vLcmp_e, vIneg_e, vI2l_e, vL2i_e, vI2b_e, vI2c_e, vDup_e, vPop_e, vDup2_e, vGoto_e, vIcEq_e, vIfEq_e, vIcNe_e, vIfNe_e, vIcLt_e, vIfLt_e, vIcGe_e, vIfGe_e, vIcGt_e, vIfGt_e, vIcLe_e, vIfLe_e, vNonnull_e, vSw_e, vGetI_e, vGetL_e, vGetR_e, vPutI_e, vPutZ_e, vPutL_e, vPutR_e, vIald_e, vIald_s, vLald_e, vBald_e, vBald_s, vAald_e, vIast_e, vLast_e, vBast_e, vAast_e, vAlen_e8, vAlen_e9, vAlen_e10, vAlen_e11, vAlen_e5, vAlen_e3, vGets_e, vCompact_e, vLdcS_e, vIret_e, vZret_e, vCret_e, vBret_e, vLret_e, vVret_e, vAret_e, vCallM_e0, vCallMV_e0, vCallS_e0, vCallSV_e0, vCallM_e1, vCallMV_e1, vCallS_e1, vCallSV_e1, vCallM_e2, vCallMV_e2, vCallS_e2, vCallSV_e2, vCallM_e3, vCallMV_e3, vCallS_e3, vCallSV_e3, vCallM_e4, vCallMV_e4, vCallS_e4, vCallSV_e4, vCallM_e5, vCallMV_e5, vCallS_e5, vCallSV_e5, vCallM_e6, vCallMV_e6, vCallS_e6, vCallSV_e6, vCallM_e7, vCallMV_e7, vCallS_e7, vCallSV_e7, vBad_e, vStrVal_e, vStrCod_e, vForm_e, vCallT_e0, vCallT_e1, vCallT_e2, vCopy_e, rf_0_0, rf_0_1, rf_0_2, rf_0_3, rf_0_4, rf_0_7, rf_0_10, rf_0_11, rf_0_12, rf_0_13, rf_0_14, rf_0_15, rf_0_16, rf_1_0, rf_3_0, rf_3_1, rf_6_0, rf_6_1, rf_9_0, rf_9_1, rf_9_3, rf_13_0, rf_13_1, rf_13_2, rf_16_0, rf_16_1, rf_16_2, rf_16_3, rf_21_0, rf_21_1, rf_21_2, rf_21_3, rf_26_0, rf_26_1, rf_26_2, rf_26_3, rf_26_4, rf_26_5, rf_26_6, rf_31_0, rf_31_2, rf_31_5, rf_31_6, rf_36_0, rf_36_1, rf_36_2, rf_36_3, rf_39_0, rf_39_1, rf_39_2, rf_41_0, rf_41_1, rf_41_2, rf_41_3, rf_5000_1, rf_5000_2, rf_5000_3, rf_5000_4, rf_5000_5, rf_5000_15, rf_5000_16, rf_5000_18, rf_5000_19, rf_5000_20, rf_5000_21, rf_5000_22, rf_5000_23, rf_5000_24, rf_5000_25, rf_5000_26, rf_5000_27, rf_5000_36, rf_5000_37, rf_5000_40, rf_5000_41, rf_5000_42, rf_5000_43, rf_5000_44, rf_5000_45, rf_5000_47, rf_5000_52, rf_5000_54, rf_5000_55, rf_100_0, rf_100_1, rf_103_0, rf_103_1, rf_106_0, rf_106_1, rf_109_0, rf_109_1, al_2, al_4, al_5, al_7, al_8, al_10, al_11, al_12, al_14, al_15, al_17, al_18, al_19, al_20, al_22, al_23, al_24, al_25, al_27, al_28, al_29, al_30, al_32, al_33, al_34, al_35, al_37, al_38, al_40, al_42, al_5001, al_5002, al_5003, al_5004, al_5005, al_5006, al_5007, al_5008, al_5009, al_5010, al_5011, al_5012, al_5013, al_5014, al_5015, al_5016, al_5017, al_5018, al_5019, al_5020, al_5021, al_5022, al_5023, al_5024, al_5025, al_5026, al_9000, al_101, al_102, al_104, al_105, al_107, al_108, al_110, al_111, vcs_e, lg_c0, lg_cs, lg_nil, set_c0, set_cs, okst_0, okst_s, acok_n, acok_c, List.contains_nil, List.contains_cons, Bool.or_false, Bool.false_or, Bool.false_eq_true, if_false, if_true, ite_self, ne_eq, true_and, and_true, not_false_eq_true, not_true_eq_false, false_imp_iff, true_imp_iff, Nat.ble_eq, Bool.and_eq_true, reduceCtorEq, or_false, false_or, or_true, true_or, false_and, and_false, and_self, Int.reduceLE, Int.reduceAdd, Int.reduceSub, Int.reduceMul, Int.reduceNeg, Int.reduceLT, Int.reduceEq, Int.reduceNe, Nat.reduceBEq, Nat.reduceBNe, Nat.reduceEqDiff, amCmp_in, amCmp_lt, amCmp_le, amCmp_gt, amCmp_ge, amCmp_eq, amCmp_ne, Nat.reduceLeDiff, Nat.reduceSub, Bool.and_true, Bool.true_and, Bool.and_self, Bool.or_true, Bool.true_or, isRf_3, isRf_4, isRf_5, isRf_8, isRf_9, isRf_10, isRf_11, isRf_15, isRf_16, isRf_17, isRf_18, isRf_19, isRf_20, isRf_21, isRf_22, isRf_23, isRf_24, isRf_25, isRf_26, isRf_27, isRf_28, k_X3_closeBracket_0, k_X3_closeBracket_1, k_X3_closeBracket_2, k_X3_closeBracket_5, k_X3_closeBracket_6, k_X3_closeBracket_7, k_X3_closeBracket_10, k_X3_closeBracket_11, k_X3_closeBracket_12, k_X3_closeBracket_15, k_X3_closeBracket_16, k_X3_closeBracket_17, k_X3_closeBracket_20, k_X3_closeBracket_21, k_X3_closeBracket_22, k_X3_closeBracket_25, k_X3_closeBracket_26, k_X3_closeBracket_27, k_X3_closeBracket_30, k_X3_closeBracket_31, k_X3_closeBracket_32, k_X3_closeBracket_35, k_X3_closeBracket_36, k_X3_closeBracket_39, k_X3_closeBracket_40, k_X3_closeBracket_43, k_X3_closeBracket_44, k_X3_closeBracket_45, k_X3_closeBracket_48, k_X3_closeBracket_49, w_X3_settle_e, up_s, up_nj, up_na, up_up, savR_o, cpy_o, fillm_o, setAud_o, setv_o, setv_s, Int.reduceNe, Int.reduceEq, Int.reduceLT, Int.reduceAdd, not_false_eq_true, ne_eq, or_true, true_or]
  refine ⟨⟨by omega, by omega⟩, m, p, C, W, sd, wi, br, ro, ska, wa, um, hL, by omega, by omega, by omega, by omega, fun τ hτ => ?_⟩
  have hn := sN_b 1 W
  have hlen := sCW_len 1 W
  rw [hs] at hτ hlen
  rw [List.length_cons] at hlen
  have e4 : τ 9 4 = w.length + 1 := by rw [hτ.2.2.1.1]; rfl
  have e6 : τ 9 6 = wi - sN 1 W := hτ.2.2.2.2.1
  have e7 : τ 9 7 = br := hτ.2.2.2.2.2.1
  have ep : τ 1 2 = p := hτ.1.2.2
  have l1 : (w.length : Int) + 1 - 1 = w.length := by omega
  have hh := h _ (RdP_p (RdP_7 (RdP_6 (RdP_pop hτ) (wi - sN 1 W - 1)) (br - 1)) (p + 1))
  simp only [e4, e6, e7, ep, l1]
  repeat' (first | apply And.intro | intro _)
  all_goals first | omega | exact hh
def a_X3_closeRound : AC := [(0, vAload 0 1), (1, vI 1 2), (2, vCallMV w_X3_settle 19 1 5), (5, vAload 0 6), (6, vDup 7), (7, vGetI 19 4 10), (10, vI 1 11), (11, vIsub 12), (12, vPutI 19 4 15), (15, vAload 0 16), (16, vDup 17), (17, vGetI 19 6 20), (20, vI 1 21), (21, vIsub 22), (22, vPutI 19 6 25), (25, vAload 0 26), (26, vDup 27), (27, vGetI 19 8 30), (30, vI 1 31), (31, vIsub 32), (32, vPutI 19 8 35), (35, vAload 0 36), (36, vI 4 37), (37, vPutI 19 5 40), (40, vAload 0 41), (41, vGetR TT 19 0 26 44), (44, vDup 45), (45, vGetI 26 2 48), (48, vI 1 49), (49, vIadd 50), (50, vPutI 26 2 53), (53, vI 1 54), (54, vZret)]
theorem k_X3_closeRound_0 : look a_X3_closeRound 0 = vAload 0 1 := rfl
theorem k_X3_closeRound_1 : look a_X3_closeRound 1 = vI 1 2 := rfl
theorem k_X3_closeRound_2 : look a_X3_closeRound 2 = vCallMV w_X3_settle 19 1 5 := rfl
theorem k_X3_closeRound_5 : look a_X3_closeRound 5 = vAload 0 6 := rfl
theorem k_X3_closeRound_6 : look a_X3_closeRound 6 = vDup 7 := rfl
theorem k_X3_closeRound_7 : look a_X3_closeRound 7 = vGetI 19 4 10 := rfl
theorem k_X3_closeRound_10 : look a_X3_closeRound 10 = vI 1 11 := rfl
theorem k_X3_closeRound_11 : look a_X3_closeRound 11 = vIsub 12 := rfl
theorem k_X3_closeRound_12 : look a_X3_closeRound 12 = vPutI 19 4 15 := rfl
theorem k_X3_closeRound_15 : look a_X3_closeRound 15 = vAload 0 16 := rfl
theorem k_X3_closeRound_16 : look a_X3_closeRound 16 = vDup 17 := rfl
theorem k_X3_closeRound_17 : look a_X3_closeRound 17 = vGetI 19 6 20 := rfl
theorem k_X3_closeRound_20 : look a_X3_closeRound 20 = vI 1 21 := rfl
theorem k_X3_closeRound_21 : look a_X3_closeRound 21 = vIsub 22 := rfl
theorem k_X3_closeRound_22 : look a_X3_closeRound 22 = vPutI 19 6 25 := rfl
theorem k_X3_closeRound_25 : look a_X3_closeRound 25 = vAload 0 26 := rfl
theorem k_X3_closeRound_26 : look a_X3_closeRound 26 = vDup 27 := rfl
theorem k_X3_closeRound_27 : look a_X3_closeRound 27 = vGetI 19 8 30 := rfl
theorem k_X3_closeRound_30 : look a_X3_closeRound 30 = vI 1 31 := rfl
theorem k_X3_closeRound_31 : look a_X3_closeRound 31 = vIsub 32 := rfl
theorem k_X3_closeRound_32 : look a_X3_closeRound 32 = vPutI 19 8 35 := rfl
theorem k_X3_closeRound_35 : look a_X3_closeRound 35 = vAload 0 36 := rfl
theorem k_X3_closeRound_36 : look a_X3_closeRound 36 = vI 4 37 := rfl
theorem k_X3_closeRound_37 : look a_X3_closeRound 37 = vPutI 19 5 40 := rfl
theorem k_X3_closeRound_40 : look a_X3_closeRound 40 = vAload 0 41 := rfl
theorem k_X3_closeRound_41 : look a_X3_closeRound 41 = vGetR TT 19 0 26 44 := rfl
theorem k_X3_closeRound_44 : look a_X3_closeRound 44 = vDup 45 := rfl
theorem k_X3_closeRound_45 : look a_X3_closeRound 45 = vGetI 26 2 48 := rfl
theorem k_X3_closeRound_48 : look a_X3_closeRound 48 = vI 1 49 := rfl
theorem k_X3_closeRound_49 : look a_X3_closeRound 49 = vIadd 50 := rfl
theorem k_X3_closeRound_50 : look a_X3_closeRound 50 = vPutI 26 2 53 := rfl
theorem k_X3_closeRound_53 : look a_X3_closeRound 53 = vI 1 54 := rfl
theorem k_X3_closeRound_54 : look a_X3_closeRound 54 = vZret := rfl
theorem o_X3_closeRound {X : amX} (e1 : XT X = TT) (e2 : XD X = 2) (hB : amB X RX3 cX3_closeRound (some .boolean) 1) : ∀ pc, amOK X pc (look a_X3_closeRound pc) := by
  have hT : amTok (XT X) := e1 ▸ TT_ok
  refine look_ok ?_
  unfold a_X3_closeRound
  refine fc (ok_aload_n hB dX3_closeRound_0) ?_
  refine fc (ok_iconst hB dX3_closeRound_1) ?_
  refine fc (ok_callMV hB hT (e1 ▸ s_X3_settle) lk_X3_139 (by rw [e2]; decide) (c := 3) rfl rfl rfl wd_587 sl_X3_settle dX3_closeRound_2) ?_
  refine fc (ok_aload_n hB dX3_closeRound_5) ?_
  refine fc (ok_dup hB dX3_closeRound_6) ?_
  refine fc (ok_getI hB hT fl_X3_24 rfl rfl (Or.inl af_3_4) dX3_closeRound_7) ?_
  refine fc (ok_iconst hB dX3_closeRound_10) ?_
  refine fc (ok_isub hB dX3_closeRound_11) ?_
  refine fc (ok_putI hB hT fp_X3_24 rfl rfl rfl af_3_4 dX3_closeRound_12) ?_
  refine fc (ok_aload_n hB dX3_closeRound_15) ?_
  refine fc (ok_dup hB dX3_closeRound_16) ?_
  refine fc (ok_getI hB hT fl_X3_30 rfl rfl (Or.inl af_3_6) dX3_closeRound_17) ?_
  refine fc (ok_iconst hB dX3_closeRound_20) ?_
  refine fc (ok_isub hB dX3_closeRound_21) ?_
  refine fc (ok_putI hB hT fp_X3_30 rfl rfl rfl af_3_6 dX3_closeRound_22) ?_
  refine fc (ok_aload_n hB dX3_closeRound_25) ?_
  refine fc (ok_dup hB dX3_closeRound_26) ?_
  refine fc (ok_getI hB hT fl_X3_36 rfl rfl (Or.inl af_3_8) dX3_closeRound_27) ?_
  refine fc (ok_iconst hB dX3_closeRound_30) ?_
  refine fc (ok_isub hB dX3_closeRound_31) ?_
  refine fc (ok_putI hB hT fp_X3_36 rfl rfl rfl af_3_8 dX3_closeRound_32) ?_
  refine fc (ok_aload_n hB dX3_closeRound_35) ?_
  refine fc (ok_iconst hB dX3_closeRound_36) ?_
  refine fc (ok_putI hB hT fp_X3_27 rfl rfl rfl af_3_5 dX3_closeRound_37) ?_
  refine fc (ok_aload_n hB dX3_closeRound_40) ?_
  refine fc (okt_getR e1 hB hT fl_X3_49 rfl af_3_0 at_3_0 (by decide) dX3_closeRound_41) ?_
  refine fc (ok_dup hB dX3_closeRound_44) ?_
  refine fc (ok_getI hB hT fl_X3_53 rfl rfl (Or.inl af_10_2) dX3_closeRound_45) ?_
  refine fc (ok_iconst hB dX3_closeRound_48) ?_
  refine fc (ok_iadd hB dX3_closeRound_49) ?_
  refine fc (ok_putI hB hT fp_X3_53 rfl rfl rfl af_10_2 dX3_closeRound_50) ?_
  refine fc (ok_iconst hB dX3_closeRound_53) ?_
  refine fc (ok_zret hB dX3_closeRound_54) ?_
  exact fn

def w_X3_closeRound : WP := fun av σ Q => av = [(19, 9)] ∧ (∃ (m : Mem) (p : Int) (C W : List Int) (sd wi br ro ska wa um a : Int) (w : List Int), RdP m σ p C W sd wi br ro ska wa um ∧ C.length + W.length ≤ 238 ∧ W.length ≤ 60 ∧ 0 ≤ wi ∧ wi ≤ 100 ∧ 0 ≤ p ∧ p ≤ 1000 ∧ 0 ≤ ro ∧ ro ≤ 100 ∧ sW 1 W = a :: w ∧
(∀ τ, RdP m τ (p + 1) (C ++ sC 1 W) w 4 (wi - sN 1 W - 1) br (ro - 1) ska wa um → Q (0, 1) τ))
theorem w_X3_closeRound_e  (σ : Mem) (Q : AV → Mem → Prop) : w_X3_closeRound [(19, 9)] σ Q = (∃ (m : Mem) (p : Int) (C W : List Int) (sd wi br ro ska wa um a : Int) (w : List Int), RdP m σ p C W sd wi br ro ska wa um ∧ C.length + W.length ≤ 238 ∧ W.length ≤ 60 ∧ 0 ≤ wi ∧ wi ≤ 100 ∧ 0 ≤ p ∧ p ≤ 1000 ∧ 0 ≤ ro ∧ ro ≤ 100 ∧ sW 1 W = a :: w ∧
(∀ τ, RdP m τ (p + 1) (C ++ sC 1 W) w 4 (wi - sN 1 W - 1) br (ro - 1) ska wa um → Q (0, 1) τ)) := by
  apply propext; constructor
  · rintro ⟨h9, hb9⟩; cases h9; exact hb9
  · intro hb9; exact ⟨rfl, hb9⟩

set_option maxRecDepth 100000 in
set_option maxHeartbeats 4000000 in
theorem s_X3_closeRound : ∀ av σ Q, w_X3_closeRound av σ Q → amCall 2 0 0 TT yX3_closeRound cX3_closeRound 1 (some .boolean) av σ Q := by
  rintro av σ Q ⟨rfl, m, p, C, W, sd, wi, br, ro, ska, wa, um, a, w, hL, h1, h2, h3, h4, h5, h6, h7, h8, hs, h⟩
  refine am_m0 (own := RX3) (A := look a_X3_closeRound) (fun X e1 e2 hB => o_X3_closeRound e1 e2 hB) rfl (by decide +kernel) rfl rfl 90 (w := 1) ?_
  change vcs _ _ _ _ 90 0 [(19, 9)] [] σ
  simp only [↓reduceIte, vSw2_e, swP_n, swP_c, vI_e, vL_e, vNull_e, vIload_e, vLload_e, vAload_e, vIstore_e, vLstore_e, vAstore_e, vIinc_e, vIadd_e, vIsub_e, vImul_e, vIand_e, vIor_e, vIxor_e, vIshl_e, vIshr_e, vIushr_e, vIdiv_e, vIrem_e, vLadd_e, vLsub_e, vLmul_e, vLand_e, vLor_e, vLxor_e, vLdiv_e, vLrem_e, vLushr_e, vLshl_e, vLcmp_e, vIneg_e, vI2l_e, vL2i_e, vI2b_e, vI2c_e, vDup_e, vPop_e, vDup2_e, vGoto_e, vIcEq_e, vIfEq_e, vIcNe_e, vIfNe_e, vIcLt_e, vIfLt_e, vIcGe_e, vIfGe_e, vIcGt_e, vIfGt_e, vIcLe_e, vIfLe_e, vNonnull_e, vSw_e, vGetI_e, vGetL_e, vGetR_e, vPutI_e, vPutZ_e, vPutL_e, vPutR_e, vIald_e, vIald_s, vLald_e, vBald_e, vBald_s, vAald_e, vIast_e, vLast_e, vBast_e, vAast_e, vAlen_e8, vAlen_e9, vAlen_e10, vAlen_e11, vAlen_e5, vAlen_e3, vGets_e, vCompact_e, vLdcS_e, vIret_e, vZret_e, vCret_e, vBret_e, vLret_e, vVret_e, vAret_e, vCallM_e0, vCallMV_e0, vCallS_e0, vCallSV_e0, vCallM_e1, vCallMV_e1, vCallS_e1, vCallSV_e1, vCallM_e2, vCallMV_e2, vCallS_e2, vCallSV_e2, vCallM_e3, vCallMV_e3, vCallS_e3, vCallSV_e3, vCallM_e4, vCallMV_e4, vCallS_e4, vCallSV_e4, vCallM_e5, vCallMV_e5, vCallS_e5, vCallSV_e5, vCallM_e6, vCallMV_e6, vCallS_e6, vCallSV_e6, vCallM_e7, vCallMV_e7, vCallS_e7, vCallSV_e7, vBad_e, vStrVal_e, vStrCod_e, vForm_e, vCallT_e0, vCallT_e1, vCallT_e2, vCopy_e, rf_0_0, rf_0_1, rf_0_2, rf_0_3, rf_0_4, rf_0_7, rf_0_10, rf_0_11, rf_0_12, rf_0_13, rf_0_14, rf_0_15, rf_0_16, rf_1_0, rf_3_0, rf_3_1, rf_6_0, rf_6_1, rf_9_0, rf_9_1, rf_9_3, rf_13_0, rf_13_1, rf_13_2, rf_16_0, rf_16_1, rf_16_2, rf_16_3, rf_21_0, rf_21_1, rf_21_2, rf_21_3, rf_26_0, rf_26_1, rf_26_2, rf_26_3, rf_26_4, rf_26_5, rf_26_6, rf_31_0, rf_31_2, rf_31_5, rf_31_6, rf_36_0, rf_36_1, rf_36_2, rf_36_3, rf_39_0, rf_39_1, rf_39_2, rf_41_0, rf_41_1, rf_41_2, rf_41_3, rf_5000_1, rf_5000_2, rf_5000_3, rf_5000_4, rf_5000_5, rf_5000_15, rf_5000_16, rf_5000_18, rf_5000_19, rf_5000_20, rf_5000_21, rf_5000_22, rf_5000_23, rf_5000_24, rf_5000_25, rf_5000_26, rf_5000_27, rf_5000_36, rf_5000_37, rf_5000_40, rf_5000_41, rf_5000_42, rf_5000_43, rf_5000_44, rf_5000_45, rf_5000_47, rf_5000_52, rf_5000_54, rf_5000_55, rf_100_0, rf_100_1, rf_103_0, rf_103_1, rf_106_0, rf_106_1, rf_109_0, rf_109_1, al_2, al_4, al_5, al_7, al_8, al_10, al_11, al_12, al_14, al_15, al_17, al_18, al_19, al_20, al_22, al_23, al_24, al_25, al_27, al_28, al_29, al_30, al_32, al_33, al_34, al_35, al_37, al_38, al_40, al_42, al_5001, al_5002, al_5003, al_5004, al_5005, al_5006, al_5007, al_5008, al_5009, al_5010, al_5011, al_5012, al_5013, al_5014, al_5015, al_5016, al_5017, al_5018, al_5019, al_5020, al_5021, al_5022, al_5023, al_5024, al_5025, al_5026, al_9000, al_101, al_102, al_104, al_105, al_107, al_108, al_110, al_111, vcs_e, lg_c0, lg_cs, lg_nil, set_c0, set_cs, okst_0, okst_s, acok_n, acok_c, List.contains_nil, List.contains_cons, Bool.or_false, Bool.false_or, Bool.false_eq_true, if_false, if_true, ite_self, ne_eq, true_and, and_true, not_false_eq_true, not_true_eq_false, false_imp_iff, true_imp_iff, Nat.ble_eq, Bool.and_eq_true, reduceCtorEq, or_false, false_or, or_true, true_or, false_and, and_false, and_self, Int.reduceLE, Int.reduceAdd, Int.reduceSub, Int.reduceMul, Int.reduceNeg, Int.reduceLT, Int.reduceEq, Int.reduceNe, Nat.reduceBEq, Nat.reduceBNe, Nat.reduceEqDiff, amCmp_in, amCmp_lt, amCmp_le, amCmp_gt, amCmp_ge, amCmp_eq, amCmp_ne, Nat.reduceLeDiff, Nat.reduceSub, Bool.and_true, Bool.true_and, Bool.and_self, Bool.or_true, Bool.true_or, isRf_3, isRf_4, isRf_5, isRf_8, isRf_9, isRf_10, isRf_11, isRf_15, isRf_16, isRf_17, isRf_18, isRf_19, isRf_20, isRf_21, isRf_22, isRf_23, isRf_24, isRf_25, isRf_26, isRf_27, isRf_28, k_X3_closeRound_0, k_X3_closeRound_1, k_X3_closeRound_2, k_X3_closeRound_5, k_X3_closeRound_6, k_X3_closeRound_7, k_X3_closeRound_10, k_X3_closeRound_11, k_X3_closeRound_12, k_X3_closeRound_15, k_X3_closeRound_16, k_X3_closeRound_17, k_X3_closeRound_20, k_X3_closeRound_21, k_X3_closeRound_22, k_X3_closeRound_25, k_X3_closeRound_26, k_X3_closeRound_27, k_X3_closeRound_30, k_X3_closeRound_31, k_X3_closeRound_32, k_X3_closeRound_35, k_X3_closeRound_36, k_X3_closeRound_37, k_X3_closeRound_40, k_X3_closeRound_41, k_X3_closeRound_44, k_X3_closeRound_45, k_X3_closeRound_48, k_X3_closeRound_49, k_X3_closeRound_50, k_X3_closeRound_53, k_X3_closeRound_54, w_X3_settle_e, up_s, up_nj, up_na, up_up, savR_o, cpy_o, fillm_o, setAud_o, setv_o, setv_s, Int.reduceNe, Int.reduceEq, Int.reduceLT, Int.reduceAdd, not_false_eq_true, ne_eq, or_true, true_or]
  refine ⟨⟨by omega, by omega⟩, m, p, C, W, sd, wi, br, ro, ska, wa, um, hL, by omega, by omega, by omega, by omega, fun τ hτ => ?_⟩
  have hn := sN_b 1 W
  have hlen := sCW_len 1 W
  rw [hs] at hτ hlen
  rw [List.length_cons] at hlen
  have e4 : τ 9 4 = w.length + 1 := by rw [hτ.2.2.1.1]; rfl
  have e6 : τ 9 6 = wi - sN 1 W := hτ.2.2.2.2.1
  have e8 : τ 9 8 = ro := hτ.2.2.2.2.2.2.1
  have ep : τ 1 2 = p := hτ.1.2.2
  have l1 : (w.length : Int) + 1 - 1 = w.length := by omega
  have hh := h _ (RdP_p (RdP_5 (RdP_8 (RdP_6 (RdP_pop hτ) (wi - sN 1 W - 1)) (ro - 1)) 4) (p + 1))
  simp only [e4, e6, e8, ep, l1]
  repeat' (first | apply And.intro | intro _)
  all_goals first | omega | exact hh
theorem wd_86 : Cond.fieldLink RX3 39 "ArmchairHouse$LawReader" "skipAt" "I" ∈ TBL := tb_tab (List.mem_of_getElem? (i := 86) (by decide +kernel)) rfl
theorem fl_X3_39 : amFl RX3 3 9 39 RX3 TX3 12 := ⟨rfl, inT_3, by decide, wd_86⟩
theorem fp_X3_39 : amFp RX3 3 9 39 RX3 TX3 12 tyX3 .int := ⟨fl_X3_39, tyX3_ok, nmX3, by decide +kernel⟩
def a_X3_closeCondition : AC := [(0, vAload 0 1), (1, vI 1 2), (2, vCallMV w_X3_settle 19 1 5), (5, vAload 0 6), (6, vAload 0 7), (7, vGetI 19 2 10), (10, vPutI 19 9 13), (13, vAload 0 14), (14, vI 30000 17), (17, vCallMV w_X3_emit 19 1 20), (20, vAload 0 21), (21, vI 3 22), (22, vPutI 19 5 25), (25, vAload 0 26), (26, vI 1 27), (27, vPutZ 19 10 30), (30, vAload 0 31), (31, vI 0 32), (32, vPutZ 19 11 35), (35, vAload 0 36), (36, vGetR TT 19 0 26 39), (39, vDup 40), (40, vGetI 26 2 43), (43, vI 1 44), (44, vIadd 45), (45, vPutI 26 2 48), (48, vI 1 49), (49, vZret)]
theorem k_X3_closeCondition_0 : look a_X3_closeCondition 0 = vAload 0 1 := rfl
theorem k_X3_closeCondition_1 : look a_X3_closeCondition 1 = vI 1 2 := rfl
theorem k_X3_closeCondition_2 : look a_X3_closeCondition 2 = vCallMV w_X3_settle 19 1 5 := rfl
theorem k_X3_closeCondition_5 : look a_X3_closeCondition 5 = vAload 0 6 := rfl
theorem k_X3_closeCondition_6 : look a_X3_closeCondition 6 = vAload 0 7 := rfl
theorem k_X3_closeCondition_7 : look a_X3_closeCondition 7 = vGetI 19 2 10 := rfl
theorem k_X3_closeCondition_10 : look a_X3_closeCondition 10 = vPutI 19 9 13 := rfl
theorem k_X3_closeCondition_13 : look a_X3_closeCondition 13 = vAload 0 14 := rfl
theorem k_X3_closeCondition_14 : look a_X3_closeCondition 14 = vI 30000 17 := rfl
theorem k_X3_closeCondition_17 : look a_X3_closeCondition 17 = vCallMV w_X3_emit 19 1 20 := rfl
theorem k_X3_closeCondition_20 : look a_X3_closeCondition 20 = vAload 0 21 := rfl
theorem k_X3_closeCondition_21 : look a_X3_closeCondition 21 = vI 3 22 := rfl
theorem k_X3_closeCondition_22 : look a_X3_closeCondition 22 = vPutI 19 5 25 := rfl
theorem k_X3_closeCondition_25 : look a_X3_closeCondition 25 = vAload 0 26 := rfl
theorem k_X3_closeCondition_26 : look a_X3_closeCondition 26 = vI 1 27 := rfl
theorem k_X3_closeCondition_27 : look a_X3_closeCondition 27 = vPutZ 19 10 30 := rfl
theorem k_X3_closeCondition_30 : look a_X3_closeCondition 30 = vAload 0 31 := rfl
theorem k_X3_closeCondition_31 : look a_X3_closeCondition 31 = vI 0 32 := rfl
theorem k_X3_closeCondition_32 : look a_X3_closeCondition 32 = vPutZ 19 11 35 := rfl
theorem k_X3_closeCondition_35 : look a_X3_closeCondition 35 = vAload 0 36 := rfl
theorem k_X3_closeCondition_36 : look a_X3_closeCondition 36 = vGetR TT 19 0 26 39 := rfl
theorem k_X3_closeCondition_39 : look a_X3_closeCondition 39 = vDup 40 := rfl
theorem k_X3_closeCondition_40 : look a_X3_closeCondition 40 = vGetI 26 2 43 := rfl
theorem k_X3_closeCondition_43 : look a_X3_closeCondition 43 = vI 1 44 := rfl
theorem k_X3_closeCondition_44 : look a_X3_closeCondition 44 = vIadd 45 := rfl
theorem k_X3_closeCondition_45 : look a_X3_closeCondition 45 = vPutI 26 2 48 := rfl
theorem k_X3_closeCondition_48 : look a_X3_closeCondition 48 = vI 1 49 := rfl
theorem k_X3_closeCondition_49 : look a_X3_closeCondition 49 = vZret := rfl
theorem o_X3_closeCondition {X : amX} (e1 : XT X = TT) (e2 : XD X = 2) (hB : amB X RX3 cX3_closeCondition (some .boolean) 1) : ∀ pc, amOK X pc (look a_X3_closeCondition pc) := by
  have hT : amTok (XT X) := e1 ▸ TT_ok
  refine look_ok ?_
  unfold a_X3_closeCondition
  refine fc (ok_aload_n hB dX3_closeCondition_0) ?_
  refine fc (ok_iconst hB dX3_closeCondition_1) ?_
  refine fc (ok_callMV hB hT (e1 ▸ s_X3_settle) lk_X3_139 (by rw [e2]; decide) (c := 3) rfl rfl rfl wd_587 sl_X3_settle dX3_closeCondition_2) ?_
  refine fc (ok_aload_n hB dX3_closeCondition_5) ?_
  refine fc (ok_aload_n hB dX3_closeCondition_6) ?_
  refine fc (ok_getI hB hT fl_X3_17 rfl rfl (Or.inl af_3_2) dX3_closeCondition_7) ?_
  refine fc (ok_putI hB hT fp_X3_39 rfl rfl rfl af_3_9 dX3_closeCondition_10) ?_
  refine fc (ok_aload_n hB dX3_closeCondition_13) ?_
  refine fc (ok_sipush hB dX3_closeCondition_14 (by decide)) ?_
  refine fc (ok_callMV hB hT (e1 ▸ s_X3_emit) lk_X3_107 (by rw [e2]; decide) (c := 3) rfl rfl rfl wd_594 sl_X3_emit dX3_closeCondition_17) ?_
  refine fc (ok_aload_n hB dX3_closeCondition_20) ?_
  refine fc (ok_iconst hB dX3_closeCondition_21) ?_
  refine fc (ok_putI hB hT fp_X3_27 rfl rfl rfl af_3_5 dX3_closeCondition_22) ?_
  refine fc (ok_aload_n hB dX3_closeCondition_25) ?_
  refine fc (ok_iconst hB dX3_closeCondition_26) ?_
  refine fc (ok_putZ hB hT fp_X3_42 rfl rfl rfl af_3_10 dX3_closeCondition_27) ?_
  refine fc (ok_aload_n hB dX3_closeCondition_30) ?_
  refine fc (ok_iconst hB dX3_closeCondition_31) ?_
  refine fc (ok_putZ hB hT fp_X3_46 rfl rfl rfl af_3_11 dX3_closeCondition_32) ?_
  refine fc (ok_aload_n hB dX3_closeCondition_35) ?_
  refine fc (okt_getR e1 hB hT fl_X3_49 rfl af_3_0 at_3_0 (by decide) dX3_closeCondition_36) ?_
  refine fc (ok_dup hB dX3_closeCondition_39) ?_
  refine fc (ok_getI hB hT fl_X3_53 rfl rfl (Or.inl af_10_2) dX3_closeCondition_40) ?_
  refine fc (ok_iconst hB dX3_closeCondition_43) ?_
  refine fc (ok_iadd hB dX3_closeCondition_44) ?_
  refine fc (ok_putI hB hT fp_X3_53 rfl rfl rfl af_10_2 dX3_closeCondition_45) ?_
  refine fc (ok_iconst hB dX3_closeCondition_48) ?_
  refine fc (ok_zret hB dX3_closeCondition_49) ?_
  exact fn

def w_X3_closeCondition : WP := fun av σ Q => av = [(19, 9)] ∧ (∃ (m : Mem) (p : Int) (C W : List Int) (sd wi br ro ska wa um : Int), RdP m σ p C W sd wi br ro ska wa um ∧ C.length + W.length ≤ 238 ∧ W.length ≤ 60 ∧ 0 ≤ wi ∧ wi ≤ 100 ∧ 0 ≤ p ∧ p ≤ 1000 ∧
(∀ τ, RdP m τ (p + 1) (C ++ sC 1 W ++ [30000]) (sW 1 W) 3 (wi - sN 1 W) br ro (C.length + (sC 1 W).length) 1 0 → Q (0, 1) τ))
theorem w_X3_closeCondition_e  (σ : Mem) (Q : AV → Mem → Prop) : w_X3_closeCondition [(19, 9)] σ Q = (∃ (m : Mem) (p : Int) (C W : List Int) (sd wi br ro ska wa um : Int), RdP m σ p C W sd wi br ro ska wa um ∧ C.length + W.length ≤ 238 ∧ W.length ≤ 60 ∧ 0 ≤ wi ∧ wi ≤ 100 ∧ 0 ≤ p ∧ p ≤ 1000 ∧
(∀ τ, RdP m τ (p + 1) (C ++ sC 1 W ++ [30000]) (sW 1 W) 3 (wi - sN 1 W) br ro (C.length + (sC 1 W).length) 1 0 → Q (0, 1) τ)) := by
  apply propext; constructor
  · rintro ⟨h9, hb9⟩; cases h9; exact hb9
  · intro hb9; exact ⟨rfl, hb9⟩

set_option maxRecDepth 100000 in
set_option maxHeartbeats 4000000 in
theorem s_X3_closeCondition : ∀ av σ Q, w_X3_closeCondition av σ Q → amCall 2 0 0 TT yX3_closeCondition cX3_closeCondition 1 (some .boolean) av σ Q := by
  rintro av σ Q ⟨rfl, m, p, C, W, sd, wi, br, ro, ska, wa, um, hL, h1, h2, h3, h4, h5, h6, h⟩
  refine am_m0 (own := RX3) (A := look a_X3_closeCondition) (fun X e1 e2 hB => o_X3_closeCondition e1 e2 hB) rfl (by decide +kernel) rfl rfl 90 (w := 1) ?_
  change vcs _ _ _ _ 90 0 [(19, 9)] [] σ
  simp only [↓reduceIte, vSw2_e, swP_n, swP_c, vI_e, vL_e, vNull_e, vIload_e, vLload_e, vAload_e, vIstore_e, vLstore_e, vAstore_e, vIinc_e, vIadd_e, vIsub_e, vImul_e, vIand_e, vIor_e, vIxor_e, vIshl_e, vIshr_e, vIushr_e, vIdiv_e, vIrem_e, vLadd_e, vLsub_e, vLmul_e, vLand_e, vLor_e, vLxor_e, vLdiv_e, vLrem_e, vLushr_e, vLshl_e, vLcmp_e, vIneg_e, vI2l_e, vL2i_e, vI2b_e, vI2c_e, vDup_e, vPop_e, vDup2_e, vGoto_e, vIcEq_e, vIfEq_e, vIcNe_e, vIfNe_e, vIcLt_e, vIfLt_e, vIcGe_e, vIfGe_e, vIcGt_e, vIfGt_e, vIcLe_e, vIfLe_e, vNonnull_e, vSw_e, vGetI_e, vGetL_e, vGetR_e, vPutI_e, vPutZ_e, vPutL_e, vPutR_e, vIald_e, vIald_s, vLald_e, vBald_e, vBald_s, vAald_e, vIast_e, vLast_e, vBast_e, vAast_e, vAlen_e8, vAlen_e9, vAlen_e10, vAlen_e11, vAlen_e5, vAlen_e3, vGets_e, vCompact_e, vLdcS_e, vIret_e, vZret_e, vCret_e, vBret_e, vLret_e, vVret_e, vAret_e, vCallM_e0, vCallMV_e0, vCallS_e0, vCallSV_e0, vCallM_e1, vCallMV_e1, vCallS_e1, vCallSV_e1, vCallM_e2, vCallMV_e2, vCallS_e2, vCallSV_e2, vCallM_e3, vCallMV_e3, vCallS_e3, vCallSV_e3, vCallM_e4, vCallMV_e4, vCallS_e4, vCallSV_e4, vCallM_e5, vCallMV_e5, vCallS_e5, vCallSV_e5, vCallM_e6, vCallMV_e6, vCallS_e6, vCallSV_e6, vCallM_e7, vCallMV_e7, vCallS_e7, vCallSV_e7, vBad_e, vStrVal_e, vStrCod_e, vForm_e, vCallT_e0, vCallT_e1, vCallT_e2, vCopy_e, rf_0_0, rf_0_1, rf_0_2, rf_0_3, rf_0_4, rf_0_7, rf_0_10, rf_0_11, rf_0_12, rf_0_13, rf_0_14, rf_0_15, rf_0_16, rf_1_0, rf_3_0, rf_3_1, rf_6_0, rf_6_1, rf_9_0, rf_9_1, rf_9_3, rf_13_0, rf_13_1, rf_13_2, rf_16_0, rf_16_1, rf_16_2, rf_16_3, rf_21_0, rf_21_1, rf_21_2, rf_21_3, rf_26_0, rf_26_1, rf_26_2, rf_26_3, rf_26_4, rf_26_5, rf_26_6, rf_31_0, rf_31_2, rf_31_5, rf_31_6, rf_36_0, rf_36_1, rf_36_2, rf_36_3, rf_39_0, rf_39_1, rf_39_2, rf_41_0, rf_41_1, rf_41_2, rf_41_3, rf_5000_1, rf_5000_2, rf_5000_3, rf_5000_4, rf_5000_5, rf_5000_15, rf_5000_16, rf_5000_18, rf_5000_19, rf_5000_20, rf_5000_21, rf_5000_22, rf_5000_23, rf_5000_24, rf_5000_25, rf_5000_26, rf_5000_27, rf_5000_36, rf_5000_37, rf_5000_40, rf_5000_41, rf_5000_42, rf_5000_43, rf_5000_44, rf_5000_45, rf_5000_47, rf_5000_52, rf_5000_54, rf_5000_55, rf_100_0, rf_100_1, rf_103_0, rf_103_1, rf_106_0, rf_106_1, rf_109_0, rf_109_1, al_2, al_4, al_5, al_7, al_8, al_10, al_11, al_12, al_14, al_15, al_17, al_18, al_19, al_20, al_22, al_23, al_24, al_25, al_27, al_28, al_29, al_30, al_32, al_33, al_34, al_35, al_37, al_38, al_40, al_42, al_5001, al_5002, al_5003, al_5004, al_5005, al_5006, al_5007, al_5008, al_5009, al_5010, al_5011, al_5012, al_5013, al_5014, al_5015, al_5016, al_5017, al_5018, al_5019, al_5020, al_5021, al_5022, al_5023, al_5024, al_5025, al_5026, al_9000, al_101, al_102, al_104, al_105, al_107, al_108, al_110, al_111, vcs_e, lg_c0, lg_cs, lg_nil, set_c0, set_cs, okst_0, okst_s, acok_n, acok_c, List.contains_nil, List.contains_cons, Bool.or_false, Bool.false_or, Bool.false_eq_true, if_false, if_true, ite_self, ne_eq, true_and, and_true, not_false_eq_true, not_true_eq_false, false_imp_iff, true_imp_iff, Nat.ble_eq, Bool.and_eq_true, reduceCtorEq, or_false, false_or, or_true, true_or, false_and, and_false, and_self, Int.reduceLE, Int.reduceAdd, Int.reduceSub, Int.reduceMul, Int.reduceNeg, Int.reduceLT, Int.reduceEq, Int.reduceNe, Nat.reduceBEq, Nat.reduceBNe, Nat.reduceEqDiff, amCmp_in, amCmp_lt, amCmp_le, amCmp_gt, amCmp_ge, amCmp_eq, amCmp_ne, Nat.reduceLeDiff, Nat.reduceSub, Bool.and_true, Bool.true_and, Bool.and_self, Bool.or_true, Bool.true_or, isRf_3, isRf_4, isRf_5, isRf_8, isRf_9, isRf_10, isRf_11, isRf_15, isRf_16, isRf_17, isRf_18, isRf_19, isRf_20, isRf_21, isRf_22, isRf_23, isRf_24, isRf_25, isRf_26, isRf_27, isRf_28, k_X3_closeCondition_0, k_X3_closeCondition_1, k_X3_closeCondition_2, k_X3_closeCondition_5, k_X3_closeCondition_6, k_X3_closeCondition_7, k_X3_closeCondition_10, k_X3_closeCondition_13, k_X3_closeCondition_14, k_X3_closeCondition_17, k_X3_closeCondition_20, k_X3_closeCondition_21, k_X3_closeCondition_22, k_X3_closeCondition_25, k_X3_closeCondition_26, k_X3_closeCondition_27, k_X3_closeCondition_30, k_X3_closeCondition_31, k_X3_closeCondition_32, k_X3_closeCondition_35, k_X3_closeCondition_36, k_X3_closeCondition_39, k_X3_closeCondition_40, k_X3_closeCondition_43, k_X3_closeCondition_44, k_X3_closeCondition_45, k_X3_closeCondition_48, k_X3_closeCondition_49, w_X3_emit_e, w_X3_settle_e, up_s, up_nj, up_na, up_up, savR_o, cpy_o, fillm_o, setAud_o, setv_o, setv_s, Int.reduceNe, Int.reduceEq, Int.reduceLT, Int.reduceAdd, not_false_eq_true, ne_eq, or_true, true_or]
  refine ⟨⟨by omega, by omega⟩, m, p, C, W, sd, wi, br, ro, ska, wa, um, hL, by omega, by omega, by omega, by omega, fun τ hτ => ?_⟩
  have hlen := sCW_len 1 W
  have e2 : τ 9 2 = (C ++ sC 1 W).length := hτ.2.1.1
  have ep : τ 1 2 = p := hτ.1.2.2
  have e9 : ((C ++ sC 1 W).length : Int) = C.length + (sC 1 W).length := by rw [List.length_append]; omega
  have hh := h _ (e9 ▸ RdP_p (RdP_11 (RdP_10 (RdP_5 (RdP_emit (RdP_9 hτ (C ++ sC 1 W).length) 30000) 3) 1) 0) (p + 1))
  simp only [e2, e9, ep]
  repeat' (first | apply And.intro | intro _)
  all_goals first | omega | exact hh
def a_X3_closeClause : AC := [(0, vAload 0 1), (1, vGetI 19 7 4), (4, vIfGt 22 7), (7, vAload 0 8), (8, vGetI 19 5 11), (11, vIfEq 24 14), (14, vAload 0 15), (15, vGetI 19 5 18), (18, vI 3 19), (19, vIcEq 24 22), (22, vI 0 23), (23, vZret), (24, vAload 0 25), (25, vI 1 26), (26, vCallMV w_X3_settle 19 1 29), (29, vAload 0 30), (30, vI 20059 33), (33, vCallMV w_X3_emit 19 1 36), (36, vAload 0 37), (37, vGetI 19 9 40), (40, vIfLt 72 43), (43, vAload 0 44), (44, vGetI 19 9 47), (47, vAload 0 48), (48, vGetR TT 19 1 8 51), (51, vAlen TT 52), (52, vIcGe 72 55), (55, vAload 0 56), (56, vGetR TT 19 1 8 59), (59, vAload 0 60), (60, vGetI 19 9 63), (63, vI 30000 66), (66, vAload 0 67), (67, vGetI 19 2 70), (70, vIadd 71), (71, vIast TT 72), (72, vI 1 73), (73, vZret)]
theorem k_X3_closeClause_0 : look a_X3_closeClause 0 = vAload 0 1 := rfl
theorem k_X3_closeClause_1 : look a_X3_closeClause 1 = vGetI 19 7 4 := rfl
theorem k_X3_closeClause_4 : look a_X3_closeClause 4 = vIfGt 22 7 := rfl
theorem k_X3_closeClause_7 : look a_X3_closeClause 7 = vAload 0 8 := rfl
theorem k_X3_closeClause_8 : look a_X3_closeClause 8 = vGetI 19 5 11 := rfl
theorem k_X3_closeClause_11 : look a_X3_closeClause 11 = vIfEq 24 14 := rfl
theorem k_X3_closeClause_14 : look a_X3_closeClause 14 = vAload 0 15 := rfl
theorem k_X3_closeClause_15 : look a_X3_closeClause 15 = vGetI 19 5 18 := rfl
theorem k_X3_closeClause_18 : look a_X3_closeClause 18 = vI 3 19 := rfl
theorem k_X3_closeClause_19 : look a_X3_closeClause 19 = vIcEq 24 22 := rfl
theorem k_X3_closeClause_22 : look a_X3_closeClause 22 = vI 0 23 := rfl
theorem k_X3_closeClause_23 : look a_X3_closeClause 23 = vZret := rfl
theorem k_X3_closeClause_24 : look a_X3_closeClause 24 = vAload 0 25 := rfl
theorem k_X3_closeClause_25 : look a_X3_closeClause 25 = vI 1 26 := rfl
theorem k_X3_closeClause_26 : look a_X3_closeClause 26 = vCallMV w_X3_settle 19 1 29 := rfl
theorem k_X3_closeClause_29 : look a_X3_closeClause 29 = vAload 0 30 := rfl
theorem k_X3_closeClause_30 : look a_X3_closeClause 30 = vI 20059 33 := rfl
theorem k_X3_closeClause_33 : look a_X3_closeClause 33 = vCallMV w_X3_emit 19 1 36 := rfl
theorem k_X3_closeClause_36 : look a_X3_closeClause 36 = vAload 0 37 := rfl
theorem k_X3_closeClause_37 : look a_X3_closeClause 37 = vGetI 19 9 40 := rfl
theorem k_X3_closeClause_40 : look a_X3_closeClause 40 = vIfLt 72 43 := rfl
theorem k_X3_closeClause_43 : look a_X3_closeClause 43 = vAload 0 44 := rfl
theorem k_X3_closeClause_44 : look a_X3_closeClause 44 = vGetI 19 9 47 := rfl
theorem k_X3_closeClause_47 : look a_X3_closeClause 47 = vAload 0 48 := rfl
theorem k_X3_closeClause_48 : look a_X3_closeClause 48 = vGetR TT 19 1 8 51 := rfl
theorem k_X3_closeClause_51 : look a_X3_closeClause 51 = vAlen TT 52 := rfl
theorem k_X3_closeClause_52 : look a_X3_closeClause 52 = vIcGe 72 55 := rfl
theorem k_X3_closeClause_55 : look a_X3_closeClause 55 = vAload 0 56 := rfl
theorem k_X3_closeClause_56 : look a_X3_closeClause 56 = vGetR TT 19 1 8 59 := rfl
theorem k_X3_closeClause_59 : look a_X3_closeClause 59 = vAload 0 60 := rfl
theorem k_X3_closeClause_60 : look a_X3_closeClause 60 = vGetI 19 9 63 := rfl
theorem k_X3_closeClause_63 : look a_X3_closeClause 63 = vI 30000 66 := rfl
theorem k_X3_closeClause_66 : look a_X3_closeClause 66 = vAload 0 67 := rfl
theorem k_X3_closeClause_67 : look a_X3_closeClause 67 = vGetI 19 2 70 := rfl
theorem k_X3_closeClause_70 : look a_X3_closeClause 70 = vIadd 71 := rfl
theorem k_X3_closeClause_71 : look a_X3_closeClause 71 = vIast TT 72 := rfl
theorem k_X3_closeClause_72 : look a_X3_closeClause 72 = vI 1 73 := rfl
theorem k_X3_closeClause_73 : look a_X3_closeClause 73 = vZret := rfl
theorem o_X3_closeClause {X : amX} (e1 : XT X = TT) (e2 : XD X = 2) (hB : amB X RX3 cX3_closeClause (some .boolean) 1) : ∀ pc, amOK X pc (look a_X3_closeClause pc) := by
  have hT : amTok (XT X) := e1 ▸ TT_ok
  refine look_ok ?_
  unfold a_X3_closeClause
  refine fc (ok_aload_n hB dX3_closeClause_0) ?_
  refine fc (ok_getI hB hT fl_X3_33 rfl rfl (Or.inl af_3_7) dX3_closeClause_1) ?_
  refine fc (ok_if_gt hB (t := 22) (by decide) dX3_closeClause_4) ?_
  refine fc (ok_aload_n hB dX3_closeClause_7) ?_
  refine fc (ok_getI hB hT fl_X3_27 rfl rfl (Or.inl af_3_5) dX3_closeClause_8) ?_
  refine fc (ok_if_eq hB (t := 24) (by decide) dX3_closeClause_11) ?_
  refine fc (ok_aload_n hB dX3_closeClause_14) ?_
  refine fc (ok_getI hB hT fl_X3_27 rfl rfl (Or.inl af_3_5) dX3_closeClause_15) ?_
  refine fc (ok_iconst hB dX3_closeClause_18) ?_
  refine fc (ok_icmp_eq hB (t := 24) (by decide) dX3_closeClause_19) ?_
  refine fc (ok_iconst hB dX3_closeClause_22) ?_
  refine fc (ok_zret hB dX3_closeClause_23) ?_
  refine fc (ok_aload_n hB dX3_closeClause_24) ?_
  refine fc (ok_iconst hB dX3_closeClause_25) ?_
  refine fc (ok_callMV hB hT (e1 ▸ s_X3_settle) lk_X3_139 (by rw [e2]; decide) (c := 3) rfl rfl rfl wd_587 sl_X3_settle dX3_closeClause_26) ?_
  refine fc (ok_aload_n hB dX3_closeClause_29) ?_
  refine fc (ok_sipush hB dX3_closeClause_30 (by decide)) ?_
  refine fc (ok_callMV hB hT (e1 ▸ s_X3_emit) lk_X3_107 (by rw [e2]; decide) (c := 3) rfl rfl rfl wd_594 sl_X3_emit dX3_closeClause_33) ?_
  refine fc (ok_aload_n hB dX3_closeClause_36) ?_
  refine fc (ok_getI hB hT fl_X3_39 rfl rfl (Or.inl af_3_9) dX3_closeClause_37) ?_
  refine fc (ok_if_lt hB (t := 72) (by decide) dX3_closeClause_40) ?_
  refine fc (ok_aload_n hB dX3_closeClause_43) ?_
  refine fc (ok_getI hB hT fl_X3_39 rfl rfl (Or.inl af_3_9) dX3_closeClause_44) ?_
  refine fc (ok_aload_n hB dX3_closeClause_47) ?_
  refine fc (okt_getR e1 hB hT fl_X3_11 rfl af_3_1 at_3_1 (by decide) dX3_closeClause_48) ?_
  refine fc (okt_arraylength e1 hB dX3_closeClause_51) ?_
  refine fc (ok_icmp_ge hB (t := 72) (by decide) dX3_closeClause_52) ?_
  refine fc (ok_aload_n hB dX3_closeClause_55) ?_
  refine fc (okt_getR e1 hB hT fl_X3_11 rfl af_3_1 at_3_1 (by decide) dX3_closeClause_56) ?_
  refine fc (ok_aload_n hB dX3_closeClause_59) ?_
  refine fc (ok_getI hB hT fl_X3_39 rfl rfl (Or.inl af_3_9) dX3_closeClause_60) ?_
  refine fc (ok_sipush hB dX3_closeClause_63 (by decide)) ?_
  refine fc (ok_aload_n hB dX3_closeClause_66) ?_
  refine fc (ok_getI hB hT fl_X3_17 rfl rfl (Or.inl af_3_2) dX3_closeClause_67) ?_
  refine fc (ok_iadd hB dX3_closeClause_70) ?_
  refine fc (okt_iastore e1 hB dX3_closeClause_71) ?_
  refine fc (ok_iconst hB dX3_closeClause_72) ?_
  refine fc (ok_zret hB dX3_closeClause_73) ?_
  exact fn

def w_X3_closeClause : WP := fun av σ Q => av = [(19, 9)] ∧ (∃ (m : Mem) (p : Int) (C W : List Int) (sd wi br ro ska wa um : Int), RdP m σ p C W sd wi br ro ska wa um ∧ C.length + W.length ≤ 238 ∧ W.length ≤ 60 ∧ 0 ≤ wi ∧ wi ≤ 100 ∧ InR sd ∧ InR br ∧ -1 ≤ ska ∧ ska ≤ 240 ∧
(if 0 < br ∨ (sd ≠ 0 ∧ sd ≠ 3) then Q (0, 0) σ else ∀ τ, RdX m τ p → τ 9 2 = (lpat (C ++ sC 1 W ++ [20059]) ska).length → lst (τ 10) 0 (lpat (C ++ sC 1 W ++ [20059]) ska) → Q (0, 1) τ))
theorem w_X3_closeClause_e  (σ : Mem) (Q : AV → Mem → Prop) : w_X3_closeClause [(19, 9)] σ Q = (∃ (m : Mem) (p : Int) (C W : List Int) (sd wi br ro ska wa um : Int), RdP m σ p C W sd wi br ro ska wa um ∧ C.length + W.length ≤ 238 ∧ W.length ≤ 60 ∧ 0 ≤ wi ∧ wi ≤ 100 ∧ InR sd ∧ InR br ∧ -1 ≤ ska ∧ ska ≤ 240 ∧
(if 0 < br ∨ (sd ≠ 0 ∧ sd ≠ 3) then Q (0, 0) σ else ∀ τ, RdX m τ p → τ 9 2 = (lpat (C ++ sC 1 W ++ [20059]) ska).length → lst (τ 10) 0 (lpat (C ++ sC 1 W ++ [20059]) ska) → Q (0, 1) τ)) := by
  apply propext; constructor
  · rintro ⟨h9, hb9⟩; cases h9; exact hb9
  · intro hb9; exact ⟨rfl, hb9⟩
theorem lst_set {f : Int → Int} : ∀ {l : List Int} {i : Int} (k : Nat) (v : Int), lst f i l → lst (upf f (i + k) v) i (l.set k v) := by
  intro l
  induction l with
  | nil => intro _ _ _ _; trivial
  | cons a l ih =>
    intro i k v h
    cases k with
    | zero =>
      refine ⟨by unfold upf; rw [if_pos (by omega)], ?_⟩
      have : ∀ {l : List Int} {j : Int}, i < j → lst f j l → lst (upf f (i + (0 : Nat)) v) j l := by
        intro l
        induction l with
        | nil => intro _ _ _; trivial
        | cons b l ih => intro j h1 h2; exact ⟨by unfold upf; rw [if_neg (by omega)]; exact h2.1, ih (by omega) h2.2⟩
      exact this (by omega) h.2
    | succ k =>
      refine ⟨by unfold upf; rw [if_neg (by omega)]; exact h.1, ?_⟩
      have := ih k v h.2
      rw [show i + 1 + (k : Int) = i + ((k + 1 : Nat) : Int) by omega] at this
      exact this
theorem lpat_len (C : List Int) (s : Int) : (lpat C s).length = C.length := by
  unfold lpat; split
  · rw [List.length_set]
  · rfl
set_option maxRecDepth 100000 in
set_option maxHeartbeats 4000000 in
theorem s_X3_closeClause : ∀ av σ Q, w_X3_closeClause av σ Q → amCall 2 0 0 TT yX3_closeClause cX3_closeClause 1 (some .boolean) av σ Q := by
  rintro av σ Q ⟨rfl, m, p, C, W, sd, wi, br, ro, ska, wa, um, hL, h1, h2, h3, h4, h5, h6, h7, h8, h⟩
  have e5 : σ 9 5 = sd := hL.2.2.2.1
  have e7 : σ 9 7 = br := hL.2.2.2.2.2.1
  refine am_m0 (own := RX3) (A := look a_X3_closeClause) (fun X e1 e2 hB => o_X3_closeClause e1 e2 hB) rfl (by decide +kernel) rfl rfl 90 (w := 1) ?_
  change vcs _ _ _ _ 90 0 [(19, 9)] [] σ
  simp only [↓reduceIte, vSw2_e, swP_n, swP_c, vI_e, vL_e, vNull_e, vIload_e, vLload_e, vAload_e, vIstore_e, vLstore_e, vAstore_e, vIinc_e, vIadd_e, vIsub_e, vImul_e, vIand_e, vIor_e, vIxor_e, vIshl_e, vIshr_e, vIushr_e, vIdiv_e, vIrem_e, vLadd_e, vLsub_e, vLmul_e, vLand_e, vLor_e, vLxor_e, vLdiv_e, vLrem_e, vLushr_e, vLshl_e, vLcmp_e, vIneg_e, vI2l_e, vL2i_e, vI2b_e, vI2c_e, vDup_e, vPop_e, vDup2_e, vGoto_e, vIcEq_e, vIfEq_e, vIcNe_e, vIfNe_e, vIcLt_e, vIfLt_e, vIcGe_e, vIfGe_e, vIcGt_e, vIfGt_e, vIcLe_e, vIfLe_e, vNonnull_e, vSw_e, vGetI_e, vGetL_e, vGetR_e, vPutI_e, vPutZ_e, vPutL_e, vPutR_e, vIald_e, vIald_s, vLald_e, vBald_e, vBald_s, vAald_e, vIast_e, vLast_e, vBast_e, vAast_e, vAlen_e8, vAlen_e9, vAlen_e10, vAlen_e11, vAlen_e5, vAlen_e3, vGets_e, vCompact_e, vLdcS_e, vIret_e, vZret_e, vCret_e, vBret_e, vLret_e, vVret_e, vAret_e, vCallM_e0, vCallMV_e0, vCallS_e0, vCallSV_e0, vCallM_e1, vCallMV_e1, vCallS_e1, vCallSV_e1, vCallM_e2, vCallMV_e2, vCallS_e2, vCallSV_e2, vCallM_e3, vCallMV_e3, vCallS_e3, vCallSV_e3, vCallM_e4, vCallMV_e4, vCallS_e4, vCallSV_e4, vCallM_e5, vCallMV_e5, vCallS_e5, vCallSV_e5, vCallM_e6, vCallMV_e6, vCallS_e6, vCallSV_e6, vCallM_e7, vCallMV_e7, vCallS_e7, vCallSV_e7, vBad_e, vStrVal_e, vStrCod_e, vForm_e, vCallT_e0, vCallT_e1, vCallT_e2, vCopy_e, rf_0_0, rf_0_1, rf_0_2, rf_0_3, rf_0_4, rf_0_7, rf_0_10, rf_0_11, rf_0_12, rf_0_13, rf_0_14, rf_0_15, rf_0_16, rf_1_0, rf_3_0, rf_3_1, rf_6_0, rf_6_1, rf_9_0, rf_9_1, rf_9_3, rf_13_0, rf_13_1, rf_13_2, rf_16_0, rf_16_1, rf_16_2, rf_16_3, rf_21_0, rf_21_1, rf_21_2, rf_21_3, rf_26_0, rf_26_1, rf_26_2, rf_26_3, rf_26_4, rf_26_5, rf_26_6, rf_31_0, rf_31_2, rf_31_5, rf_31_6, rf_36_0, rf_36_1, rf_36_2, rf_36_3, rf_39_0, rf_39_1, rf_39_2, rf_41_0, rf_41_1, rf_41_2, rf_41_3, rf_5000_1, rf_5000_2, rf_5000_3, rf_5000_4, rf_5000_5, rf_5000_15, rf_5000_16, rf_5000_18, rf_5000_19, rf_5000_20, rf_5000_21, rf_5000_22, rf_5000_23, rf_5000_24, rf_5000_25, rf_5000_26, rf_5000_27, rf_5000_36, rf_5000_37, rf_5000_40, rf_5000_41, rf_5000_42, rf_5000_43, rf_5000_44, rf_5000_45, rf_5000_47, rf_5000_52, rf_5000_54, rf_5000_55, rf_100_0, rf_100_1, rf_103_0, rf_103_1, rf_106_0, rf_106_1, rf_109_0, rf_109_1, al_2, al_4, al_5, al_7, al_8, al_10, al_11, al_12, al_14, al_15, al_17, al_18, al_19, al_20, al_22, al_23, al_24, al_25, al_27, al_28, al_29, al_30, al_32, al_33, al_34, al_35, al_37, al_38, al_40, al_42, al_5001, al_5002, al_5003, al_5004, al_5005, al_5006, al_5007, al_5008, al_5009, al_5010, al_5011, al_5012, al_5013, al_5014, al_5015, al_5016, al_5017, al_5018, al_5019, al_5020, al_5021, al_5022, al_5023, al_5024, al_5025, al_5026, al_9000, al_101, al_102, al_104, al_105, al_107, al_108, al_110, al_111, vcs_e, lg_c0, lg_cs, lg_nil, set_c0, set_cs, okst_0, okst_s, acok_n, acok_c, List.contains_nil, List.contains_cons, Bool.or_false, Bool.false_or, Bool.false_eq_true, if_false, if_true, ite_self, ne_eq, true_and, and_true, not_false_eq_true, not_true_eq_false, false_imp_iff, true_imp_iff, Nat.ble_eq, Bool.and_eq_true, reduceCtorEq, or_false, false_or, or_true, true_or, false_and, and_false, and_self, Int.reduceLE, Int.reduceAdd, Int.reduceSub, Int.reduceMul, Int.reduceNeg, Int.reduceLT, Int.reduceEq, Int.reduceNe, Nat.reduceBEq, Nat.reduceBNe, Nat.reduceEqDiff, amCmp_in, amCmp_lt, amCmp_le, amCmp_gt, amCmp_ge, amCmp_eq, amCmp_ne, Nat.reduceLeDiff, Nat.reduceSub, Bool.and_true, Bool.true_and, Bool.and_self, Bool.or_true, Bool.true_or, isRf_3, isRf_4, isRf_5, isRf_8, isRf_9, isRf_10, isRf_11, isRf_15, isRf_16, isRf_17, isRf_18, isRf_19, isRf_20, isRf_21, isRf_22, isRf_23, isRf_24, isRf_25, isRf_26, isRf_27, isRf_28, k_X3_closeClause_0, k_X3_closeClause_1, k_X3_closeClause_4, k_X3_closeClause_7, k_X3_closeClause_8, k_X3_closeClause_11, k_X3_closeClause_14, k_X3_closeClause_15, k_X3_closeClause_18, k_X3_closeClause_19, k_X3_closeClause_22, k_X3_closeClause_23, k_X3_closeClause_24, k_X3_closeClause_25, k_X3_closeClause_26, k_X3_closeClause_29, k_X3_closeClause_30, k_X3_closeClause_33, k_X3_closeClause_36, k_X3_closeClause_37, k_X3_closeClause_40, k_X3_closeClause_43, k_X3_closeClause_44, k_X3_closeClause_47, k_X3_closeClause_48, k_X3_closeClause_51, k_X3_closeClause_52, k_X3_closeClause_55, k_X3_closeClause_56, k_X3_closeClause_59, k_X3_closeClause_60, k_X3_closeClause_63, k_X3_closeClause_66, k_X3_closeClause_67, k_X3_closeClause_70, k_X3_closeClause_71, k_X3_closeClause_72, k_X3_closeClause_73, w_X3_emit_e, w_X3_settle_e, up_s, up_nj, up_na, up_up, savR_o, cpy_o, fillm_o, setAud_o, setv_o, setv_s, Int.reduceNe, Int.reduceEq, Int.reduceLT, Int.reduceAdd, not_false_eq_true, ne_eq, or_true, true_or, e5, e7]
  by_cases c : 0 < br ∨ (sd ≠ 0 ∧ sd ≠ 3)
  · rw [if_pos c] at h
    repeat' (first | apply And.intro | intro _)
    all_goals first | omega | exact h
  · rw [if_neg c] at h
    have key : ∀ τ, RdP m τ p (C ++ sC 1 W) (sW 1 W) sd (wi - sN 1 W) br ro ska wa um → (0 ≤ τ 9 2 ∧ τ 9 2 < 240) ∧ τ 9 9 = ska ∧ (0 ≤ ska → Q (0, 1) (up (up (up τ 10 (τ 9 2) 20059) 9 2 (τ 9 2 + 1)) 10 ska (30000 + (τ 9 2 + 1)))) ∧ (ska < 0 → Q (0, 1) (up (up τ 10 (τ 9 2) 20059) 9 2 (τ 9 2 + 1))) := fun τ hτ => by
      have hlen := sCW_len 1 W
      have e2 : τ 9 2 = (C ++ sC 1 W).length := hτ.2.1.1
      have e3 : ((C ++ sC 1 W).length : Int) = C.length + (sC 1 W).length := by rw [List.length_append]; omega
      have L1 := RdP_emit hτ 20059
      rw [← e2] at L1
      have e4 : ((C ++ sC 1 W ++ [20059]).length : Int) = τ 9 2 + 1 := by rw [List.length_append, List.length_cons, List.length_nil, e2]; omega
      refine ⟨by omega, hτ.2.2.2.2.2.2.2.1, fun hs => ?_, fun hs => ?_⟩
      · refine h _ (RdX_9 L1.1 (Or.inr (Or.inl rfl)) _ _) ?_ ?_
        · rw [lpat_len, up_na _ (by decide), up_s, e4]
        · rw [up_row]
          unfold lpat
          rw [if_pos hs, e4]
          have := lst_set ska.toNat (30000 + (τ 9 2 + 1)) L1.2.1.2
          rw [show (0 : Int) + (ska.toNat : Int) = ska by omega] at this
          exact this
      · refine h _ L1.1 ?_ ?_
        · rw [lpat_len, up_s, e4]
        · unfold lpat
          rw [if_neg (by omega)]
          exact L1.2.1.2
    repeat' (first | apply And.intro | intro _)
    all_goals first | omega | skip
    all_goals (refine ⟨m, p, C, W, sd, wi, br, ro, ska, wa, um, hL, by omega, by omega, by omega, by omega, fun τ hτ => ?_⟩; obtain ⟨k1, k2, k3, k4⟩ := key τ hτ; simp only [k2]; (repeat' (first | apply And.intro | intro _)) <;> first | omega | exact k3 (by omega) | exact k4 (by omega))
