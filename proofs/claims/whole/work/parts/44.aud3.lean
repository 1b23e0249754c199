/-! Audience: kept rows -/
def savR (σ : Mem) (r fr : Int) : Mem := fun b j => if b = r ∧ fr ≤ j ∧ j < fr + 27 then aud σ 16 (j - fr) else σ b j
theorem savR_o (σ : Mem) {r fr b : Int} (h : b ≠ r) : savR σ r fr b = σ b := by
  funext j; unfold savR; rw [if_neg (fun q => h q.1)]

def a_X0_saveTo : AC := [(0, vIload 2 1), (1, vIfLt 13 4), (4, vIload 2 5), (5, vAload 1 6), (6, vAlen TT 7), (7, vI 27 9), (9, vIsub 10), (10, vIcLe 14 13), (13, vVret), (14, vAload 0 15), (15, vGetR TT 16 0 8 18), (18, vI 0 19), (19, vAload 1 20), (20, vIload 2 21), (21, vI 6 23), (23, vCopy TT 26), (26, vAload 0 27), (27, vGetR TT 16 1 8 30), (30, vI 0 31), (31, vAload 1 32), (32, vIload 2 33), (33, vI 6 35), (35, vIadd 36), (36, vI 6 38), (38, vCopy TT 41), (41, vAload 0 42), (42, vGetR TT 16 2 8 45), (45, vI 0 46), (46, vAload 1 47), (47, vIload 2 48), (48, vI 12 50), (50, vIadd 51), (51, vI 6 53), (53, vCopy TT 56), (56, vAload 0 57), (57, vGetR TT 16 3 8 60), (60, vI 0 61), (61, vAload 1 62), (62, vIload 2 63), (63, vI 18 65), (65, vIadd 66), (66, vI 6 68), (68, vCopy TT 71), (71, vAload 1 72), (72, vIload 2 73), (73, vI 27 75), (75, vIadd 76), (76, vI 3 77), (77, vIsub 78), (78, vAload 0 79), (79, vGetI 16 4 82), (82, vIast TT 83), (83, vAload 1 84), (84, vIload 2 85), (85, vI 27 87), (87, vIadd 88), (88, vI 2 89), (89, vIsub 90), (90, vAload 0 91), (91, vGetI 16 5 94), (94, vIast TT 95), (95, vAload 1 96), (96, vIload 2 97), (97, vI 27 99), (99, vIadd 100), (100, vI 1 101), (101, vIsub 102), (102, vAload 0 103), (103, vGetI 16 6 106), (106, vIast TT 107), (107, vVret)]
theorem k_X0_saveTo_0 : look a_X0_saveTo 0 = vIload 2 1 := rfl
theorem k_X0_saveTo_1 : look a_X0_saveTo 1 = vIfLt 13 4 := rfl
theorem k_X0_saveTo_4 : look a_X0_saveTo 4 = vIload 2 5 := rfl
theorem k_X0_saveTo_5 : look a_X0_saveTo 5 = vAload 1 6 := rfl
theorem k_X0_saveTo_6 : look a_X0_saveTo 6 = vAlen TT 7 := rfl
theorem k_X0_saveTo_7 : look a_X0_saveTo 7 = vI 27 9 := rfl
theorem k_X0_saveTo_9 : look a_X0_saveTo 9 = vIsub 10 := rfl
theorem k_X0_saveTo_10 : look a_X0_saveTo 10 = vIcLe 14 13 := rfl
theorem k_X0_saveTo_13 : look a_X0_saveTo 13 = vVret := rfl
theorem k_X0_saveTo_14 : look a_X0_saveTo 14 = vAload 0 15 := rfl
theorem k_X0_saveTo_15 : look a_X0_saveTo 15 = vGetR TT 16 0 8 18 := rfl
theorem k_X0_saveTo_18 : look a_X0_saveTo 18 = vI 0 19 := rfl
theorem k_X0_saveTo_19 : look a_X0_saveTo 19 = vAload 1 20 := rfl
theorem k_X0_saveTo_20 : look a_X0_saveTo 20 = vIload 2 21 := rfl
theorem k_X0_saveTo_21 : look a_X0_saveTo 21 = vI 6 23 := rfl
theorem k_X0_saveTo_23 : look a_X0_saveTo 23 = vCopy TT 26 := rfl
theorem k_X0_saveTo_26 : look a_X0_saveTo 26 = vAload 0 27 := rfl
theorem k_X0_saveTo_27 : look a_X0_saveTo 27 = vGetR TT 16 1 8 30 := rfl
theorem k_X0_saveTo_30 : look a_X0_saveTo 30 = vI 0 31 := rfl
theorem k_X0_saveTo_31 : look a_X0_saveTo 31 = vAload 1 32 := rfl
theorem k_X0_saveTo_32 : look a_X0_saveTo 32 = vIload 2 33 := rfl
theorem k_X0_saveTo_33 : look a_X0_saveTo 33 = vI 6 35 := rfl
theorem k_X0_saveTo_35 : look a_X0_saveTo 35 = vIadd 36 := rfl
theorem k_X0_saveTo_36 : look a_X0_saveTo 36 = vI 6 38 := rfl
theorem k_X0_saveTo_38 : look a_X0_saveTo 38 = vCopy TT 41 := rfl
theorem k_X0_saveTo_41 : look a_X0_saveTo 41 = vAload 0 42 := rfl
theorem k_X0_saveTo_42 : look a_X0_saveTo 42 = vGetR TT 16 2 8 45 := rfl
theorem k_X0_saveTo_45 : look a_X0_saveTo 45 = vI 0 46 := rfl
theorem k_X0_saveTo_46 : look a_X0_saveTo 46 = vAload 1 47 := rfl
theorem k_X0_saveTo_47 : look a_X0_saveTo 47 = vIload 2 48 := rfl
theorem k_X0_saveTo_48 : look a_X0_saveTo 48 = vI 12 50 := rfl
theorem k_X0_saveTo_50 : look a_X0_saveTo 50 = vIadd 51 := rfl
theorem k_X0_saveTo_51 : look a_X0_saveTo 51 = vI 6 53 := rfl
theorem k_X0_saveTo_53 : look a_X0_saveTo 53 = vCopy TT 56 := rfl
theorem k_X0_saveTo_56 : look a_X0_saveTo 56 = vAload 0 57 := rfl
theorem k_X0_saveTo_57 : look a_X0_saveTo 57 = vGetR TT 16 3 8 60 := rfl
theorem k_X0_saveTo_60 : look a_X0_saveTo 60 = vI 0 61 := rfl
theorem k_X0_saveTo_61 : look a_X0_saveTo 61 = vAload 1 62 := rfl
theorem k_X0_saveTo_62 : look a_X0_saveTo 62 = vIload 2 63 := rfl
theorem k_X0_saveTo_63 : look a_X0_saveTo 63 = vI 18 65 := rfl
theorem k_X0_saveTo_65 : look a_X0_saveTo 65 = vIadd 66 := rfl
theorem k_X0_saveTo_66 : look a_X0_saveTo 66 = vI 6 68 := rfl
theorem k_X0_saveTo_68 : look a_X0_saveTo 68 = vCopy TT 71 := rfl
theorem k_X0_saveTo_71 : look a_X0_saveTo 71 = vAload 1 72 := rfl
theorem k_X0_saveTo_72 : look a_X0_saveTo 72 = vIload 2 73 := rfl
theorem k_X0_saveTo_73 : look a_X0_saveTo 73 = vI 27 75 := rfl
theorem k_X0_saveTo_75 : look a_X0_saveTo 75 = vIadd 76 := rfl
theorem k_X0_saveTo_76 : look a_X0_saveTo 76 = vI 3 77 := rfl
theorem k_X0_saveTo_77 : look a_X0_saveTo 77 = vIsub 78 := rfl
theorem k_X0_saveTo_78 : look a_X0_saveTo 78 = vAload 0 79 := rfl
theorem k_X0_saveTo_79 : look a_X0_saveTo 79 = vGetI 16 4 82 := rfl
theorem k_X0_saveTo_82 : look a_X0_saveTo 82 = vIast TT 83 := rfl
theorem k_X0_saveTo_83 : look a_X0_saveTo 83 = vAload 1 84 := rfl
theorem k_X0_saveTo_84 : look a_X0_saveTo 84 = vIload 2 85 := rfl
theorem k_X0_saveTo_85 : look a_X0_saveTo 85 = vI 27 87 := rfl
theorem k_X0_saveTo_87 : look a_X0_saveTo 87 = vIadd 88 := rfl
theorem k_X0_saveTo_88 : look a_X0_saveTo 88 = vI 2 89 := rfl
theorem k_X0_saveTo_89 : look a_X0_saveTo 89 = vIsub 90 := rfl
theorem k_X0_saveTo_90 : look a_X0_saveTo 90 = vAload 0 91 := rfl
theorem k_X0_saveTo_91 : look a_X0_saveTo 91 = vGetI 16 5 94 := rfl
theorem k_X0_saveTo_94 : look a_X0_saveTo 94 = vIast TT 95 := rfl
theorem k_X0_saveTo_95 : look a_X0_saveTo 95 = vAload 1 96 := rfl
theorem k_X0_saveTo_96 : look a_X0_saveTo 96 = vIload 2 97 := rfl
theorem k_X0_saveTo_97 : look a_X0_saveTo 97 = vI 27 99 := rfl
theorem k_X0_saveTo_99 : look a_X0_saveTo 99 = vIadd 100 := rfl
theorem k_X0_saveTo_100 : look a_X0_saveTo 100 = vI 1 101 := rfl
theorem k_X0_saveTo_101 : look a_X0_saveTo 101 = vIsub 102 := rfl
theorem k_X0_saveTo_102 : look a_X0_saveTo 102 = vAload 0 103 := rfl
theorem k_X0_saveTo_103 : look a_X0_saveTo 103 = vGetI 16 6 106 := rfl
theorem k_X0_saveTo_106 : look a_X0_saveTo 106 = vIast TT 107 := rfl
theorem k_X0_saveTo_107 : look a_X0_saveTo 107 = vVret := rfl
theorem o_X0_saveTo {X : amX} (e1 : XT X = TT) (e2 : XD X = 1) (hB : amB X RX0 cX0_saveTo (none) 3) : ∀ pc, amOK X pc (look a_X0_saveTo pc) := by
  have hT : amTok (XT X) := e1 ▸ TT_ok
  refine look_ok ?_
  unfold a_X0_saveTo
  refine fc (ok_iload_n hB dX0_saveTo_0) ?_
  refine fc (ok_if_lt hB (t := 13) (by decide) dX0_saveTo_1) ?_
  refine fc (ok_iload_n hB dX0_saveTo_4) ?_
  refine fc (ok_aload_n hB dX0_saveTo_5) ?_
  refine fc (okt_arraylength e1 hB dX0_saveTo_6) ?_
  refine fc (ok_bipush hB dX0_saveTo_7 (by decide)) ?_
  refine fc (ok_isub hB dX0_saveTo_9) ?_
  refine fc (ok_icmp_le hB (t := 14) (by decide) dX0_saveTo_10) ?_
  refine fc (ok_vret hB dX0_saveTo_13) ?_
  refine fc (ok_aload_n hB dX0_saveTo_14) ?_
  refine fc (okt_getR e1 hB hT fl_X0_9 rfl af_0_0 at_0_0 (by decide) dX0_saveTo_15) ?_
  refine fc (ok_iconst hB dX0_saveTo_18) ?_
  refine fc (ok_aload_n hB dX0_saveTo_19) ?_
  refine fc (ok_iload_n hB dX0_saveTo_20) ?_
  refine fc (ok_bipush hB dX0_saveTo_21 (by decide)) ?_
  refine fc (okt_copy e1 hB (by rw [e2]; decide) wd_769 wd_663 wd_662 wd_20 dX0_saveTo_23) ?_
  refine fc (ok_aload_n hB dX0_saveTo_26) ?_
  refine fc (okt_getR e1 hB hT fl_X0_15 rfl af_0_1 at_0_1 (by decide) dX0_saveTo_27) ?_
  refine fc (ok_iconst hB dX0_saveTo_30) ?_
  refine fc (ok_aload_n hB dX0_saveTo_31) ?_
  refine fc (ok_iload_n hB dX0_saveTo_32) ?_
  refine fc (ok_bipush hB dX0_saveTo_33 (by decide)) ?_
  refine fc (ok_iadd hB dX0_saveTo_35) ?_
  refine fc (ok_bipush hB dX0_saveTo_36 (by decide)) ?_
  refine fc (okt_copy e1 hB (by rw [e2]; decide) wd_769 wd_663 wd_662 wd_20 dX0_saveTo_38) ?_
  refine fc (ok_aload_n hB dX0_saveTo_41) ?_
  refine fc (okt_getR e1 hB hT fl_X0_18 rfl af_0_2 at_0_2 (by decide) dX0_saveTo_42) ?_
  refine fc (ok_iconst hB dX0_saveTo_45) ?_
  refine fc (ok_aload_n hB dX0_saveTo_46) ?_
  refine fc (ok_iload_n hB dX0_saveTo_47) ?_
  refine fc (ok_bipush hB dX0_saveTo_48 (by decide)) ?_
  refine fc (ok_iadd hB dX0_saveTo_50) ?_
  refine fc (ok_bipush hB dX0_saveTo_51 (by decide)) ?_
  refine fc (okt_copy e1 hB (by rw [e2]; decide) wd_769 wd_663 wd_662 wd_20 dX0_saveTo_53) ?_
  refine fc (ok_aload_n hB dX0_saveTo_56) ?_
  refine fc (okt_getR e1 hB hT fl_X0_21 rfl af_0_3 at_0_3 (by decide) dX0_saveTo_57) ?_
  refine fc (ok_iconst hB dX0_saveTo_60) ?_
  refine fc (ok_aload_n hB dX0_saveTo_61) ?_
  refine fc (ok_iload_n hB dX0_saveTo_62) ?_
  refine fc (ok_bipush hB dX0_saveTo_63 (by decide)) ?_
  refine fc (ok_iadd hB dX0_saveTo_65) ?_
  refine fc (ok_bipush hB dX0_saveTo_66 (by decide)) ?_
  refine fc (okt_copy e1 hB (by rw [e2]; decide) wd_769 wd_663 wd_662 wd_20 dX0_saveTo_68) ?_
  refine fc (ok_aload_n hB dX0_saveTo_71) ?_
  refine fc (ok_iload_n hB dX0_saveTo_72) ?_
  refine fc (ok_bipush hB dX0_saveTo_73 (by decide)) ?_
  refine fc (ok_iadd hB dX0_saveTo_75) ?_
  refine fc (ok_iconst hB dX0_saveTo_76) ?_
  refine fc (ok_isub hB dX0_saveTo_77) ?_
  refine fc (ok_aload_n hB dX0_saveTo_78) ?_
  refine fc (ok_getI hB hT fl_X0_24 rfl rfl (Or.inl af_0_4) dX0_saveTo_79) ?_
  refine fc (okt_iastore e1 hB dX0_saveTo_82) ?_
  refine fc (ok_aload_n hB dX0_saveTo_83) ?_
  refine fc (ok_iload_n hB dX0_saveTo_84) ?_
  refine fc (ok_bipush hB dX0_saveTo_85 (by decide)) ?_
  refine fc (ok_iadd hB dX0_saveTo_87) ?_
  refine fc (ok_iconst hB dX0_saveTo_88) ?_
  refine fc (ok_isub hB dX0_saveTo_89) ?_
  refine fc (ok_aload_n hB dX0_saveTo_90) ?_
  refine fc (ok_getI hB hT fl_X0_28 rfl rfl (Or.inl af_0_5) dX0_saveTo_91) ?_
  refine fc (okt_iastore e1 hB dX0_saveTo_94) ?_
  refine fc (ok_aload_n hB dX0_saveTo_95) ?_
  refine fc (ok_iload_n hB dX0_saveTo_96) ?_
  refine fc (ok_bipush hB dX0_saveTo_97 (by decide)) ?_
  refine fc (ok_iadd hB dX0_saveTo_99) ?_
  refine fc (ok_iconst hB dX0_saveTo_100) ?_
  refine fc (ok_isub hB dX0_saveTo_101) ?_
  refine fc (ok_aload_n hB dX0_saveTo_102) ?_
  refine fc (ok_getI hB hT fl_X0_31 rfl rfl (Or.inl af_0_6) dX0_saveTo_103) ?_
  refine fc (okt_iastore e1 hB dX0_saveTo_106) ?_
  refine fc (ok_vret hB dX0_saveTo_107) ?_
  exact fn

def w_X0_saveTo : WP := fun av σ Q => ∃ (a : Int) (r : Int) (fr : Int), av = [(16, a), (8, r), (0, fr)] ∧ (a = 16 ∧ 0 ≤ fr ∧ ((r = 33 ∧ fr + 27 ≤ 1120) ∨ (r = 34 ∧ fr = 0)) ∧ Q (6, 0) (savR σ r fr))
theorem w_X0_saveTo_e (a : Int) (r : Int) (fr : Int) (σ : Mem) (Q : AV → Mem → Prop) : w_X0_saveTo [(16, a), (8, r), (0, fr)] σ Q = (a = 16 ∧ 0 ≤ fr ∧ ((r = 33 ∧ fr + 27 ≤ 1120) ∨ (r = 34 ∧ fr = 0)) ∧ Q (6, 0) (savR σ r fr)) := by
  apply propext; constructor
  · rintro ⟨a', r', fr', h9, hb9⟩; cases h9; exact hb9
  · intro hb9; exact ⟨a, r, fr, rfl, hb9⟩

set_option maxRecDepth 100000 in
set_option maxHeartbeats 4000000 in
theorem s_X0_saveTo : ∀ av σ Q, w_X0_saveTo av σ Q → amCall 1 0 0 TT yX0_saveTo cX0_saveTo 3 (none) av σ Q := by
  rintro av σ Q ⟨a, r, fr, rfl, rfl, h0, hr, h⟩
  rcases hr with ⟨rfl, h1⟩ | ⟨rfl, h1⟩
  · refine am_m0 (own := RX0) (A := look a_X0_saveTo) (fun X e1 e2 hB => o_X0_saveTo e1 e2 hB) rfl (by decide +kernel) rfl rfl 120 (w := 3) ?_
    change vcs _ _ _ _ 120 0 [(16, 16), (8, 33), (0, fr)] [] σ
    simp only [vI_e, vL_e, vNull_e, vIload_e, vLload_e, vAload_e, vIstore_e, vLstore_e, vAstore_e, vIinc_e, vIadd_e, vIsub_e, vImul_e, vIand_e, vIor_e, vIxor_e, vIshl_e, vIshr_e, vIushr_e, vIdiv_e, vIrem_e, vLadd_e, vLsub_e, vLmul_e, vLand_e, vLor_e, vLxor_e, vLdiv_e, vLrem_e, vLushr_e, vLshl_e, vLcmp_e, vIneg_e, vI2l_e, vL2i_e, vI2b_e, vI2c_e, vDup_e, vPop_e, vDup2_e, vGoto_e, vIcEq_e, vIfEq_e, vIcNe_e, vIfNe_e, vIcLt_e, vIfLt_e, vIcGe_e, vIfGe_e, vIcGt_e, vIfGt_e, vIcLe_e, vIfLe_e, vNonnull_e, vSw_e, vGetI_e, vGetL_e, vGetR_e, vPutI_e, vPutZ_e, vPutL_e, vPutR_e, vIald_e, vIald_s, vLald_e, vBald_e, vBald_s, vAald_e, vIast_e, vLast_e, vBast_e, vAast_e, vAlen_e8, vAlen_e9, vAlen_e10, vAlen_e11, vAlen_e5, vAlen_e3, vGets_e, vCompact_e, vLdcS_e, vIret_e, vZret_e, vCret_e, vBret_e, vLret_e, vVret_e, vAret_e, vCallM_e0, vCallMV_e0, vCallS_e0, vCallSV_e0, vCallM_e1, vCallMV_e1, vCallS_e1, vCallSV_e1, vCallM_e2, vCallMV_e2, vCallS_e2, vCallSV_e2, vCallM_e3, vCallMV_e3, vCallS_e3, vCallSV_e3, vCallM_e4, vCallMV_e4, vCallS_e4, vCallSV_e4, vCallM_e5, vCallMV_e5, vCallS_e5, vCallSV_e5, vCallM_e6, vCallMV_e6, vCallS_e6, vCallSV_e6, vCallM_e7, vCallMV_e7, vCallS_e7, vCallSV_e7, vBad_e, vStrVal_e, vStrCod_e, vForm_e, vCallT_e0, vCallT_e1, vCallT_e2, vCopy_e, rf_0_0, rf_0_1, rf_0_2, rf_0_3, rf_0_4, rf_0_7, rf_0_10, rf_0_11, rf_0_12, rf_0_13, rf_0_14, rf_0_15, rf_0_16, rf_1_0, rf_3_0, rf_3_1, rf_6_0, rf_6_1, rf_9_0, rf_9_1, rf_9_3, rf_13_0, rf_13_1, rf_13_2, rf_16_0, rf_16_1, rf_16_2, rf_16_3, rf_21_0, rf_21_1, rf_21_2, rf_21_3, rf_26_0, rf_26_1, rf_26_2, rf_26_3, rf_26_4, rf_26_5, rf_26_6, rf_31_0, rf_31_2, rf_31_5, rf_31_6, rf_36_0, rf_36_1, rf_36_2, rf_36_3, rf_39_0, rf_39_1, rf_39_2, rf_41_0, rf_41_1, rf_41_2, rf_41_3, rf_5000_1, rf_5000_2, rf_5000_3, rf_5000_4, rf_5000_5, rf_5000_15, rf_5000_16, rf_5000_18, rf_5000_19, rf_5000_20, rf_5000_21, rf_5000_22, rf_5000_23, rf_5000_24, rf_5000_25, rf_5000_26, rf_5000_27, rf_5000_36, rf_5000_37, rf_5000_40, rf_5000_41, rf_5000_42, rf_5000_43, rf_5000_44, rf_5000_45, rf_5000_47, rf_5000_52, rf_5000_54, rf_5000_55, rf_100_0, rf_100_1, rf_103_0, rf_103_1, rf_106_0, rf_106_1, rf_109_0, rf_109_1, al_2, al_4, al_5, al_7, al_8, al_10, al_11, al_12, al_14, al_15, al_17, al_18, al_19, al_20, al_22, al_23, al_24, al_25, al_27, al_28, al_29, al_30, al_32, al_33, al_34, al_35, al_37, al_38, al_40, al_42, al_5001, al_5002, al_5003, al_5004, al_5005, al_5006, al_5007, al_5008, al_5009, al_5010, al_5011, al_5012, al_5013, al_5014, al_5015, al_5016, al_5017, al_5018, al_5019, al_5020, al_5021, al_5022, al_5023, al_5024, al_5025, al_5026, al_9000, al_101, al_102, al_104, al_105, al_107, al_108, al_110, al_111, vcs_e, lg_c0, lg_cs, lg_nil, set_c0, set_cs, okst_0, okst_s, acok_n, acok_c, List.contains_nil, List.contains_cons, Bool.or_false, Bool.false_or, Bool.false_eq_true, if_false, if_true, ite_self, ne_eq, true_and, and_true, not_false_eq_true, not_true_eq_false, false_imp_iff, true_imp_iff, Nat.ble_eq, Bool.and_eq_true, reduceCtorEq, or_false, false_or, or_true, true_or, false_and, and_false, and_self, Int.reduceLE, Int.reduceAdd, Int.reduceSub, Int.reduceMul, Int.reduceNeg, Int.reduceLT, Int.reduceEq, Int.reduceNe, Nat.reduceBEq, Nat.reduceBNe, Nat.reduceEqDiff, amCmp_in, amCmp_lt, amCmp_le, amCmp_gt, amCmp_ge, amCmp_eq, amCmp_ne, Nat.reduceLeDiff, Nat.reduceSub, Bool.and_true, Bool.true_and, Bool.and_self, Bool.or_true, Bool.true_or, isRf_3, isRf_4, isRf_5, isRf_8, isRf_9, isRf_10, isRf_11, isRf_15, isRf_16, isRf_17, isRf_18, isRf_19, isRf_20, isRf_21, isRf_22, isRf_23, isRf_24, isRf_25, isRf_26, isRf_27, isRf_28, k_X0_saveTo_0, k_X0_saveTo_1, k_X0_saveTo_4, k_X0_saveTo_5, k_X0_saveTo_6, k_X0_saveTo_7, k_X0_saveTo_9, k_X0_saveTo_10, k_X0_saveTo_13, k_X0_saveTo_14, k_X0_saveTo_15, k_X0_saveTo_18, k_X0_saveTo_19, k_X0_saveTo_20, k_X0_saveTo_21, k_X0_saveTo_23, k_X0_saveTo_26, k_X0_saveTo_27, k_X0_saveTo_30, k_X0_saveTo_31, k_X0_saveTo_32, k_X0_saveTo_33, k_X0_saveTo_35, k_X0_saveTo_36, k_X0_saveTo_38, k_X0_saveTo_41, k_X0_saveTo_42, k_X0_saveTo_45, k_X0_saveTo_46, k_X0_saveTo_47, k_X0_saveTo_48, k_X0_saveTo_50, k_X0_saveTo_51, k_X0_saveTo_53, k_X0_saveTo_56, k_X0_saveTo_57, k_X0_saveTo_60, k_X0_saveTo_61, k_X0_saveTo_62, k_X0_saveTo_63, k_X0_saveTo_65, k_X0_saveTo_66, k_X0_saveTo_68, k_X0_saveTo_71, k_X0_saveTo_72, k_X0_saveTo_73, k_X0_saveTo_75, k_X0_saveTo_76, k_X0_saveTo_77, k_X0_saveTo_78, k_X0_saveTo_79, k_X0_saveTo_82, k_X0_saveTo_83, k_X0_saveTo_84, k_X0_saveTo_85, k_X0_saveTo_87, k_X0_saveTo_88, k_X0_saveTo_89, k_X0_saveTo_90, k_X0_saveTo_91, k_X0_saveTo_94, k_X0_saveTo_95, k_X0_saveTo_96, k_X0_saveTo_97, k_X0_saveTo_99, k_X0_saveTo_100, k_X0_saveTo_101, k_X0_saveTo_102, k_X0_saveTo_103, k_X0_saveTo_106, k_X0_saveTo_107]
    have em : ∀ v5 v6 v7 x1 x2 x3, v5 = σ 16 4 → v6 = σ 16 5 → v7 = σ 16 6 → x1 = fr + 24 → x2 = fr + 25 → x3 = fr + 26 → up (up (up (cpy (cpy (cpy (cpy σ 17 0 33 fr 6) 18 0 33 (fr + 6) 6) 19 0 33 (fr + 12) 6) 20 0 33 (fr + 18) 6) 33 x1 v5) 33 x2 v6) 33 x3 v7 = savR σ 33 fr := by
      rintro v5 v6 v7 x1 x2 x3 rfl rfl rfl rfl rfl rfl
      funext b j
      by_cases hb : b = 33
      · subst hb
        simp only [up_at, true_and]
        rw [cpy_s, cpy_s, cpy_s, cpy_s, cpy_o _ (by decide), cpy_o _ (by decide), cpy_o _ (by decide), cpy_o _ (by decide), cpy_o _ (by decide), cpy_o _ (by decide)]
        unfold savR
        by_cases g : fr ≤ j ∧ j < fr + 27
        · rw [if_pos (c := (33 : Int) = 33 ∧ fr ≤ j ∧ j < fr + 27) ⟨rfl, g⟩]
          by_cases g6 : j = fr + 26
          · rw [if_pos g6, show j - fr = 6 + 20 by omega, aud_5 _ _ _ (by omega)]
          · rw [if_neg g6]
            by_cases g5 : j = fr + 25
            · rw [if_pos g5, show j - fr = 5 + 20 by omega, aud_5 _ _ _ (by omega)]
            · rw [if_neg g5]
              by_cases g4 : j = fr + 24
              · rw [if_pos g4, show j - fr = 4 + 20 by omega, aud_5 _ _ _ (by omega)]
              · rw [if_neg g4]
                by_cases k4 : fr + 18 ≤ j
                · rw [if_pos (by omega), show j - fr = (j - fr - 18) + 18 by omega, aud_4 _ _ _ (by omega) (by omega), show (0 : Int) + (j - (fr + 18)) = j - fr - 18 by omega]; rfl
                · rw [if_neg (by omega)]
                  by_cases k3 : fr + 12 ≤ j
                  · rw [if_pos (by omega), show j - fr = (j - fr - 12) + 12 by omega, aud_3 _ _ _ (by omega) (by omega), show (0 : Int) + (j - (fr + 12)) = j - fr - 12 by omega]; rfl
                  · rw [if_neg (by omega)]
                    by_cases k2 : fr + 6 ≤ j
                    · rw [if_pos (by omega), show j - fr = (j - fr - 6) + 6 by omega, aud_2 _ _ _ (by omega) (by omega), show (0 : Int) + (j - (fr + 6)) = j - fr - 6 by omega]; rfl
                    · rw [if_neg (by omega), if_pos (by omega), aud_1 _ _ _ (by omega), show (0 : Int) + (j - fr) = j - fr by omega]; rfl
        · rw [if_neg (c := (33 : Int) = 33 ∧ fr ≤ j ∧ j < fr + 27) (fun q => g q.2), if_neg (by omega), if_neg (by omega), if_neg (by omega), if_neg (by omega), if_neg (by omega), if_neg (by omega), if_neg (by omega)]
      · rw [up_na _ hb, up_na _ hb, up_na _ hb, cpy_o _ hb, cpy_o _ hb, cpy_o _ hb, cpy_o _ hb]
        unfold savR; rw [if_neg (fun q => hb q.1)]
    repeat' (first | assumption | apply And.intro | intro _)
    all_goals first
      | omega
      | exact Qm h rfl (em _ _ _ _ _ _ rfl rfl rfl (by omega) (by omega) (by omega)).symm
  · refine am_m0 (own := RX0) (A := look a_X0_saveTo) (fun X e1 e2 hB => o_X0_saveTo e1 e2 hB) rfl (by decide +kernel) rfl rfl 120 (w := 3) ?_
    change vcs _ _ _ _ 120 0 [(16, 16), (8, 34), (0, fr)] [] σ
    simp only [vI_e, vL_e, vNull_e, vIload_e, vLload_e, vAload_e, vIstore_e, vLstore_e, vAstore_e, vIinc_e, vIadd_e, vIsub_e, vImul_e, vIand_e, vIor_e, vIxor_e, vIshl_e, vIshr_e, vIushr_e, vIdiv_e, vIrem_e, vLadd_e, vLsub_e, vLmul_e, vLand_e, vLor_e, vLxor_e, vLdiv_e, vLrem_e, vLushr_e, vLshl_e, vLcmp_e, vIneg_e, vI2l_e, vL2i_e, vI2b_e, vI2c_e, vDup_e, vPop_e, vDup2_e, vGoto_e, vIcEq_e, vIfEq_e, vIcNe_e, vIfNe_e, vIcLt_e, vIfLt_e, vIcGe_e, vIfGe_e, vIcGt_e, vIfGt_e, vIcLe_e, vIfLe_e, vNonnull_e, vSw_e, vGetI_e, vGetL_e, vGetR_e, vPutI_e, vPutZ_e, vPutL_e, vPutR_e, vIald_e, vIald_s, vLald_e, vBald_e, vBald_s, vAald_e, vIast_e, vLast_e, vBast_e, vAast_e, vAlen_e8, vAlen_e9, vAlen_e10, vAlen_e11, vAlen_e5, vAlen_e3, vGets_e, vCompact_e, vLdcS_e, vIret_e, vZret_e, vCret_e, vBret_e, vLret_e, vVret_e, vAret_e, vCallM_e0, vCallMV_e0, vCallS_e0, vCallSV_e0, vCallM_e1, vCallMV_e1, vCallS_e1, vCallSV_e1, vCallM_e2, vCallMV_e2, vCallS_e2, vCallSV_e2, vCallM_e3, vCallMV_e3, vCallS_e3, vCallSV_e3, vCallM_e4, vCallMV_e4, vCallS_e4, vCallSV_e4, vCallM_e5, vCallMV_e5, vCallS_e5, vCallSV_e5, vCallM_e6, vCallMV_e6, vCallS_e6, vCallSV_e6, vCallM_e7, vCallMV_e7, vCallS_e7, vCallSV_e7, vBad_e, vStrVal_e, vStrCod_e, vForm_e, vCallT_e0, vCallT_e1, vCallT_e2, vCopy_e, rf_0_0, rf_0_1, rf_0_2, rf_0_3, rf_0_4, rf_0_7, rf_0_10, rf_0_11, rf_0_12, rf_0_13, rf_0_14, rf_0_15, rf_0_16, rf_1_0, rf_3_0, rf_3_1, rf_6_0, rf_6_1, rf_9_0, rf_9_1, rf_9_3, rf_13_0, rf_13_1, rf_13_2, rf_16_0, rf_16_1, rf_16_2, rf_16_3, rf_21_0, rf_21_1, rf_21_2, rf_21_3, rf_26_0, rf_26_1, rf_26_2, rf_26_3, rf_26_4, rf_26_5, rf_26_6, rf_31_0, rf_31_2, rf_31_5, rf_31_6, rf_36_0, rf_36_1, rf_36_2, rf_36_3, rf_39_0, rf_39_1, rf_39_2, rf_41_0, rf_41_1, rf_41_2, rf_41_3, rf_5000_1, rf_5000_2, rf_5000_3, rf_5000_4, rf_5000_5, rf_5000_15, rf_5000_16, rf_5000_18, rf_5000_19, rf_5000_20, rf_5000_21, rf_5000_22, rf_5000_23, rf_5000_24, rf_5000_25, rf_5000_26, rf_5000_27, rf_5000_36, rf_5000_37, rf_5000_40, rf_5000_41, rf_5000_42, rf_5000_43, rf_5000_44, rf_5000_45, rf_5000_47, rf_5000_52, rf_5000_54, rf_5000_55, rf_100_0, rf_100_1, rf_103_0, rf_103_1, rf_106_0, rf_106_1, rf_109_0, rf_109_1, al_2, al_4, al_5, al_7, al_8, al_10, al_11, al_12, al_14, al_15, al_17, al_18, al_19, al_20, al_22, al_23, al_24, al_25, al_27, al_28, al_29, al_30, al_32, al_33, al_34, al_35, al_37, al_38, al_40, al_42, al_5001, al_5002, al_5003, al_5004, al_5005, al_5006, al_5007, al_5008, al_5009, al_5010, al_5011, al_5012, al_5013, al_5014, al_5015, al_5016, al_5017, al_5018, al_5019, al_5020, al_5021, al_5022, al_5023, al_5024, al_5025, al_5026, al_9000, al_101, al_102, al_104, al_105, al_107, al_108, al_110, al_111, vcs_e, lg_c0, lg_cs, lg_nil, set_c0, set_cs, okst_0, okst_s, acok_n, acok_c, List.contains_nil, List.contains_cons, Bool.or_false, Bool.false_or, Bool.false_eq_true, if_false, if_true, ite_self, ne_eq, true_and, and_true, not_false_eq_true, not_true_eq_false, false_imp_iff, true_imp_iff, Nat.ble_eq, Bool.and_eq_true, reduceCtorEq, or_false, false_or, or_true, true_or, false_and, and_false, and_self, Int.reduceLE, Int.reduceAdd, Int.reduceSub, Int.reduceMul, Int.reduceNeg, Int.reduceLT, Int.reduceEq, Int.reduceNe, Nat.reduceBEq, Nat.reduceBNe, Nat.reduceEqDiff, amCmp_in, amCmp_lt, amCmp_le, amCmp_gt, amCmp_ge, amCmp_eq, amCmp_ne, Nat.reduceLeDiff, Nat.reduceSub, Bool.and_true, Bool.true_and, Bool.and_self, Bool.or_true, Bool.true_or, isRf_3, isRf_4, isRf_5, isRf_8, isRf_9, isRf_10, isRf_11, isRf_15, isRf_16, isRf_17, isRf_18, isRf_19, isRf_20, isRf_21, isRf_22, isRf_23, isRf_24, isRf_25, isRf_26, isRf_27, isRf_28, k_X0_saveTo_0, k_X0_saveTo_1, k_X0_saveTo_4, k_X0_saveTo_5, k_X0_saveTo_6, k_X0_saveTo_7, k_X0_saveTo_9, k_X0_saveTo_10, k_X0_saveTo_13, k_X0_saveTo_14, k_X0_saveTo_15, k_X0_saveTo_18, k_X0_saveTo_19, k_X0_saveTo_20, k_X0_saveTo_21, k_X0_saveTo_23, k_X0_saveTo_26, k_X0_saveTo_27, k_X0_saveTo_30, k_X0_saveTo_31, k_X0_saveTo_32, k_X0_saveTo_33, k_X0_saveTo_35, k_X0_saveTo_36, k_X0_saveTo_38, k_X0_saveTo_41, k_X0_saveTo_42, k_X0_saveTo_45, k_X0_saveTo_46, k_X0_saveTo_47, k_X0_saveTo_48, k_X0_saveTo_50, k_X0_saveTo_51, k_X0_saveTo_53, k_X0_saveTo_56, k_X0_saveTo_57, k_X0_saveTo_60, k_X0_saveTo_61, k_X0_saveTo_62, k_X0_saveTo_63, k_X0_saveTo_65, k_X0_saveTo_66, k_X0_saveTo_68, k_X0_saveTo_71, k_X0_saveTo_72, k_X0_saveTo_73, k_X0_saveTo_75, k_X0_saveTo_76, k_X0_saveTo_77, k_X0_saveTo_78, k_X0_saveTo_79, k_X0_saveTo_82, k_X0_saveTo_83, k_X0_saveTo_84, k_X0_saveTo_85, k_X0_saveTo_87, k_X0_saveTo_88, k_X0_saveTo_89, k_X0_saveTo_90, k_X0_saveTo_91, k_X0_saveTo_94, k_X0_saveTo_95, k_X0_saveTo_96, k_X0_saveTo_97, k_X0_saveTo_99, k_X0_saveTo_100, k_X0_saveTo_101, k_X0_saveTo_102, k_X0_saveTo_103, k_X0_saveTo_106, k_X0_saveTo_107]
    have em : ∀ v5 v6 v7 x1 x2 x3, v5 = σ 16 4 → v6 = σ 16 5 → v7 = σ 16 6 → x1 = fr + 24 → x2 = fr + 25 → x3 = fr + 26 → up (up (up (cpy (cpy (cpy (cpy σ 17 0 34 fr 6) 18 0 34 (fr + 6) 6) 19 0 34 (fr + 12) 6) 20 0 34 (fr + 18) 6) 34 x1 v5) 34 x2 v6) 34 x3 v7 = savR σ 34 fr := by
      rintro v5 v6 v7 x1 x2 x3 rfl rfl rfl rfl rfl rfl
      funext b j
      by_cases hb : b = 34
      · subst hb
        simp only [up_at, true_and]
        rw [cpy_s, cpy_s, cpy_s, cpy_s, cpy_o _ (by decide), cpy_o _ (by decide), cpy_o _ (by decide), cpy_o _ (by decide), cpy_o _ (by decide), cpy_o _ (by decide)]
        unfold savR
        by_cases g : fr ≤ j ∧ j < fr + 27
        · rw [if_pos (c := (34 : Int) = 34 ∧ fr ≤ j ∧ j < fr + 27) ⟨rfl, g⟩]
          by_cases g6 : j = fr + 26
          · rw [if_pos g6, show j - fr = 6 + 20 by omega, aud_5 _ _ _ (by omega)]
          · rw [if_neg g6]
            by_cases g5 : j = fr + 25
            · rw [if_pos g5, show j - fr = 5 + 20 by omega, aud_5 _ _ _ (by omega)]
            · rw [if_neg g5]
              by_cases g4 : j = fr + 24
              · rw [if_pos g4, show j - fr = 4 + 20 by omega, aud_5 _ _ _ (by omega)]
              · rw [if_neg g4]
                by_cases k4 : fr + 18 ≤ j
                · rw [if_pos (by omega), show j - fr = (j - fr - 18) + 18 by omega, aud_4 _ _ _ (by omega) (by omega), show (0 : Int) + (j - (fr + 18)) = j - fr - 18 by omega]; rfl
                · rw [if_neg (by omega)]
                  by_cases k3 : fr + 12 ≤ j
                  · rw [if_pos (by omega), show j - fr = (j - fr - 12) + 12 by omega, aud_3 _ _ _ (by omega) (by omega), show (0 : Int) + (j - (fr + 12)) = j - fr - 12 by omega]; rfl
                  · rw [if_neg (by omega)]
                    by_cases k2 : fr + 6 ≤ j
                    · rw [if_pos (by omega), show j - fr = (j - fr - 6) + 6 by omega, aud_2 _ _ _ (by omega) (by omega), show (0 : Int) + (j - (fr + 6)) = j - fr - 6 by omega]; rfl
                    · rw [if_neg (by omega), if_pos (by omega), aud_1 _ _ _ (by omega), show (0 : Int) + (j - fr) = j - fr by omega]; rfl
        · rw [if_neg (c := (34 : Int) = 34 ∧ fr ≤ j ∧ j < fr + 27) (fun q => g q.2), if_neg (by omega), if_neg (by omega), if_neg (by omega), if_neg (by omega), if_neg (by omega), if_neg (by omega), if_neg (by omega)]
      · rw [up_na _ hb, up_na _ hb, up_na _ hb, cpy_o _ hb, cpy_o _ hb, cpy_o _ hb, cpy_o _ hb]
        unfold savR; rw [if_neg (fun q => hb q.1)]
    repeat' (first | assumption | apply And.intro | intro _)
    all_goals first
      | omega
      | exact Qm h rfl (em _ _ _ _ _ _ rfl rfl rfl (by omega) (by omega) (by omega)).symm
def a_X0_loadFrom : AC := [(0, vIload 2 1), (1, vIfLt 13 4), (4, vIload 2 5), (5, vAload 1 6), (6, vAlen TT 7), (7, vI 27 9), (9, vIsub 10), (10, vIcLe 14 13), (13, vVret), (14, vAload 1 15), (15, vIload 2 16), (16, vAload 0 17), (17, vGetR TT 16 0 8 20), (20, vI 0 21), (21, vI 6 23), (23, vCopy TT 26), (26, vAload 1 27), (27, vIload 2 28), (28, vI 6 30), (30, vIadd 31), (31, vAload 0 32), (32, vGetR TT 16 1 8 35), (35, vI 0 36), (36, vI 6 38), (38, vCopy TT 41), (41, vAload 1 42), (42, vIload 2 43), (43, vI 12 45), (45, vIadd 46), (46, vAload 0 47), (47, vGetR TT 16 2 8 50), (50, vI 0 51), (51, vI 6 53), (53, vCopy TT 56), (56, vAload 1 57), (57, vIload 2 58), (58, vI 18 60), (60, vIadd 61), (61, vAload 0 62), (62, vGetR TT 16 3 8 65), (65, vI 0 66), (66, vI 6 68), (68, vCopy TT 71), (71, vAload 0 72), (72, vAload 1 73), (73, vIload 2 74), (74, vI 27 76), (76, vIadd 77), (77, vI 3 78), (78, vIsub 79), (79, vIald TT 80), (80, vPutI 16 4 83), (83, vAload 0 84), (84, vAload 1 85), (85, vIload 2 86), (86, vI 27 88), (88, vIadd 89), (89, vI 2 90), (90, vIsub 91), (91, vIald TT 92), (92, vPutI 16 5 95), (95, vAload 0 96), (96, vAload 1 97), (97, vIload 2 98), (98, vI 27 100), (100, vIadd 101), (101, vI 1 102), (102, vIsub 103), (103, vIald TT 104), (104, vPutI 16 6 107), (107, vVret)]
theorem k_X0_loadFrom_0 : look a_X0_loadFrom 0 = vIload 2 1 := rfl
theorem k_X0_loadFrom_1 : look a_X0_loadFrom 1 = vIfLt 13 4 := rfl
theorem k_X0_loadFrom_4 : look a_X0_loadFrom 4 = vIload 2 5 := rfl
theorem k_X0_loadFrom_5 : look a_X0_loadFrom 5 = vAload 1 6 := rfl
theorem k_X0_loadFrom_6 : look a_X0_loadFrom 6 = vAlen TT 7 := rfl
theorem k_X0_loadFrom_7 : look a_X0_loadFrom 7 = vI 27 9 := rfl
theorem k_X0_loadFrom_9 : look a_X0_loadFrom 9 = vIsub 10 := rfl
theorem k_X0_loadFrom_10 : look a_X0_loadFrom 10 = vIcLe 14 13 := rfl
theorem k_X0_loadFrom_13 : look a_X0_loadFrom 13 = vVret := rfl
theorem k_X0_loadFrom_14 : look a_X0_loadFrom 14 = vAload 1 15 := rfl
theorem k_X0_loadFrom_15 : look a_X0_loadFrom 15 = vIload 2 16 := rfl
theorem k_X0_loadFrom_16 : look a_X0_loadFrom 16 = vAload 0 17 := rfl
theorem k_X0_loadFrom_17 : look a_X0_loadFrom 17 = vGetR TT 16 0 8 20 := rfl
theorem k_X0_loadFrom_20 : look a_X0_loadFrom 20 = vI 0 21 := rfl
theorem k_X0_loadFrom_21 : look a_X0_loadFrom 21 = vI 6 23 := rfl
theorem k_X0_loadFrom_23 : look a_X0_loadFrom 23 = vCopy TT 26 := rfl
theorem k_X0_loadFrom_26 : look a_X0_loadFrom 26 = vAload 1 27 := rfl
theorem k_X0_loadFrom_27 : look a_X0_loadFrom 27 = vIload 2 28 := rfl
theorem k_X0_loadFrom_28 : look a_X0_loadFrom 28 = vI 6 30 := rfl
theorem k_X0_loadFrom_30 : look a_X0_loadFrom 30 = vIadd 31 := rfl
theorem k_X0_loadFrom_31 : look a_X0_loadFrom 31 = vAload 0 32 := rfl
theorem k_X0_loadFrom_32 : look a_X0_loadFrom 32 = vGetR TT 16 1 8 35 := rfl
theorem k_X0_loadFrom_35 : look a_X0_loadFrom 35 = vI 0 36 := rfl
theorem k_X0_loadFrom_36 : look a_X0_loadFrom 36 = vI 6 38 := rfl
theorem k_X0_loadFrom_38 : look a_X0_loadFrom 38 = vCopy TT 41 := rfl
theorem k_X0_loadFrom_41 : look a_X0_loadFrom 41 = vAload 1 42 := rfl
theorem k_X0_loadFrom_42 : look a_X0_loadFrom 42 = vIload 2 43 := rfl
theorem k_X0_loadFrom_43 : look a_X0_loadFrom 43 = vI 12 45 := rfl
theorem k_X0_loadFrom_45 : look a_X0_loadFrom 45 = vIadd 46 := rfl
theorem k_X0_loadFrom_46 : look a_X0_loadFrom 46 = vAload 0 47 := rfl
theorem k_X0_loadFrom_47 : look a_X0_loadFrom 47 = vGetR TT 16 2 8 50 := rfl
theorem k_X0_loadFrom_50 : look a_X0_loadFrom 50 = vI 0 51 := rfl
theorem k_X0_loadFrom_51 : look a_X0_loadFrom 51 = vI 6 53 := rfl
theorem k_X0_loadFrom_53 : look a_X0_loadFrom 53 = vCopy TT 56 := rfl
theorem k_X0_loadFrom_56 : look a_X0_loadFrom 56 = vAload 1 57 := rfl
theorem k_X0_loadFrom_57 : look a_X0_loadFrom 57 = vIload 2 58 := rfl
theorem k_X0_loadFrom_58 : look a_X0_loadFrom 58 = vI 18 60 := rfl
theorem k_X0_loadFrom_60 : look a_X0_loadFrom 60 = vIadd 61 := rfl
theorem k_X0_loadFrom_61 : look a_X0_loadFrom 61 = vAload 0 62 := rfl
theorem k_X0_loadFrom_62 : look a_X0_loadFrom 62 = vGetR TT 16 3 8 65 := rfl
theorem k_X0_loadFrom_65 : look a_X0_loadFrom 65 = vI 0 66 := rfl
theorem k_X0_loadFrom_66 : look a_X0_loadFrom 66 = vI 6 68 := rfl
theorem k_X0_loadFrom_68 : look a_X0_loadFrom 68 = vCopy TT 71 := rfl
theorem k_X0_loadFrom_71 : look a_X0_loadFrom 71 = vAload 0 72 := rfl
theorem k_X0_loadFrom_72 : look a_X0_loadFrom 72 = vAload 1 73 := rfl
theorem k_X0_loadFrom_73 : look a_X0_loadFrom 73 = vIload 2 74 := rfl
theorem k_X0_loadFrom_74 : look a_X0_loadFrom 74 = vI 27 76 := rfl
theorem k_X0_loadFrom_76 : look a_X0_loadFrom 76 = vIadd 77 := rfl
theorem k_X0_loadFrom_77 : look a_X0_loadFrom 77 = vI 3 78 := rfl
theorem k_X0_loadFrom_78 : look a_X0_loadFrom 78 = vIsub 79 := rfl
theorem k_X0_loadFrom_79 : look a_X0_loadFrom 79 = vIald TT 80 := rfl
theorem k_X0_loadFrom_80 : look a_X0_loadFrom 80 = vPutI 16 4 83 := rfl
theorem k_X0_loadFrom_83 : look a_X0_loadFrom 83 = vAload 0 84 := rfl
theorem k_X0_loadFrom_84 : look a_X0_loadFrom 84 = vAload 1 85 := rfl
theorem k_X0_loadFrom_85 : look a_X0_loadFrom 85 = vIload 2 86 := rfl
theorem k_X0_loadFrom_86 : look a_X0_loadFrom 86 = vI 27 88 := rfl
theorem k_X0_loadFrom_88 : look a_X0_loadFrom 88 = vIadd 89 := rfl
theorem k_X0_loadFrom_89 : look a_X0_loadFrom 89 = vI 2 90 := rfl
theorem k_X0_loadFrom_90 : look a_X0_loadFrom 90 = vIsub 91 := rfl
theorem k_X0_loadFrom_91 : look a_X0_loadFrom 91 = vIald TT 92 := rfl
theorem k_X0_loadFrom_92 : look a_X0_loadFrom 92 = vPutI 16 5 95 := rfl
theorem k_X0_loadFrom_95 : look a_X0_loadFrom 95 = vAload 0 96 := rfl
theorem k_X0_loadFrom_96 : look a_X0_loadFrom 96 = vAload 1 97 := rfl
theorem k_X0_loadFrom_97 : look a_X0_loadFrom 97 = vIload 2 98 := rfl
theorem k_X0_loadFrom_98 : look a_X0_loadFrom 98 = vI 27 100 := rfl
theorem k_X0_loadFrom_100 : look a_X0_loadFrom 100 = vIadd 101 := rfl
theorem k_X0_loadFrom_101 : look a_X0_loadFrom 101 = vI 1 102 := rfl
theorem k_X0_loadFrom_102 : look a_X0_loadFrom 102 = vIsub 103 := rfl
theorem k_X0_loadFrom_103 : look a_X0_loadFrom 103 = vIald TT 104 := rfl
theorem k_X0_loadFrom_104 : look a_X0_loadFrom 104 = vPutI 16 6 107 := rfl
theorem k_X0_loadFrom_107 : look a_X0_loadFrom 107 = vVret := rfl
theorem o_X0_loadFrom {X : amX} (e1 : XT X = TT) (e2 : XD X = 1) (hB : amB X RX0 cX0_loadFrom (none) 3) : ∀ pc, amOK X pc (look a_X0_loadFrom pc) := by
  have hT : amTok (XT X) := e1 ▸ TT_ok
  refine look_ok ?_
  unfold a_X0_loadFrom
  refine fc (ok_iload_n hB dX0_loadFrom_0) ?_
  refine fc (ok_if_lt hB (t := 13) (by decide) dX0_loadFrom_1) ?_
  refine fc (ok_iload_n hB dX0_loadFrom_4) ?_
  refine fc (ok_aload_n hB dX0_loadFrom_5) ?_
  refine fc (okt_arraylength e1 hB dX0_loadFrom_6) ?_
  refine fc (ok_bipush hB dX0_loadFrom_7 (by decide)) ?_
  refine fc (ok_isub hB dX0_loadFrom_9) ?_
  refine fc (ok_icmp_le hB (t := 14) (by decide) dX0_loadFrom_10) ?_
  refine fc (ok_vret hB dX0_loadFrom_13) ?_
  refine fc (ok_aload_n hB dX0_loadFrom_14) ?_
  refine fc (ok_iload_n hB dX0_loadFrom_15) ?_
  refine fc (ok_aload_n hB dX0_loadFrom_16) ?_
  refine fc (okt_getR e1 hB hT fl_X0_9 rfl af_0_0 at_0_0 (by decide) dX0_loadFrom_17) ?_
  refine fc (ok_iconst hB dX0_loadFrom_20) ?_
  refine fc (ok_bipush hB dX0_loadFrom_21 (by decide)) ?_
  refine fc (okt_copy e1 hB (by rw [e2]; decide) wd_769 wd_663 wd_662 wd_20 dX0_loadFrom_23) ?_
  refine fc (ok_aload_n hB dX0_loadFrom_26) ?_
  refine fc (ok_iload_n hB dX0_loadFrom_27) ?_
  refine fc (ok_bipush hB dX0_loadFrom_28 (by decide)) ?_
  refine fc (ok_iadd hB dX0_loadFrom_30) ?_
  refine fc (ok_aload_n hB dX0_loadFrom_31) ?_
  refine fc (okt_getR e1 hB hT fl_X0_15 rfl af_0_1 at_0_1 (by decide) dX0_loadFrom_32) ?_
  refine fc (ok_iconst hB dX0_loadFrom_35) ?_
  refine fc (ok_bipush hB dX0_loadFrom_36 (by decide)) ?_
  refine fc (okt_copy e1 hB (by rw [e2]; decide) wd_769 wd_663 wd_662 wd_20 dX0_loadFrom_38) ?_
  refine fc (ok_aload_n hB dX0_loadFrom_41) ?_
  refine fc (ok_iload_n hB dX0_loadFrom_42) ?_
  refine fc (ok_bipush hB dX0_loadFrom_43 (by decide)) ?_
  refine fc (ok_iadd hB dX0_loadFrom_45) ?_
  refine fc (ok_aload_n hB dX0_loadFrom_46) ?_
  refine fc (okt_getR e1 hB hT fl_X0_18 rfl af_0_2 at_0_2 (by decide) dX0_loadFrom_47) ?_
  refine fc (ok_iconst hB dX0_loadFrom_50) ?_
  refine fc (ok_bipush hB dX0_loadFrom_51 (by decide)) ?_
  refine fc (okt_copy e1 hB (by rw [e2]; decide) wd_769 wd_663 wd_662 wd_20 dX0_loadFrom_53) ?_
  refine fc (ok_aload_n hB dX0_loadFrom_56) ?_
  refine fc (ok_iload_n hB dX0_loadFrom_57) ?_
  refine fc (ok_bipush hB dX0_loadFrom_58 (by decide)) ?_
  refine fc (ok_iadd hB dX0_loadFrom_60) ?_
  refine fc (ok_aload_n hB dX0_loadFrom_61) ?_
  refine fc (okt_getR e1 hB hT fl_X0_21 rfl af_0_3 at_0_3 (by decide) dX0_loadFrom_62) ?_
  refine fc (ok_iconst hB dX0_loadFrom_65) ?_
  refine fc (ok_bipush hB dX0_loadFrom_66 (by decide)) ?_
  refine fc (okt_copy e1 hB (by rw [e2]; decide) wd_769 wd_663 wd_662 wd_20 dX0_loadFrom_68) ?_
  refine fc (ok_aload_n hB dX0_loadFrom_71) ?_
  refine fc (ok_aload_n hB dX0_loadFrom_72) ?_
  refine fc (ok_iload_n hB dX0_loadFrom_73) ?_
  refine fc (ok_bipush hB dX0_loadFrom_74 (by decide)) ?_
  refine fc (ok_iadd hB dX0_loadFrom_76) ?_
  refine fc (ok_iconst hB dX0_loadFrom_77) ?_
  refine fc (ok_isub hB dX0_loadFrom_78) ?_
  refine fc (okt_iaload e1 hB dX0_loadFrom_79) ?_
  refine fc (ok_putI hB hT fp_X0_24 rfl rfl rfl af_0_4 dX0_loadFrom_80) ?_
  refine fc (ok_aload_n hB dX0_loadFrom_83) ?_
  refine fc (ok_aload_n hB dX0_loadFrom_84) ?_
  refine fc (ok_iload_n hB dX0_loadFrom_85) ?_
  refine fc (ok_bipush hB dX0_loadFrom_86 (by decide)) ?_
  refine fc (ok_iadd hB dX0_loadFrom_88) ?_
  refine fc (ok_iconst hB dX0_loadFrom_89) ?_
  refine fc (ok_isub hB dX0_loadFrom_90) ?_
  refine fc (okt_iaload e1 hB dX0_loadFrom_91) ?_
  refine fc (ok_putI hB hT fp_X0_28 rfl rfl rfl af_0_5 dX0_loadFrom_92) ?_
  refine fc (ok_aload_n hB dX0_loadFrom_95) ?_
  refine fc (ok_aload_n hB dX0_loadFrom_96) ?_
  refine fc (ok_iload_n hB dX0_loadFrom_97) ?_
  refine fc (ok_bipush hB dX0_loadFrom_98 (by decide)) ?_
  refine fc (ok_iadd hB dX0_loadFrom_100) ?_
  refine fc (ok_iconst hB dX0_loadFrom_101) ?_
  refine fc (ok_isub hB dX0_loadFrom_102) ?_
  refine fc (okt_iaload e1 hB dX0_loadFrom_103) ?_
  refine fc (ok_putI hB hT fp_X0_31 rfl rfl rfl af_0_6 dX0_loadFrom_104) ?_
  refine fc (ok_vret hB dX0_loadFrom_107) ?_
  exact fn

def w_X0_loadFrom : WP := fun av σ Q => ∃ (a : Int) (r : Int) (fr : Int), av = [(16, a), (8, r), (0, fr)] ∧ (a = 16 ∧ 0 ≤ fr ∧ ((r = 33 ∧ fr + 27 ≤ 1120) ∨ (r = 34 ∧ fr = 0)) ∧ Q (6, 0) (setAud σ 16 (fun k => σ r (fr + k))))
theorem w_X0_loadFrom_e (a : Int) (r : Int) (fr : Int) (σ : Mem) (Q : AV → Mem → Prop) : w_X0_loadFrom [(16, a), (8, r), (0, fr)] σ Q = (a = 16 ∧ 0 ≤ fr ∧ ((r = 33 ∧ fr + 27 ≤ 1120) ∨ (r = 34 ∧ fr = 0)) ∧ Q (6, 0) (setAud σ 16 (fun k => σ r (fr + k)))) := by
  apply propext; constructor
  · rintro ⟨a', r', fr', h9, hb9⟩; cases h9; exact hb9
  · intro hb9; exact ⟨a, r, fr, rfl, hb9⟩

set_option maxRecDepth 100000 in
set_option maxHeartbeats 4000000 in
theorem s_X0_loadFrom : ∀ av σ Q, w_X0_loadFrom av σ Q → amCall 1 0 0 TT yX0_loadFrom cX0_loadFrom 3 (none) av σ Q := by
  rintro av σ Q ⟨a, r, fr, rfl, rfl, h0, hr, h⟩
  rcases hr with ⟨rfl, h1⟩ | ⟨rfl, h1⟩
  · refine am_m0 (own := RX0) (A := look a_X0_loadFrom) (fun X e1 e2 hB => o_X0_loadFrom e1 e2 hB) rfl (by decide +kernel) rfl rfl 120 (w := 3) ?_
    change vcs _ _ _ _ 120 0 [(16, 16), (8, 33), (0, fr)] [] σ
    simp only [vI_e, vL_e, vNull_e, vIload_e, vLload_e, vAload_e, vIstore_e, vLstore_e, vAstore_e, vIinc_e, vIadd_e, vIsub_e, vImul_e, vIand_e, vIor_e, vIxor_e, vIshl_e, vIshr_e, vIushr_e, vIdiv_e, vIrem_e, vLadd_e, vLsub_e, vLmul_e, vLand_e, vLor_e, vLxor_e, vLdiv_e, vLrem_e, vLushr_e, vLshl_e, vLcmp_e, vIneg_e, vI2l_e, vL2i_e, vI2b_e, vI2c_e, vDup_e, vPop_e, vDup2_e, vGoto_e, vIcEq_e, vIfEq_e, vIcNe_e, vIfNe_e, vIcLt_e, vIfLt_e, vIcGe_e, vIfGe_e, vIcGt_e, vIfGt_e, vIcLe_e, vIfLe_e, vNonnull_e, vSw_e, vGetI_e, vGetL_e, vGetR_e, vPutI_e, vPutZ_e, vPutL_e, vPutR_e, vIald_e, vIald_s, vLald_e, vBald_e, vBald_s, vAald_e, vIast_e, vLast_e, vBast_e, vAast_e, vAlen_e8, vAlen_e9, vAlen_e10, vAlen_e11, vAlen_e5, vAlen_e3, vGets_e, vCompact_e, vLdcS_e, vIret_e, vZret_e, vCret_e, vBret_e, vLret_e, vVret_e, vAret_e, vCallM_e0, vCallMV_e0, vCallS_e0, vCallSV_e0, vCallM_e1, vCallMV_e1, vCallS_e1, vCallSV_e1, vCallM_e2, vCallMV_e2, vCallS_e2, vCallSV_e2, vCallM_e3, vCallMV_e3, vCallS_e3, vCallSV_e3, vCallM_e4, vCallMV_e4, vCallS_e4, vCallSV_e4, vCallM_e5, vCallMV_e5, vCallS_e5, vCallSV_e5, vCallM_e6, vCallMV_e6, vCallS_e6, vCallSV_e6, vCallM_e7, vCallMV_e7, vCallS_e7, vCallSV_e7, vBad_e, vStrVal_e, vStrCod_e, vForm_e, vCallT_e0, vCallT_e1, vCallT_e2, vCopy_e, rf_0_0, rf_0_1, rf_0_2, rf_0_3, rf_0_4, rf_0_7, rf_0_10, rf_0_11, rf_0_12, rf_0_13, rf_0_14, rf_0_15, rf_0_16, rf_1_0, rf_3_0, rf_3_1, rf_6_0, rf_6_1, rf_9_0, rf_9_1, rf_9_3, rf_13_0, rf_13_1, rf_13_2, rf_16_0, rf_16_1, rf_16_2, rf_16_3, rf_21_0, rf_21_1, rf_21_2, rf_21_3, rf_26_0, rf_26_1, rf_26_2, rf_26_3, rf_26_4, rf_26_5, rf_26_6, rf_31_0, rf_31_2, rf_31_5, rf_31_6, rf_36_0, rf_36_1, rf_36_2, rf_36_3, rf_39_0, rf_39_1, rf_39_2, rf_41_0, rf_41_1, rf_41_2, rf_41_3, rf_5000_1, rf_5000_2, rf_5000_3, rf_5000_4, rf_5000_5, rf_5000_15, rf_5000_16, rf_5000_18, rf_5000_19, rf_5000_20, rf_5000_21, rf_5000_22, rf_5000_23, rf_5000_24, rf_5000_25, rf_5000_26, rf_5000_27, rf_5000_36, rf_5000_37, rf_5000_40, rf_5000_41, rf_5000_42, rf_5000_43, rf_5000_44, rf_5000_45, rf_5000_47, rf_5000_52, rf_5000_54, rf_5000_55, rf_100_0, rf_100_1, rf_103_0, rf_103_1, rf_106_0, rf_106_1, rf_109_0, rf_109_1, al_2, al_4, al_5, al_7, al_8, al_10, al_11, al_12, al_14, al_15, al_17, al_18, al_19, al_20, al_22, al_23, al_24, al_25, al_27, al_28, al_29, al_30, al_32, al_33, al_34, al_35, al_37, al_38, al_40, al_42, al_5001, al_5002, al_5003, al_5004, al_5005, al_5006, al_5007, al_5008, al_5009, al_5010, al_5011, al_5012, al_5013, al_5014, al_5015, al_5016, al_5017, al_5018, al_5019, al_5020, al_5021, al_5022, al_5023, al_5024, al_5025, al_5026, al_9000, al_101, al_102, al_104, al_105, al_107, al_108, al_110, al_111, vcs_e, lg_c0, lg_cs, lg_nil, set_c0, set_cs, okst_0, okst_s, acok_n, acok_c, List.contains_nil, List.contains_cons, Bool.or_false, Bool.false_or, Bool.false_eq_true, if_false, if_true, ite_self, ne_eq, true_and, and_true, not_false_eq_true, not_true_eq_false, false_imp_iff, true_imp_iff, Nat.ble_eq, Bool.and_eq_true, reduceCtorEq, or_false, false_or, or_true, true_or, false_and, and_false, and_self, Int.reduceLE, Int.reduceAdd, Int.reduceSub, Int.reduceMul, Int.reduceNeg, Int.reduceLT, Int.reduceEq, Int.reduceNe, Nat.reduceBEq, Nat.reduceBNe, Nat.reduceEqDiff, amCmp_in, amCmp_lt, amCmp_le, amCmp_gt, amCmp_ge, amCmp_eq, amCmp_ne, Nat.reduceLeDiff, Nat.reduceSub, Bool.and_true, Bool.true_and, Bool.and_self, Bool.or_true, Bool.true_or, isRf_3, isRf_4, isRf_5, isRf_8, isRf_9, isRf_10, isRf_11, isRf_15, isRf_16, isRf_17, isRf_18, isRf_19, isRf_20, isRf_21, isRf_22, isRf_23, isRf_24, isRf_25, isRf_26, isRf_27, isRf_28, k_X0_loadFrom_0, k_X0_loadFrom_1, k_X0_loadFrom_4, k_X0_loadFrom_5, k_X0_loadFrom_6, k_X0_loadFrom_7, k_X0_loadFrom_9, k_X0_loadFrom_10, k_X0_loadFrom_13, k_X0_loadFrom_14, k_X0_loadFrom_15, k_X0_loadFrom_16, k_X0_loadFrom_17, k_X0_loadFrom_20, k_X0_loadFrom_21, k_X0_loadFrom_23, k_X0_loadFrom_26, k_X0_loadFrom_27, k_X0_loadFrom_28, k_X0_loadFrom_30, k_X0_loadFrom_31, k_X0_loadFrom_32, k_X0_loadFrom_35, k_X0_loadFrom_36, k_X0_loadFrom_38, k_X0_loadFrom_41, k_X0_loadFrom_42, k_X0_loadFrom_43, k_X0_loadFrom_45, k_X0_loadFrom_46, k_X0_loadFrom_47, k_X0_loadFrom_50, k_X0_loadFrom_51, k_X0_loadFrom_53, k_X0_loadFrom_56, k_X0_loadFrom_57, k_X0_loadFrom_58, k_X0_loadFrom_60, k_X0_loadFrom_61, k_X0_loadFrom_62, k_X0_loadFrom_65, k_X0_loadFrom_66, k_X0_loadFrom_68, k_X0_loadFrom_71, k_X0_loadFrom_72, k_X0_loadFrom_73, k_X0_loadFrom_74, k_X0_loadFrom_76, k_X0_loadFrom_77, k_X0_loadFrom_78, k_X0_loadFrom_79, k_X0_loadFrom_80, k_X0_loadFrom_83, k_X0_loadFrom_84, k_X0_loadFrom_85, k_X0_loadFrom_86, k_X0_loadFrom_88, k_X0_loadFrom_89, k_X0_loadFrom_90, k_X0_loadFrom_91, k_X0_loadFrom_92, k_X0_loadFrom_95, k_X0_loadFrom_96, k_X0_loadFrom_97, k_X0_loadFrom_98, k_X0_loadFrom_100, k_X0_loadFrom_101, k_X0_loadFrom_102, k_X0_loadFrom_103, k_X0_loadFrom_104, k_X0_loadFrom_107]
    have em : ∀ v5 v6 v7, v5 = σ 33 (fr + 24) → v6 = σ 33 (fr + 25) → v7 = σ 33 (fr + 26) → up (up (up (cpy (cpy (cpy (cpy σ 33 fr 17 0 6) 33 (fr + 6) 18 0 6) 33 (fr + 12) 19 0 6) 33 (fr + 18) 20 0 6) 16 4 v5) 16 5 v6) 16 6 v7 = setAud σ 16 (fun k => σ 33 (fr + k)) := by
      rintro v5 v6 v7 rfl rfl rfl
      refine eq_setAud (fun b hb => ?_) (fun j => ?_) (fun j => ?_) (fun j => ?_) (fun j => ?_) (fun j => ?_)
      · rw [up_na _ (by omega), up_na _ (by omega), up_na _ (by omega), cpy_o _ (by omega), cpy_o _ (by omega), cpy_o _ (by omega), cpy_o _ (by omega)]
      · rw [up_na _ (by decide), up_na _ (by decide), up_na _ (by decide), cpy_o _ (by decide), cpy_o _ (by decide), cpy_o _ (by decide)]
        refine (cpy_s _ _ _ _ _ _ _).trans ?_
        by_cases g : 0 ≤ j ∧ j < 6
        · rw [if_pos g, if_pos (by omega)]; congr 1; omega
        · rw [if_neg g, if_neg (by omega)]; rfl
      · rw [up_na _ (by decide), up_na _ (by decide), up_na _ (by decide), cpy_o _ (by decide), cpy_o _ (by decide)]
        refine (cpy_s _ _ _ _ _ _ _).trans ?_
        by_cases g : 0 ≤ j ∧ j < 6
        · rw [if_pos g, if_pos (by omega), cpy_o _ (by decide)]; congr 1; omega
        · rw [if_neg g, if_neg (by omega), cpy_o _ (by decide)]; rfl
      · rw [up_na _ (by decide), up_na _ (by decide), up_na _ (by decide), cpy_o _ (by decide)]
        refine (cpy_s _ _ _ _ _ _ _).trans ?_
        by_cases g : 0 ≤ j ∧ j < 6
        · rw [if_pos g, if_pos (by omega), cpy_o _ (by decide), cpy_o _ (by decide)]; congr 1; omega
        · rw [if_neg g, if_neg (by omega), cpy_o _ (by decide), cpy_o _ (by decide)]; rfl
      · rw [up_na _ (by decide), up_na _ (by decide), up_na _ (by decide)]
        refine (cpy_s _ _ _ _ _ _ _).trans ?_
        by_cases g : 0 ≤ j ∧ j < 6
        · rw [if_pos g, if_pos (by omega), cpy_o _ (by decide), cpy_o _ (by decide), cpy_o _ (by decide)]; congr 1; omega
        · rw [if_neg g, if_neg (by omega), cpy_o _ (by decide), cpy_o _ (by decide), cpy_o _ (by decide)]; rfl
      · rw [up3_at, cpy_o _ (by decide), cpy_o _ (by decide), cpy_o _ (by decide), cpy_o _ (by decide)]
        by_cases g : 4 ≤ j ∧ j < 7
        · rw [if_pos g]
          have : j = 4 ∨ j = 5 ∨ j = 6 := by omega
          rcases this with rfl | rfl | rfl <;> rfl
        · rw [if_neg g, if_neg (by omega), if_neg (by omega), if_neg (by omega)]
    have r0 : ∀ x, cpy (cpy (cpy (cpy σ 33 fr 17 0 6) 33 (fr + 6) 18 0 6) 33 (fr + 12) 19 0 6) 33 (fr + 18) 20 0 6 33 x = σ 33 x := fun x => by
      rw [cpy_o _ (by decide), cpy_o _ (by decide), cpy_o _ (by decide), cpy_o _ (by decide)]
    repeat' (first | assumption | apply And.intro | intro _)
    all_goals first
      | omega
      | (refine Qm h rfl (em _ _ _ ?_ ?_ ?_).symm
         · rw [r0]; congr 1; omega
         · rw [up_na _ (by decide), r0]; congr 1; omega
         · rw [up_na _ (by decide), up_na _ (by decide), r0]; congr 1; omega)
  · refine am_m0 (own := RX0) (A := look a_X0_loadFrom) (fun X e1 e2 hB => o_X0_loadFrom e1 e2 hB) rfl (by decide +kernel) rfl rfl 120 (w := 3) ?_
    change vcs _ _ _ _ 120 0 [(16, 16), (8, 34), (0, fr)] [] σ
    simp only [vI_e, vL_e, vNull_e, vIload_e, vLload_e, vAload_e, vIstore_e, vLstore_e, vAstore_e, vIinc_e, vIadd_e, vIsub_e, vImul_e, vIand_e, vIor_e, vIxor_e, vIshl_e, vIshr_e, vIushr_e, vIdiv_e, vIrem_e, vLadd_e, vLsub_e, vLmul_e, vLand_e, vLor_e, vLxor_e, vLdiv_e, vLrem_e, vLushr_e, vLshl_e, vLcmp_e, vIneg_e, vI2l_e, vL2i_e, vI2b_e, vI2c_e, vDup_e, vPop_e, vDup2_e, vGoto_e, vIcEq_e, vIfEq_e, vIcNe_e, vIfNe_e, vIcLt_e, vIfLt_e, vIcGe_e, vIfGe_e, vIcGt_e, vIfGt_e, vIcLe_e, vIfLe_e, vNonnull_e, vSw_e, vGetI_e, vGetL_e, vGetR_e, vPutI_e, vPutZ_e, vPutL_e, vPutR_e, vIald_e, vIald_s, vLald_e, vBald_e, vBald_s, vAald_e, vIast_e, vLast_e, vBast_e, vAast_e, vAlen_e8, vAlen_e9, vAlen_e10, vAlen_e11, vAlen_e5, vAlen_e3, vGets_e, vCompact_e, vLdcS_e, vIret_e, vZret_e, vCret_e, vBret_e, vLret_e, vVret_e, vAret_e, vCallM_e0, vCallMV_e0, vCallS_e0, vCallSV_e0, vCallM_e1, vCallMV_e1, vCallS_e1, vCallSV_e1, vCallM_e2, vCallMV_e2, vCallS_e2, vCallSV_e2, vCallM_e3, vCallMV_e3, vCallS_e3, vCallSV_e3, vCallM_e4, vCallMV_e4, vCallS_e4, vCallSV_e4, vCallM_e5, vCallMV_e5, vCallS_e5, vCallSV_e5, vCallM_e6, vCallMV_e6, vCallS_e6, vCallSV_e6, vCallM_e7, vCallMV_e7, vCallS_e7, vCallSV_e7, vBad_e, vStrVal_e, vStrCod_e, vForm_e, vCallT_e0, vCallT_e1, vCallT_e2, vCopy_e, rf_0_0, rf_0_1, rf_0_2, rf_0_3, rf_0_4, rf_0_7, rf_0_10, rf_0_11, rf_0_12, rf_0_13, rf_0_14, rf_0_15, rf_0_16, rf_1_0, rf_3_0, rf_3_1, rf_6_0, rf_6_1, rf_9_0, rf_9_1, rf_9_3, rf_13_0, rf_13_1, rf_13_2, rf_16_0, rf_16_1, rf_16_2, rf_16_3, rf_21_0, rf_21_1, rf_21_2, rf_21_3, rf_26_0, rf_26_1, rf_26_2, rf_26_3, rf_26_4, rf_26_5, rf_26_6, rf_31_0, rf_31_2, rf_31_5, rf_31_6, rf_36_0, rf_36_1, rf_36_2, rf_36_3, rf_39_0, rf_39_1, rf_39_2, rf_41_0, rf_41_1, rf_41_2, rf_41_3, rf_5000_1, rf_5000_2, rf_5000_3, rf_5000_4, rf_5000_5, rf_5000_15, rf_5000_16, rf_5000_18, rf_5000_19, rf_5000_20, rf_5000_21, rf_5000_22, rf_5000_23, rf_5000_24, rf_5000_25, rf_5000_26, rf_5000_27, rf_5000_36, rf_5000_37, rf_5000_40, rf_5000_41, rf_5000_42, rf_5000_43, rf_5000_44, rf_5000_45, rf_5000_47, rf_5000_52, rf_5000_54, rf_5000_55, rf_100_0, rf_100_1, rf_103_0, rf_103_1, rf_106_0, rf_106_1, rf_109_0, rf_109_1, al_2, al_4, al_5, al_7, al_8, al_10, al_11, al_12, al_14, al_15, al_17, al_18, al_19, al_20, al_22, al_23, al_24, al_25, al_27, al_28, al_29, al_30, al_32, al_33, al_34, al_35, al_37, al_38, al_40, al_42, al_5001, al_5002, al_5003, al_5004, al_5005, al_5006, al_5007, al_5008, al_5009, al_5010, al_5011, al_5012, al_5013, al_5014, al_5015, al_5016, al_5017, al_5018, al_5019, al_5020, al_5021, al_5022, al_5023, al_5024, al_5025, al_5026, al_9000, al_101, al_102, al_104, al_105, al_107, al_108, al_110, al_111, vcs_e, lg_c0, lg_cs, lg_nil, set_c0, set_cs, okst_0, okst_s, acok_n, acok_c, List.contains_nil, List.contains_cons, Bool.or_false, Bool.false_or, Bool.false_eq_true, if_false, if_true, ite_self, ne_eq, true_and, and_true, not_false_eq_true, not_true_eq_false, false_imp_iff, true_imp_iff, Nat.ble_eq, Bool.and_eq_true, reduceCtorEq, or_false, false_or, or_true, true_or, false_and, and_false, and_self, Int.reduceLE, Int.reduceAdd, Int.reduceSub, Int.reduceMul, Int.reduceNeg, Int.reduceLT, Int.reduceEq, Int.reduceNe, Nat.reduceBEq, Nat.reduceBNe, Nat.reduceEqDiff, amCmp_in, amCmp_lt, amCmp_le, amCmp_gt, amCmp_ge, amCmp_eq, amCmp_ne, Nat.reduceLeDiff, Nat.reduceSub, Bool.and_true, Bool.true_and, Bool.and_self, Bool.or_true, Bool.true_or, isRf_3, isRf_4, isRf_5, isRf_8, isRf_9, isRf_10, isRf_11, isRf_15, isRf_16, isRf_17, isRf_18, isRf_19, isRf_20, isRf_21, isRf_22, isRf_23, isRf_24, isRf_25, isRf_26, isRf_27, isRf_28, k_X0_loadFrom_0, k_X0_loadFrom_1, k_X0_loadFrom_4, k_X0_loadFrom_5, k_X0_loadFrom_6, k_X0_loadFrom_7, k_X0_loadFrom_9, k_X0_loadFrom_10, k_X0_loadFrom_13, k_X0_loadFrom_14, k_X0_loadFrom_15, k_X0_loadFrom_16, k_X0_loadFrom_17, k_X0_loadFrom_20, k_X0_loadFrom_21, k_X0_loadFrom_23, k_X0_loadFrom_26, k_X0_loadFrom_27, k_X0_loadFrom_28, k_X0_loadFrom_30, k_X0_loadFrom_31, k_X0_loadFrom_32, k_X0_loadFrom_35, k_X0_loadFrom_36, k_X0_loadFrom_38, k_X0_loadFrom_41, k_X0_loadFrom_42, k_X0_loadFrom_43, k_X0_loadFrom_45, k_X0_loadFrom_46, k_X0_loadFrom_47, k_X0_loadFrom_50, k_X0_loadFrom_51, k_X0_loadFrom_53, k_X0_loadFrom_56, k_X0_loadFrom_57, k_X0_loadFrom_58, k_X0_loadFrom_60, k_X0_loadFrom_61, k_X0_loadFrom_62, k_X0_loadFrom_65, k_X0_loadFrom_66, k_X0_loadFrom_68, k_X0_loadFrom_71, k_X0_loadFrom_72, k_X0_loadFrom_73, k_X0_loadFrom_74, k_X0_loadFrom_76, k_X0_loadFrom_77, k_X0_loadFrom_78, k_X0_loadFrom_79, k_X0_loadFrom_80, k_X0_loadFrom_83, k_X0_loadFrom_84, k_X0_loadFrom_85, k_X0_loadFrom_86, k_X0_loadFrom_88, k_X0_loadFrom_89, k_X0_loadFrom_90, k_X0_loadFrom_91, k_X0_loadFrom_92, k_X0_loadFrom_95, k_X0_loadFrom_96, k_X0_loadFrom_97, k_X0_loadFrom_98, k_X0_loadFrom_100, k_X0_loadFrom_101, k_X0_loadFrom_102, k_X0_loadFrom_103, k_X0_loadFrom_104, k_X0_loadFrom_107]
    have em : ∀ v5 v6 v7, v5 = σ 34 (fr + 24) → v6 = σ 34 (fr + 25) → v7 = σ 34 (fr + 26) → up (up (up (cpy (cpy (cpy (cpy σ 34 fr 17 0 6) 34 (fr + 6) 18 0 6) 34 (fr + 12) 19 0 6) 34 (fr + 18) 20 0 6) 16 4 v5) 16 5 v6) 16 6 v7 = setAud σ 16 (fun k => σ 34 (fr + k)) := by
      rintro v5 v6 v7 rfl rfl rfl
      refine eq_setAud (fun b hb => ?_) (fun j => ?_) (fun j => ?_) (fun j => ?_) (fun j => ?_) (fun j => ?_)
      · rw [up_na _ (by omega), up_na _ (by omega), up_na _ (by omega), cpy_o _ (by omega), cpy_o _ (by omega), cpy_o _ (by omega), cpy_o _ (by omega)]
      · rw [up_na _ (by decide), up_na _ (by decide), up_na _ (by decide), cpy_o _ (by decide), cpy_o _ (by decide), cpy_o _ (by decide)]
        refine (cpy_s _ _ _ _ _ _ _).trans ?_
        by_cases g : 0 ≤ j ∧ j < 6
        · rw [if_pos g, if_pos (by omega)]; congr 1; omega
        · rw [if_neg g, if_neg (by omega)]; rfl
      · rw [up_na _ (by decide), up_na _ (by decide), up_na _ (by decide), cpy_o _ (by decide), cpy_o _ (by decide)]
        refine (cpy_s _ _ _ _ _ _ _).trans ?_
        by_cases g : 0 ≤ j ∧ j < 6
        · rw [if_pos g, if_pos (by omega), cpy_o _ (by decide)]; congr 1; omega
        · rw [if_neg g, if_neg (by omega), cpy_o _ (by decide)]; rfl
      · rw [up_na _ (by decide), up_na _ (by decide), up_na _ (by decide), cpy_o _ (by decide)]
        refine (cpy_s _ _ _ _ _ _ _).trans ?_
        by_cases g : 0 ≤ j ∧ j < 6
        · rw [if_pos g, if_pos (by omega), cpy_o _ (by decide), cpy_o _ (by decide)]; congr 1; omega
        · rw [if_neg g, if_neg (by omega), cpy_o _ (by decide), cpy_o _ (by decide)]; rfl
      · rw [up_na _ (by decide), up_na _ (by decide), up_na _ (by decide)]
        refine (cpy_s _ _ _ _ _ _ _).trans ?_
        by_cases g : 0 ≤ j ∧ j < 6
        · rw [if_pos g, if_pos (by omega), cpy_o _ (by decide), cpy_o _ (by decide), cpy_o _ (by decide)]; congr 1; omega
        · rw [if_neg g, if_neg (by omega), cpy_o _ (by decide), cpy_o _ (by decide), cpy_o _ (by decide)]; rfl
      · rw [up3_at, cpy_o _ (by decide), cpy_o _ (by decide), cpy_o _ (by decide), cpy_o _ (by decide)]
        by_cases g : 4 ≤ j ∧ j < 7
        · rw [if_pos g]
          have : j = 4 ∨ j = 5 ∨ j = 6 := by omega
          rcases this with rfl | rfl | rfl <;> rfl
        · rw [if_neg g, if_neg (by omega), if_neg (by omega), if_neg (by omega)]
    have r0 : ∀ x, cpy (cpy (cpy (cpy σ 34 fr 17 0 6) 34 (fr + 6) 18 0 6) 34 (fr + 12) 19 0 6) 34 (fr + 18) 20 0 6 34 x = σ 34 x := fun x => by
      rw [cpy_o _ (by decide), cpy_o _ (by decide), cpy_o _ (by decide), cpy_o _ (by decide)]
    repeat' (first | assumption | apply And.intro | intro _)
    all_goals first
      | omega
      | (refine Qm h rfl (em _ _ _ ?_ ?_ ?_).symm
         · rw [r0]; congr 1; omega
         · rw [up_na _ (by decide), r0]; congr 1; omega
         · rw [up_na _ (by decide), up_na _ (by decide), r0]; congr 1; omega)
