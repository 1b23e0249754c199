/-! Past: the image -/
def kim (τ : Mem) (s m : Int) : Mem := fun b j => if b = 35 ∧ 0 ≤ j ∧ j < m then τ 32 ((τ 31 1 - s + j) % 128) else τ b j
theorem kim_o (τ : Mem) (s m : Int) {b : Int} (h : b ≠ 35) : kim τ s m b = τ b := by
  funext j; unfold kim; rw [if_neg (fun q => h q.1)]
theorem kim_0 (τ : Mem) (s : Int) : kim τ s 0 = τ := by
  funext b j; unfold kim; rw [if_neg (by omega)]
theorem kim_s (τ : Mem) (s : Int) {m : Int} (h : 0 ≤ m) : up (kim τ s m) 35 m (τ 32 ((τ 31 1 - s + m) % 128)) = kim τ s (m + 1) := by
  funext b j; unfold up kim
  by_cases h1 : b = 35 ∧ j = m
  · rw [if_pos h1, if_pos (by omega), h1.2]
  · rw [if_neg h1]
    by_cases h2 : b = 35 ∧ 0 ≤ j ∧ j < m
    · rw [if_pos h2, if_pos (by omega)]
    · rw [if_neg h2, if_neg (by omega)]

theorem wd_231 : Cond.fieldLink RX5 30 "ArmchairHouse$Past" "imageRow" "[I" ∈ TBL := tb_tab (List.mem_of_getElem? (i := 231) (by decide +kernel)) rfl
theorem fl_X5_30 : amFl RX5 5 5 30 RX5 TX5 9 := ⟨rfl, inT_5, by decide, wd_231⟩
theorem wd_1206 : Cond.methodLink RX5 56 yX5_shown ∈ TBL := tb_tab (List.mem_of_getElem? (i := 1206) (by decide +kernel)) rfl
theorem wd_8 : Cond.initialized RX5 ∈ TBL := tb_tab (List.mem_of_getElem? (i := 8) (by decide +kernel)) rfl
theorem wd_933 : Cond.code yX5_shown cX5_shown 1 (some .int) ∈ TBL := tb_tab (List.mem_of_getElem? (i := 933) (by decide +kernel)) rfl
theorem lk_X5_56 : amLk RX5 56 yX5_shown cX5_shown 1 (some .int) 0 := ⟨wd_1206, wd_8, wd_933, by decide +kernel, by decide +kernel, by decide⟩
theorem wd_931 : Cond.instanceMethod yX5_shown ∈ TBL := tb_tab (List.mem_of_getElem? (i := 931) (by decide +kernel)) rfl
theorem wd_932 : Cond.selects RX5 yX5_shown yX5_shown ∈ TBL := tb_tab (List.mem_of_getElem? (i := 932) (by decide +kernel)) rfl
theorem wd_233 : Cond.fieldLink RX5 36 "ArmchairHouse$Past" "imageShown" "I" ∈ TBL := tb_tab (List.mem_of_getElem? (i := 233) (by decide +kernel)) rfl
theorem fl_X5_36 : amFl RX5 5 7 36 RX5 TX5 9 := ⟨rfl, inT_5, by decide, wd_233⟩
theorem fp_X5_36 : amFp RX5 5 7 36 RX5 TX5 9 tyX5 .int := ⟨fl_X5_36, tyX5_ok, nmX5, by decide +kernel⟩
theorem wd_232 : Cond.fieldLink RX5 33 "ArmchairHouse$Past" "imageLines" "[I" ∈ TBL := tb_tab (List.mem_of_getElem? (i := 232) (by decide +kernel)) rfl
theorem fl_X5_33 : amFl RX5 5 6 33 RX5 TX5 9 := ⟨rfl, inT_5, by decide, wd_232⟩
def a_X5_keepImage : AC := [(0, vAload 1 1), (1, vAload 0 2), (2, vGetR TT 21 5 8 5), (5, vI 0 6), (6, vCallMV w_X0_saveTo 16 2 9), (9, vAload 0 10), (10, vAload 0 11), (11, vCallM w_X5_shown 21 0 14), (14, vPutI 21 7 17), (17, vI 0 18), (18, vIstore 2 19), (19, vIload 2 20), (20, vAload 0 21), (21, vGetI 21 7 24), (24, vIcGe 64 27), (27, vIload 2 28), (28, vI 60 30), (30, vIcGe 64 33), (33, vAload 0 34), (34, vGetR TT 21 6 8 37), (37, vIload 2 38), (38, vAload 0 39), (39, vGetR TT 21 0 8 42), (42, vAload 0 43), (43, vGetI 21 1 46), (46, vAload 0 47), (47, vGetI 21 7 50), (50, vIsub 51), (51, vIload 2 52), (52, vIadd 53), (53, vI 127 55), (55, vIand 56), (56, vIald TT 57), (57, vIast TT 58), (58, vIinc 2 1 61), (61, vGoto 19), (64, vAload 0 65), (65, vI 1 66), (66, vPutZ 21 8 69), (69, vVret)]
theorem k_X5_keepImage_0 : look a_X5_keepImage 0 = vAload 1 1 := rfl
theorem k_X5_keepImage_1 : look a_X5_keepImage 1 = vAload 0 2 := rfl
theorem k_X5_keepImage_2 : look a_X5_keepImage 2 = vGetR TT 21 5 8 5 := rfl
theorem k_X5_keepImage_5 : look a_X5_keepImage 5 = vI 0 6 := rfl
theorem k_X5_keepImage_6 : look a_X5_keepImage 6 = vCallMV w_X0_saveTo 16 2 9 := rfl
theorem k_X5_keepImage_9 : look a_X5_keepImage 9 = vAload 0 10 := rfl
theorem k_X5_keepImage_10 : look a_X5_keepImage 10 = vAload 0 11 := rfl
theorem k_X5_keepImage_11 : look a_X5_keepImage 11 = vCallM w_X5_shown 21 0 14 := rfl
theorem k_X5_keepImage_14 : look a_X5_keepImage 14 = vPutI 21 7 17 := rfl
theorem k_X5_keepImage_17 : look a_X5_keepImage 17 = vI 0 18 := rfl
theorem k_X5_keepImage_18 : look a_X5_keepImage 18 = vIstore 2 19 := rfl
theorem k_X5_keepImage_19 : look a_X5_keepImage 19 = vIload 2 20 := rfl
theorem k_X5_keepImage_20 : look a_X5_keepImage 20 = vAload 0 21 := rfl
theorem k_X5_keepImage_21 : look a_X5_keepImage 21 = vGetI 21 7 24 := rfl
theorem k_X5_keepImage_24 : look a_X5_keepImage 24 = vIcGe 64 27 := rfl
theorem k_X5_keepImage_27 : look a_X5_keepImage 27 = vIload 2 28 := rfl
theorem k_X5_keepImage_28 : look a_X5_keepImage 28 = vI 60 30 := rfl
theorem k_X5_keepImage_30 : look a_X5_keepImage 30 = vIcGe 64 33 := rfl
theorem k_X5_keepImage_33 : look a_X5_keepImage 33 = vAload 0 34 := rfl
theorem k_X5_keepImage_34 : look a_X5_keepImage 34 = vGetR TT 21 6 8 37 := rfl
theorem k_X5_keepImage_37 : look a_X5_keepImage 37 = vIload 2 38 := rfl
theorem k_X5_keepImage_38 : look a_X5_keepImage 38 = vAload 0 39 := rfl
theorem k_X5_keepImage_39 : look a_X5_keepImage 39 = vGetR TT 21 0 8 42 := rfl
theorem k_X5_keepImage_42 : look a_X5_keepImage 42 = vAload 0 43 := rfl
theorem k_X5_keepImage_43 : look a_X5_keepImage 43 = vGetI 21 1 46 := rfl
theorem k_X5_keepImage_46 : look a_X5_keepImage 46 = vAload 0 47 := rfl
theorem k_X5_keepImage_47 : look a_X5_keepImage 47 = vGetI 21 7 50 := rfl
theorem k_X5_keepImage_50 : look a_X5_keepImage 50 = vIsub 51 := rfl
theorem k_X5_keepImage_51 : look a_X5_keepImage 51 = vIload 2 52 := rfl
theorem k_X5_keepImage_52 : look a_X5_keepImage 52 = vIadd 53 := rfl
theorem k_X5_keepImage_53 : look a_X5_keepImage 53 = vI 127 55 := rfl
theorem k_X5_keepImage_55 : look a_X5_keepImage 55 = vIand 56 := rfl
theorem k_X5_keepImage_56 : look a_X5_keepImage 56 = vIald TT 57 := rfl
theorem k_X5_keepImage_57 : look a_X5_keepImage 57 = vIast TT 58 := rfl
theorem k_X5_keepImage_58 : look a_X5_keepImage 58 = vIinc 2 1 61 := rfl
theorem k_X5_keepImage_61 : look a_X5_keepImage 61 = vGoto 19 := rfl
theorem k_X5_keepImage_64 : look a_X5_keepImage 64 = vAload 0 65 := rfl
theorem k_X5_keepImage_65 : look a_X5_keepImage 65 = vI 1 66 := rfl
theorem k_X5_keepImage_66 : look a_X5_keepImage 66 = vPutZ 21 8 69 := rfl
theorem k_X5_keepImage_69 : look a_X5_keepImage 69 = vVret := rfl
theorem o_X5_keepImage {X : amX} (e1 : XT X = TT) (e2 : XD X = 2) (hB : amB X RX5 cX5_keepImage (none) 3) : ∀ pc, amOK X pc (look a_X5_keepImage pc) := by
  have hT : amTok (XT X) := e1 ▸ TT_ok
  refine look_ok ?_
  unfold a_X5_keepImage
  refine fc (ok_aload_n hB dX5_keepImage_0) ?_
  refine fc (ok_aload_n hB dX5_keepImage_1) ?_
  refine fc (okt_getR e1 hB hT fl_X5_30 rfl af_5_5 at_5_5 (by decide) dX5_keepImage_2) ?_
  refine fc (ok_iconst hB dX5_keepImage_5) ?_
  refine fc (ok_callMV hB hT (e1 ▸ s_X0_saveTo) lk_X5_49 (by rw [e2]; decide) (c := 0) rfl rfl rfl wd_766 wd_767 dX5_keepImage_6) ?_
  refine fc (ok_aload_n hB dX5_keepImage_9) ?_
  refine fc (ok_aload_n hB dX5_keepImage_10) ?_
  refine fc (ok_callM hB hT (e1 ▸ s_X5_shown) lk_X5_56 (by rw [e2]; decide) (c := 5) rfl rfl rfl wd_931 wd_932 dX5_keepImage_11) ?_
  refine fc (ok_putI hB hT fp_X5_36 rfl rfl rfl af_5_7 dX5_keepImage_14) ?_
  refine fc (ok_iconst hB dX5_keepImage_17) ?_
  refine fc (ok_istore_n hB (by decide) dX5_keepImage_18) ?_
  refine fc (ok_iload_n hB dX5_keepImage_19) ?_
  refine fc (ok_aload_n hB dX5_keepImage_20) ?_
  refine fc (ok_getI hB hT fl_X5_36 rfl rfl (Or.inl af_5_7) dX5_keepImage_21) ?_
  refine fc (ok_icmp_ge hB (t := 64) (by decide) dX5_keepImage_24) ?_
  refine fc (ok_iload_n hB dX5_keepImage_27) ?_
  refine fc (ok_bipush hB dX5_keepImage_28 (by decide)) ?_
  refine fc (ok_icmp_ge hB (t := 64) (by decide) dX5_keepImage_30) ?_
  refine fc (ok_aload_n hB dX5_keepImage_33) ?_
  refine fc (okt_getR e1 hB hT fl_X5_33 rfl af_5_6 at_5_6 (by decide) dX5_keepImage_34) ?_
  refine fc (ok_iload_n hB dX5_keepImage_37) ?_
  refine fc (ok_aload_n hB dX5_keepImage_38) ?_
  refine fc (okt_getR e1 hB hT fl_X5_13 rfl af_5_0 at_5_0 (by decide) dX5_keepImage_39) ?_
  refine fc (ok_aload_n hB dX5_keepImage_42) ?_
  refine fc (ok_getI hB hT fl_X5_17 rfl rfl (Or.inl af_5_1) dX5_keepImage_43) ?_
  refine fc (ok_aload_n hB dX5_keepImage_46) ?_
  refine fc (ok_getI hB hT fl_X5_36 rfl rfl (Or.inl af_5_7) dX5_keepImage_47) ?_
  refine fc (ok_isub hB dX5_keepImage_50) ?_
  refine fc (ok_iload_n hB dX5_keepImage_51) ?_
  refine fc (ok_iadd hB dX5_keepImage_52) ?_
  refine fc (ok_bipush hB dX5_keepImage_53 (by decide)) ?_
  refine fc (ok_iand hB dX5_keepImage_55) ?_
  refine fc (okt_iaload e1 hB dX5_keepImage_56) ?_
  refine fc (okt_iastore e1 hB dX5_keepImage_57) ?_
  refine fc (ok_iinc hB (by decide) dX5_keepImage_58) ?_
  refine fc (ok_goto hB (t := 19) (by decide) dX5_keepImage_61) ?_
  refine fc (ok_aload_n hB dX5_keepImage_64) ?_
  refine fc (ok_iconst hB dX5_keepImage_65) ?_
  refine fc (ok_putZ hB hT fp_X5_39 rfl rfl rfl af_5_8 dX5_keepImage_66) ?_
  refine fc (ok_vret hB dX5_keepImage_69) ?_
  exact fn
def inv_keep (τ : Mem) (s : Int) (n pc : Nat) (ls st : List AV) (σ' : Mem) : Prop := pc = 19 ∧ st = [] ∧ ∃ i : Int, ls = [(21, 31), (16, 16), (0, i)] ∧ 0 ≤ i ∧ i + n = s ∧ σ' = kim τ s i
def w_X5_keepImage : WP := fun av σ Q => ∃ (a : Int), av = [(21, 31), (16, a)] ∧ (a = 16 ∧ 0 ≤ σ 31 1 ∧ σ 31 1 ≤ 1000000 ∧ Q (6, 0) (up (kim (up (savR σ 34 0) 31 7 (min 60 (σ 31 1))) (min 60 (σ 31 1)) (min 60 (σ 31 1))) 31 8 1))
theorem w_X5_keepImage_e (a : Int) (σ : Mem) (Q : AV → Mem → Prop) : w_X5_keepImage [(21, 31), (16, a)] σ Q = (a = 16 ∧ 0 ≤ σ 31 1 ∧ σ 31 1 ≤ 1000000 ∧ Q (6, 0) (up (kim (up (savR σ 34 0) 31 7 (min 60 (σ 31 1))) (min 60 (σ 31 1)) (min 60 (σ 31 1))) 31 8 1)) := by
  apply propext; constructor
  · rintro ⟨a', h9, hb9⟩; cases h9; exact hb9
  · intro hb9; exact ⟨a, rfl, hb9⟩

set_option maxRecDepth 100000 in
set_option maxHeartbeats 4000000 in
theorem s_X5_keepImage : ∀ av σ Q, w_X5_keepImage av σ Q → amCall 2 0 0 TT yX5_keepImage cX5_keepImage 3 (none) av σ Q := by
  rintro av σ Q ⟨a, rfl, rfl, h0, h1, h⟩
  generalize hτ : up (savR σ 34 0) 31 7 (min 60 (σ 31 1)) = τ at h
  have t7 : τ 31 7 = min 60 (σ 31 1) := by rw [← hτ, up_s]
  have t1 : τ 31 1 = σ 31 1 := by rw [← hτ, up_nj _ (by decide), savR_o _ (by decide)]
  refine am_m [19] (inv_keep τ (min 60 (σ 31 1))) (own := RX5) (A := look a_X5_keepImage) (fun X e1 e2 hB => o_X5_keepImage e1 e2 hB) rfl (by decide +kernel) rfl rfl ?_ ⟨90, ?_⟩ (w := 3)
  · rintro n pc ls st σ' ⟨rfl, rfl, i, rfl, hi, hn, rfl⟩
    refine ⟨90, ?_⟩
    have k7 : ∀ i, kim τ (min 60 (σ 31 1)) i 31 7 = min 60 (σ 31 1) := fun i => by rw [kim_o _ _ _ (by decide), t7]
    have k1 : ∀ i, kim τ (min 60 (σ 31 1)) i 31 1 = σ 31 1 := fun i => by rw [kim_o _ _ _ (by decide), t1]
    have k32 : ∀ i, kim τ (min 60 (σ 31 1)) i 32 = τ 32 := fun i => kim_o _ _ _ (by decide)
    have ks := kim_s τ (min 60 (σ 31 1)) hi
    rw [t1] at ks
    simp only [vSw2_e, swP_n, swP_c, vI_e, vL_e, vNull_e, vIload_e, vLload_e, vAload_e, vIstore_e, vLstore_e, vAstore_e, vIinc_e, vIadd_e, vIsub_e, vImul_e, vIand_e, vIor_e, vIxor_e, vIshl_e, vIshr_e, vIushr_e, vIdiv_e, vIrem_e, vLadd_e, vLsub_e, vLmul_e, vLand_e, vLor_e, vLxor_e, vLdiv_e, vLrem_e, vLushr_e, vLshl_e, vLcmp_e, vIneg_e, vI2l_e, vL2i_e, vI2b_e, vI2c_e, vDup_e, vPop_e, vDup2_e, vGoto_e, vIcEq_e, vIfEq_e, vIcNe_e, vIfNe_e, vIcLt_e, vIfLt_e, vIcGe_e, vIfGe_e, vIcGt_e, vIfGt_e, vIcLe_e, vIfLe_e, vNonnull_e, vSw_e, vGetI_e, vGetL_e, vGetR_e, vPutI_e, vPutZ_e, vPutL_e, vPutR_e, vIald_e, vIald_s, vLald_e, vBald_e, vBald_s, vAald_e, vIast_e, vLast_e, vBast_e, vAast_e, vAlen_e8, vAlen_e9, vAlen_e10, vAlen_e11, vAlen_e5, vAlen_e3, vGets_e, vCompact_e, vLdcS_e, vIret_e, vZret_e, vCret_e, vBret_e, vLret_e, vVret_e, vAret_e, vCallM_e0, vCallMV_e0, vCallS_e0, vCallSV_e0, vCallM_e1, vCallMV_e1, vCallS_e1, vCallSV_e1, vCallM_e2, vCallMV_e2, vCallS_e2, vCallSV_e2, vCallM_e3, vCallMV_e3, vCallS_e3, vCallSV_e3, vCallM_e4, vCallMV_e4, vCallS_e4, vCallSV_e4, vCallM_e5, vCallMV_e5, vCallS_e5, vCallSV_e5, vCallM_e6, vCallMV_e6, vCallS_e6, vCallSV_e6, vCallM_e7, vCallMV_e7, vCallS_e7, vCallSV_e7, vBad_e, vStrVal_e, vStrCod_e, vForm_e, vCallT_e0, vCallT_e1, vCallT_e2, vCopy_e, rf_0_0, rf_0_1, rf_0_2, rf_0_3, rf_0_4, rf_0_7, rf_0_10, rf_0_11, rf_0_12, rf_0_13, rf_0_14, rf_0_15, rf_0_16, rf_1_0, rf_3_0, rf_3_1, rf_6_0, rf_6_1, rf_9_0, rf_9_1, rf_9_3, rf_13_0, rf_13_1, rf_13_2, rf_16_0, rf_16_1, rf_16_2, rf_16_3, rf_21_0, rf_21_1, rf_21_2, rf_21_3, rf_26_0, rf_26_1, rf_26_2, rf_26_3, rf_26_4, rf_26_5, rf_26_6, rf_31_0, rf_31_2, rf_31_5, rf_31_6, rf_36_0, rf_36_1, rf_36_2, rf_36_3, rf_39_0, rf_39_1, rf_39_2, rf_41_0, rf_41_1, rf_41_2, rf_41_3, rf_5000_1, rf_5000_2, rf_5000_3, rf_5000_4, rf_5000_5, rf_5000_15, rf_5000_16, rf_5000_18, rf_5000_19, rf_5000_20, rf_5000_21, rf_5000_22, rf_5000_23, rf_5000_24, rf_5000_25, rf_5000_26, rf_5000_27, rf_5000_36, rf_5000_37, rf_5000_40, rf_5000_41, rf_5000_42, rf_5000_43, rf_5000_44, rf_5000_45, rf_5000_47, rf_5000_52, rf_5000_54, rf_5000_55, rf_100_0, rf_100_1, rf_103_0, rf_103_1, rf_106_0, rf_106_1, rf_109_0, rf_109_1, al_2, al_4, al_5, al_7, al_8, al_10, al_11, al_12, al_14, al_15, al_17, al_18, al_19, al_20, al_22, al_23, al_24, al_25, al_27, al_28, al_29, al_30, al_32, al_33, al_34, al_35, al_37, al_38, al_40, al_42, al_5001, al_5002, al_5003, al_5004, al_5005, al_5006, al_5007, al_5008, al_5009, al_5010, al_5011, al_5012, al_5013, al_5014, al_5015, al_5016, al_5017, al_5018, al_5019, al_5020, al_5021, al_5022, al_5023, al_5024, al_5025, al_5026, al_9000, al_101, al_102, al_104, al_105, al_107, al_108, al_110, al_111, vcs_e, lg_c0, lg_cs, lg_nil, set_c0, set_cs, okst_0, okst_s, acok_n, acok_c, List.contains_nil, List.contains_cons, Bool.or_false, Bool.false_or, Bool.false_eq_true, if_false, if_true, ite_self, ne_eq, true_and, and_true, not_false_eq_true, not_true_eq_false, false_imp_iff, true_imp_iff, Nat.ble_eq, Bool.and_eq_true, reduceCtorEq, or_false, false_or, or_true, true_or, false_and, and_false, and_self, Int.reduceLE, Int.reduceAdd, Int.reduceSub, Int.reduceMul, Int.reduceNeg, Int.reduceLT, Int.reduceEq, Int.reduceNe, Nat.reduceBEq, Nat.reduceBNe, Nat.reduceEqDiff, amCmp_in, amCmp_lt, amCmp_le, amCmp_gt, amCmp_ge, amCmp_eq, amCmp_ne, Nat.reduceLeDiff, Nat.reduceSub, Bool.and_true, Bool.true_and, Bool.and_self, Bool.or_true, Bool.true_or, isRf_3, isRf_4, isRf_5, isRf_8, isRf_9, isRf_10, isRf_11, isRf_15, isRf_16, isRf_17, isRf_18, isRf_19, isRf_20, isRf_21, isRf_22, isRf_23, isRf_24, isRf_25, isRf_26, isRf_27, isRf_28, k_X5_keepImage_0, k_X5_keepImage_1, k_X5_keepImage_2, k_X5_keepImage_5, k_X5_keepImage_6, k_X5_keepImage_9, k_X5_keepImage_10, k_X5_keepImage_11, k_X5_keepImage_14, k_X5_keepImage_17, k_X5_keepImage_18, k_X5_keepImage_19, k_X5_keepImage_20, k_X5_keepImage_21, k_X5_keepImage_24, k_X5_keepImage_27, k_X5_keepImage_28, k_X5_keepImage_30, k_X5_keepImage_33, k_X5_keepImage_34, k_X5_keepImage_37, k_X5_keepImage_38, k_X5_keepImage_39, k_X5_keepImage_42, k_X5_keepImage_43, k_X5_keepImage_46, k_X5_keepImage_47, k_X5_keepImage_50, k_X5_keepImage_51, k_X5_keepImage_52, k_X5_keepImage_53, k_X5_keepImage_55, k_X5_keepImage_56, k_X5_keepImage_57, k_X5_keepImage_58, k_X5_keepImage_61, k_X5_keepImage_64, k_X5_keepImage_65, k_X5_keepImage_66, k_X5_keepImage_69, k7, k1, k32, amIand_127, ks]
    by_cases hlt : i < min 60 (σ 31 1)
    · repeat' (first | assumption | apply And.intro | intro _)
      all_goals first | omega | exact ⟨n - 1, by omega, rfl, rfl, i + 1, rfl, by omega, by omega, rfl⟩
    · have : i = min 60 (σ 31 1) := by omega
      subst this
      repeat' (first | assumption | apply And.intro | intro _)
      all_goals first | omega | exact h
  · change vcs _ _ _ _ 90 0 [(21, 31), (16, 16), (6, 0)] [] σ
    simp only [vSw2_e, swP_n, swP_c, vI_e, vL_e, vNull_e, vIload_e, vLload_e, vAload_e, vIstore_e, vLstore_e, vAstore_e, vIinc_e, vIadd_e, vIsub_e, vImul_e, vIand_e, vIor_e, vIxor_e, vIshl_e, vIshr_e, vIushr_e, vIdiv_e, vIrem_e, vLadd_e, vLsub_e, vLmul_e, vLand_e, vLor_e, vLxor_e, vLdiv_e, vLrem_e, vLushr_e, vLshl_e, vLcmp_e, vIneg_e, vI2l_e, vL2i_e, vI2b_e, vI2c_e, vDup_e, vPop_e, vDup2_e, vGoto_e, vIcEq_e, vIfEq_e, vIcNe_e, vIfNe_e, vIcLt_e, vIfLt_e, vIcGe_e, vIfGe_e, vIcGt_e, vIfGt_e, vIcLe_e, vIfLe_e, vNonnull_e, vSw_e, vGetI_e, vGetL_e, vGetR_e, vPutI_e, vPutZ_e, vPutL_e, vPutR_e, vIald_e, vIald_s, vLald_e, vBald_e, vBald_s, vAald_e, vIast_e, vLast_e, vBast_e, vAast_e, vAlen_e8, vAlen_e9, vAlen_e10, vAlen_e11, vAlen_e5, vAlen_e3, vGets_e, vCompact_e, vLdcS_e, vIret_e, vZret_e, vCret_e, vBret_e, vLret_e, vVret_e, vAret_e, vCallM_e0, vCallMV_e0, vCallS_e0, vCallSV_e0, vCallM_e1, vCallMV_e1, vCallS_e1, vCallSV_e1, vCallM_e2, vCallMV_e2, vCallS_e2, vCallSV_e2, vCallM_e3, vCallMV_e3, vCallS_e3, vCallSV_e3, vCallM_e4, vCallMV_e4, vCallS_e4, vCallSV_e4, vCallM_e5, vCallMV_e5, vCallS_e5, vCallSV_e5, vCallM_e6, vCallMV_e6, vCallS_e6, vCallSV_e6, vCallM_e7, vCallMV_e7, vCallS_e7, vCallSV_e7, vBad_e, vStrVal_e, vStrCod_e, vForm_e, vCallT_e0, vCallT_e1, vCallT_e2, vCopy_e, rf_0_0, rf_0_1, rf_0_2, rf_0_3, rf_0_4, rf_0_7, rf_0_10, rf_0_11, rf_0_12, rf_0_13, rf_0_14, rf_0_15, rf_0_16, rf_1_0, rf_3_0, rf_3_1, rf_6_0, rf_6_1, rf_9_0, rf_9_1, rf_9_3, rf_13_0, rf_13_1, rf_13_2, rf_16_0, rf_16_1, rf_16_2, rf_16_3, rf_21_0, rf_21_1, rf_21_2, rf_21_3, rf_26_0, rf_26_1, rf_26_2, rf_26_3, rf_26_4, rf_26_5, rf_26_6, rf_31_0, rf_31_2, rf_31_5, rf_31_6, rf_36_0, rf_36_1, rf_36_2, rf_36_3, rf_39_0, rf_39_1, rf_39_2, rf_41_0, rf_41_1, rf_41_2, rf_41_3, rf_5000_1, rf_5000_2, rf_5000_3, rf_5000_4, rf_5000_5, rf_5000_15, rf_5000_16, rf_5000_18, rf_5000_19, rf_5000_20, rf_5000_21, rf_5000_22, rf_5000_23, rf_5000_24, rf_5000_25, rf_5000_26, rf_5000_27, rf_5000_36, rf_5000_37, rf_5000_40, rf_5000_41, rf_5000_42, rf_5000_43, rf_5000_44, rf_5000_45, rf_5000_47, rf_5000_52, rf_5000_54, rf_5000_55, rf_100_0, rf_100_1, rf_103_0, rf_103_1, rf_106_0, rf_106_1, rf_109_0, rf_109_1, al_2, al_4, al_5, al_7, al_8, al_10, al_11, al_12, al_14, al_15, al_17, al_18, al_19, al_20, al_22, al_23, al_24, al_25, al_27, al_28, al_29, al_30, al_32, al_33, al_34, al_35, al_37, al_38, al_40, al_42, al_5001, al_5002, al_5003, al_5004, al_5005, al_5006, al_5007, al_5008, al_5009, al_5010, al_5011, al_5012, al_5013, al_5014, al_5015, al_5016, al_5017, al_5018, al_5019, al_5020, al_5021, al_5022, al_5023, al_5024, al_5025, al_5026, al_9000, al_101, al_102, al_104, al_105, al_107, al_108, al_110, al_111, vcs_e, lg_c0, lg_cs, lg_nil, set_c0, set_cs, okst_0, okst_s, acok_n, acok_c, List.contains_nil, List.contains_cons, Bool.or_false, Bool.false_or, Bool.false_eq_true, if_false, if_true, ite_self, ne_eq, true_and, and_true, not_false_eq_true, not_true_eq_false, false_imp_iff, true_imp_iff, Nat.ble_eq, Bool.and_eq_true, reduceCtorEq, or_false, false_or, or_true, true_or, false_and, and_false, and_self, Int.reduceLE, Int.reduceAdd, Int.reduceSub, Int.reduceMul, Int.reduceNeg, Int.reduceLT, Int.reduceEq, Int.reduceNe, Nat.reduceBEq, Nat.reduceBNe, Nat.reduceEqDiff, amCmp_in, amCmp_lt, amCmp_le, amCmp_gt, amCmp_ge, amCmp_eq, amCmp_ne, Nat.reduceLeDiff, Nat.reduceSub, Bool.and_true, Bool.true_and, Bool.and_self, Bool.or_true, Bool.true_or, isRf_3, isRf_4, isRf_5, isRf_8, isRf_9, isRf_10, isRf_11, isRf_15, isRf_16, isRf_17, isRf_18, isRf_19, isRf_20, isRf_21, isRf_22, isRf_23, isRf_24, isRf_25, isRf_26, isRf_27, isRf_28, k_X5_keepImage_0, k_X5_keepImage_1, k_X5_keepImage_2, k_X5_keepImage_5, k_X5_keepImage_6, k_X5_keepImage_9, k_X5_keepImage_10, k_X5_keepImage_11, k_X5_keepImage_14, k_X5_keepImage_17, k_X5_keepImage_18, k_X5_keepImage_19, k_X5_keepImage_20, k_X5_keepImage_21, k_X5_keepImage_24, k_X5_keepImage_27, k_X5_keepImage_28, k_X5_keepImage_30, k_X5_keepImage_33, k_X5_keepImage_34, k_X5_keepImage_37, k_X5_keepImage_38, k_X5_keepImage_39, k_X5_keepImage_42, k_X5_keepImage_43, k_X5_keepImage_46, k_X5_keepImage_47, k_X5_keepImage_50, k_X5_keepImage_51, k_X5_keepImage_52, k_X5_keepImage_53, k_X5_keepImage_55, k_X5_keepImage_56, k_X5_keepImage_57, k_X5_keepImage_58, k_X5_keepImage_61, k_X5_keepImage_64, k_X5_keepImage_65, k_X5_keepImage_66, k_X5_keepImage_69, w_X0_saveTo_e, w_X5_shown_e, up_s, up_nj, up_na, up_up, savR_o, cpy_o, fillm_o, setAud_o, setv_o, setv_s, Int.reduceNe, Int.reduceEq, Int.reduceLT, Int.reduceAdd, not_false_eq_true, ne_eq, or_true, true_or]
    rw [hτ]
    repeat' (first | assumption | apply And.intro | intro _)
    all_goals first | omega | exact ⟨(min 60 (σ 31 1)).toNat, rfl, rfl, 0, rfl, by omega, by omega, (kim_0 _ _).symm⟩
theorem wd_1215 : Cond.methodLink RX5 60 arraycopyName ∈ TBL := tb_tab (List.mem_of_getElem? (i := 1215) (by decide +kernel)) rfl
def a_X5_bringBack : AC := [(0, vAload 0 1), (1, vGetI 21 8 4), (4, vIfNe 9 7), (7, vI 0 8), (8, vZret), (9, vAload 1 10), (10, vAload 0 11), (11, vGetR TT 21 5 8 14), (14, vI 0 15), (15, vCallMV w_X0_loadFrom 16 2 18), (18, vAload 0 19), (19, vGetR TT 21 6 8 22), (22, vI 0 23), (23, vAload 0 24), (24, vGetR TT 21 0 8 27), (27, vI 0 28), (28, vI 60 30), (30, vCopy TT 33), (33, vAload 0 34), (34, vAload 0 35), (35, vGetI 21 7 38), (38, vPutI 21 1 41), (41, vAload 0 42), (42, vI 0 43), (43, vPutI 21 3 46), (46, vI 1 47), (47, vZret)]
theorem k_X5_bringBack_0 : look a_X5_bringBack 0 = vAload 0 1 := rfl
theorem k_X5_bringBack_1 : look a_X5_bringBack 1 = vGetI 21 8 4 := rfl
theorem k_X5_bringBack_4 : look a_X5_bringBack 4 = vIfNe 9 7 := rfl
theorem k_X5_bringBack_7 : look a_X5_bringBack 7 = vI 0 8 := rfl
theorem k_X5_bringBack_8 : look a_X5_bringBack 8 = vZret := rfl
theorem k_X5_bringBack_9 : look a_X5_bringBack 9 = vAload 1 10 := rfl
theorem k_X5_bringBack_10 : look a_X5_bringBack 10 = vAload 0 11 := rfl
theorem k_X5_bringBack_11 : look a_X5_bringBack 11 = vGetR TT 21 5 8 14 := rfl
theorem k_X5_bringBack_14 : look a_X5_bringBack 14 = vI 0 15 := rfl
theorem k_X5_bringBack_15 : look a_X5_bringBack 15 = vCallMV w_X0_loadFrom 16 2 18 := rfl
theorem k_X5_bringBack_18 : look a_X5_bringBack 18 = vAload 0 19 := rfl
theorem k_X5_bringBack_19 : look a_X5_bringBack 19 = vGetR TT 21 6 8 22 := rfl
theorem k_X5_bringBack_22 : look a_X5_bringBack 22 = vI 0 23 := rfl
theorem k_X5_bringBack_23 : look a_X5_bringBack 23 = vAload 0 24 := rfl
theorem k_X5_bringBack_24 : look a_X5_bringBack 24 = vGetR TT 21 0 8 27 := rfl
theorem k_X5_bringBack_27 : look a_X5_bringBack 27 = vI 0 28 := rfl
theorem k_X5_bringBack_28 : look a_X5_bringBack 28 = vI 60 30 := rfl
theorem k_X5_bringBack_30 : look a_X5_bringBack 30 = vCopy TT 33 := rfl
theorem k_X5_bringBack_33 : look a_X5_bringBack 33 = vAload 0 34 := rfl
theorem k_X5_bringBack_34 : look a_X5_bringBack 34 = vAload 0 35 := rfl
theorem k_X5_bringBack_35 : look a_X5_bringBack 35 = vGetI 21 7 38 := rfl
theorem k_X5_bringBack_38 : look a_X5_bringBack 38 = vPutI 21 1 41 := rfl
theorem k_X5_bringBack_41 : look a_X5_bringBack 41 = vAload 0 42 := rfl
theorem k_X5_bringBack_42 : look a_X5_bringBack 42 = vI 0 43 := rfl
theorem k_X5_bringBack_43 : look a_X5_bringBack 43 = vPutI 21 3 46 := rfl
theorem k_X5_bringBack_46 : look a_X5_bringBack 46 = vI 1 47 := rfl
theorem k_X5_bringBack_47 : look a_X5_bringBack 47 = vZret := rfl
theorem o_X5_bringBack {X : amX} (e1 : XT X = TT) (e2 : XD X = 2) (hB : amB X RX5 cX5_bringBack (some .boolean) 2) : ∀ pc, amOK X pc (look a_X5_bringBack pc) := by
  have hT : amTok (XT X) := e1 ▸ TT_ok
  refine look_ok ?_
  unfold a_X5_bringBack
  refine fc (ok_aload_n hB dX5_bringBack_0) ?_
  refine fc (ok_getI hB hT fl_X5_39 rfl rfl (Or.inr af_5_8) dX5_bringBack_1) ?_
  refine fc (ok_if_ne hB (t := 9) (by decide) dX5_bringBack_4) ?_
  refine fc (ok_iconst hB dX5_bringBack_7) ?_
  refine fc (ok_zret hB dX5_bringBack_8) ?_
  refine fc (ok_aload_n hB dX5_bringBack_9) ?_
  refine fc (ok_aload_n hB dX5_bringBack_10) ?_
  refine fc (okt_getR e1 hB hT fl_X5_30 rfl af_5_5 at_5_5 (by decide) dX5_bringBack_11) ?_
  refine fc (ok_iconst hB dX5_bringBack_14) ?_
  refine fc (ok_callMV hB hT (e1 ▸ s_X0_loadFrom) lk_X5_53 (by rw [e2]; decide) (c := 0) rfl rfl rfl wd_923 wd_924 dX5_bringBack_15) ?_
  refine fc (ok_aload_n hB dX5_bringBack_18) ?_
  refine fc (okt_getR e1 hB hT fl_X5_33 rfl af_5_6 at_5_6 (by decide) dX5_bringBack_19) ?_
  refine fc (ok_iconst hB dX5_bringBack_22) ?_
  refine fc (ok_aload_n hB dX5_bringBack_23) ?_
  refine fc (okt_getR e1 hB hT fl_X5_13 rfl af_5_0 at_5_0 (by decide) dX5_bringBack_24) ?_
  refine fc (ok_iconst hB dX5_bringBack_27) ?_
  refine fc (ok_bipush hB dX5_bringBack_28 (by decide)) ?_
  refine fc (okt_copy e1 hB (by rw [e2]; decide) wd_1215 wd_663 wd_662 wd_20 dX5_bringBack_30) ?_
  refine fc (ok_aload_n hB dX5_bringBack_33) ?_
  refine fc (ok_aload_n hB dX5_bringBack_34) ?_
  refine fc (ok_getI hB hT fl_X5_36 rfl rfl (Or.inl af_5_7) dX5_bringBack_35) ?_
  refine fc (ok_putI hB hT fp_X5_17 rfl rfl rfl af_5_1 dX5_bringBack_38) ?_
  refine fc (ok_aload_n hB dX5_bringBack_41) ?_
  refine fc (ok_iconst hB dX5_bringBack_42) ?_
  refine fc (ok_putI hB hT fp_X5_24 rfl rfl rfl af_5_3 dX5_bringBack_43) ?_
  refine fc (ok_iconst hB dX5_bringBack_46) ?_
  refine fc (ok_zret hB dX5_bringBack_47) ?_
  exact fn

def w_X5_bringBack : WP := fun av σ Q => ∃ (a : Int), av = [(21, 31), (16, a)] ∧ (a = 16 ∧ (σ 31 8 = 0 ∨ σ 31 8 = 1) ∧ (if σ 31 8 = 0 then Q (0, 0) σ else Q (0, 1) (up (up (cpy (setAud σ 16 (fun k => σ 34 (0 + k))) 35 0 32 0 60) 31 1 (σ 31 7)) 31 3 0)))
theorem w_X5_bringBack_e (a : Int) (σ : Mem) (Q : AV → Mem → Prop) : w_X5_bringBack [(21, 31), (16, a)] σ Q = (a = 16 ∧ (σ 31 8 = 0 ∨ σ 31 8 = 1) ∧ (if σ 31 8 = 0 then Q (0, 0) σ else Q (0, 1) (up (up (cpy (setAud σ 16 (fun k => σ 34 (0 + k))) 35 0 32 0 60) 31 1 (σ 31 7)) 31 3 0))) := by
  apply propext; constructor
  · rintro ⟨a', h9, hb9⟩; cases h9; exact hb9
  · intro hb9; exact ⟨a, rfl, hb9⟩

set_option maxRecDepth 100000 in
set_option maxHeartbeats 4000000 in
theorem s_X5_bringBack : ∀ av σ Q, w_X5_bringBack av σ Q → amCall 2 0 0 TT yX5_bringBack cX5_bringBack 2 (some .boolean) av σ Q := by
  rintro av σ Q ⟨a, rfl, rfl, h0, h⟩
  refine am_m0 (own := RX5) (A := look a_X5_bringBack) (fun X e1 e2 hB => o_X5_bringBack e1 e2 hB) rfl (by decide +kernel) rfl rfl 80 (w := 2) ?_
  change vcs _ _ _ _ 80 0 [(21, 31), (16, 16)] [] σ
  simp only [vSw2_e, swP_n, swP_c, vI_e, vL_e, vNull_e, vIload_e, vLload_e, vAload_e, vIstore_e, vLstore_e, vAstore_e, vIinc_e, vIadd_e, vIsub_e, vImul_e, vIand_e, vIor_e, vIxor_e, vIshl_e, vIshr_e, vIushr_e, vIdiv_e, vIrem_e, vLadd_e, vLsub_e, vLmul_e, vLand_e, vLor_e, vLxor_e, vLdiv_e, vLrem_e, vLushr_e, vLshl_e, vLcmp_e, vIneg_e, vI2l_e, vL2i_e, vI2b_e, vI2c_e, vDup_e, vPop_e, vDup2_e, vGoto_e, vIcEq_e, vIfEq_e, vIcNe_e, vIfNe_e, vIcLt_e, vIfLt_e, vIcGe_e, vIfGe_e, vIcGt_e, vIfGt_e, vIcLe_e, vIfLe_e, vNonnull_e, vSw_e, vGetI_e, vGetL_e, vGetR_e, vPutI_e, vPutZ_e, vPutL_e, vPutR_e, vIald_e, vIald_s, vLald_e, vBald_e, vBald_s, vAald_e, vIast_e, vLast_e, vBast_e, vAast_e, vAlen_e8, vAlen_e9, vAlen_e10, vAlen_e11, vAlen_e5, vAlen_e3, vGets_e, vCompact_e, vLdcS_e, vIret_e, vZret_e, vCret_e, vBret_e, vLret_e, vVret_e, vAret_e, vCallM_e0, vCallMV_e0, vCallS_e0, vCallSV_e0, vCallM_e1, vCallMV_e1, vCallS_e1, vCallSV_e1, vCallM_e2, vCallMV_e2, vCallS_e2, vCallSV_e2, vCallM_e3, vCallMV_e3, vCallS_e3, vCallSV_e3, vCallM_e4, vCallMV_e4, vCallS_e4, vCallSV_e4, vCallM_e5, vCallMV_e5, vCallS_e5, vCallSV_e5, vCallM_e6, vCallMV_e6, vCallS_e6, vCallSV_e6, vCallM_e7, vCallMV_e7, vCallS_e7, vCallSV_e7, vBad_e, vStrVal_e, vStrCod_e, vForm_e, vCallT_e0, vCallT_e1, vCallT_e2, vCopy_e, rf_0_0, rf_0_1, rf_0_2, rf_0_3, rf_0_4, rf_0_7, rf_0_10, rf_0_11, rf_0_12, rf_0_13, rf_0_14, rf_0_15, rf_0_16, rf_1_0, rf_3_0, rf_3_1, rf_6_0, rf_6_1, rf_9_0, rf_9_1, rf_9_3, rf_13_0, rf_13_1, rf_13_2, rf_16_0, rf_16_1, rf_16_2, rf_16_3, rf_21_0, rf_21_1, rf_21_2, rf_21_3, rf_26_0, rf_26_1, rf_26_2, rf_26_3, rf_26_4, rf_26_5, rf_26_6, rf_31_0, rf_31_2, rf_31_5, rf_31_6, rf_36_0, rf_36_1, rf_36_2, rf_36_3, rf_39_0, rf_39_1, rf_39_2, rf_41_0, rf_41_1, rf_41_2, rf_41_3, rf_5000_1, rf_5000_2, rf_5000_3, rf_5000_4, rf_5000_5, rf_5000_15, rf_5000_16, rf_5000_18, rf_5000_19, rf_5000_20, rf_5000_21, rf_5000_22, rf_5000_23, rf_5000_24, rf_5000_25, rf_5000_26, rf_5000_27, rf_5000_36, rf_5000_37, rf_5000_40, rf_5000_41, rf_5000_42, rf_5000_43, rf_5000_44, rf_5000_45, rf_5000_47, rf_5000_52, rf_5000_54, rf_5000_55, rf_100_0, rf_100_1, rf_103_0, rf_103_1, rf_106_0, rf_106_1, rf_109_0, rf_109_1, al_2, al_4, al_5, al_7, al_8, al_10, al_11, al_12, al_14, al_15, al_17, al_18, al_19, al_20, al_22, al_23, al_24, al_25, al_27, al_28, al_29, al_30, al_32, al_33, al_34, al_35, al_37, al_38, al_40, al_42, al_5001, al_5002, al_5003, al_5004, al_5005, al_5006, al_5007, al_5008, al_5009, al_5010, al_5011, al_5012, al_5013, al_5014, al_5015, al_5016, al_5017, al_5018, al_5019, al_5020, al_5021, al_5022, al_5023, al_5024, al_5025, al_5026, al_9000, al_101, al_102, al_104, al_105, al_107, al_108, al_110, al_111, vcs_e, lg_c0, lg_cs, lg_nil, set_c0, set_cs, okst_0, okst_s, acok_n, acok_c, List.contains_nil, List.contains_cons, Bool.or_false, Bool.false_or, Bool.false_eq_true, if_false, if_true, ite_self, ne_eq, true_and, and_true, not_false_eq_true, not_true_eq_false, false_imp_iff, true_imp_iff, Nat.ble_eq, Bool.and_eq_true, reduceCtorEq, or_false, false_or, or_true, true_or, false_and, and_false, and_self, Int.reduceLE, Int.reduceAdd, Int.reduceSub, Int.reduceMul, Int.reduceNeg, Int.reduceLT, Int.reduceEq, Int.reduceNe, Nat.reduceBEq, Nat.reduceBNe, Nat.reduceEqDiff, amCmp_in, amCmp_lt, amCmp_le, amCmp_gt, amCmp_ge, amCmp_eq, amCmp_ne, Nat.reduceLeDiff, Nat.reduceSub, Bool.and_true, Bool.true_and, Bool.and_self, Bool.or_true, Bool.true_or, isRf_3, isRf_4, isRf_5, isRf_8, isRf_9, isRf_10, isRf_11, isRf_15, isRf_16, isRf_17, isRf_18, isRf_19, isRf_20, isRf_21, isRf_22, isRf_23, isRf_24, isRf_25, isRf_26, isRf_27, isRf_28, k_X5_bringBack_0, k_X5_bringBack_1, k_X5_bringBack_4, k_X5_bringBack_7, k_X5_bringBack_8, k_X5_bringBack_9, k_X5_bringBack_10, k_X5_bringBack_11, k_X5_bringBack_14, k_X5_bringBack_15, k_X5_bringBack_18, k_X5_bringBack_19, k_X5_bringBack_22, k_X5_bringBack_23, k_X5_bringBack_24, k_X5_bringBack_27, k_X5_bringBack_28, k_X5_bringBack_30, k_X5_bringBack_33, k_X5_bringBack_34, k_X5_bringBack_35, k_X5_bringBack_38, k_X5_bringBack_41, k_X5_bringBack_42, k_X5_bringBack_43, k_X5_bringBack_46, k_X5_bringBack_47, w_X0_loadFrom_e, up_s, up_nj, up_na, up_up, savR_o, cpy_o, fillm_o, setAud_o, setv_o, setv_s, Int.reduceNe, Int.reduceEq, Int.reduceLT, Int.reduceAdd, not_false_eq_true, ne_eq, or_true, true_or]
  split at h
  · repeat' (first | assumption | apply And.intro | intro _)
    all_goals first | omega | exact h
  · repeat' (first | assumption | apply And.intro | intro _)
    all_goals first | omega | exact h
