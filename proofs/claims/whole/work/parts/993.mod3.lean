/-! the reference: ACTS that can be -/

theorem wd_1312 : Cond.fieldLink RX12 306 "ArmchairHouseModel" "lawMany" "I" ∈ TBL := tb_tab (List.mem_of_getElem? (i := 1312) (by decide +kernel)) rfl
theorem fl_X12_306 : amFl RX12 12 7 306 RX12 TX12 57 := ⟨rfl, inT_12, by decide, wd_1312⟩
theorem wd_1343 : Cond.fieldLink RX12 73 "ArmchairHouseModel" "law" "I" ∈ TBL := tb_tab (List.mem_of_getElem? (i := 1343) (by decide +kernel)) rfl
theorem fl_X12_73 : amFl RX12 12 38 73 RX12 TX12 57 := ⟨rfl, inT_12, by decide, wd_1343⟩
theorem fp_X12_73 : amFp RX12 12 38 73 RX12 TX12 57 tyX12 .int := ⟨fl_X12_73, tyX12_ok, nmX12, by decide +kernel⟩
def a_X12_law : AC := [(0, vAload 0 1), (1, vI 0 2), (2, vPutI 28 0 5), (5, vIload 1 6), (6, vI (-1) 7), (7, vIcEq 28 10), (10, vIload 1 11), (11, vI2l 12), (12, vL 0 13), (13, vAload 0 14), (14, vGetI 28 7 17), (17, vI 1 18), (18, vIsub 19), (19, vI2l 20), (20, vCallS w_X12_isIn 3 23), (23, vIfNe 28 26), (26, vI 0 27), (27, vZret), (28, vAload 0 29), (29, vIload 1 30), (30, vPutI 28 38 33), (33, vI 1 34), (34, vZret)]
theorem k_X12_law_0 : look a_X12_law 0 = vAload 0 1 := rfl
theorem k_X12_law_1 : look a_X12_law 1 = vI 0 2 := rfl
theorem k_X12_law_2 : look a_X12_law 2 = vPutI 28 0 5 := rfl
theorem k_X12_law_5 : look a_X12_law 5 = vIload 1 6 := rfl
theorem k_X12_law_6 : look a_X12_law 6 = vI (-1) 7 := rfl
theorem k_X12_law_7 : look a_X12_law 7 = vIcEq 28 10 := rfl
theorem k_X12_law_10 : look a_X12_law 10 = vIload 1 11 := rfl
theorem k_X12_law_11 : look a_X12_law 11 = vI2l 12 := rfl
theorem k_X12_law_12 : look a_X12_law 12 = vL 0 13 := rfl
theorem k_X12_law_13 : look a_X12_law 13 = vAload 0 14 := rfl
theorem k_X12_law_14 : look a_X12_law 14 = vGetI 28 7 17 := rfl
theorem k_X12_law_17 : look a_X12_law 17 = vI 1 18 := rfl
theorem k_X12_law_18 : look a_X12_law 18 = vIsub 19 := rfl
theorem k_X12_law_19 : look a_X12_law 19 = vI2l 20 := rfl
theorem k_X12_law_20 : look a_X12_law 20 = vCallS w_X12_isIn 3 23 := rfl
theorem k_X12_law_23 : look a_X12_law 23 = vIfNe 28 26 := rfl
theorem k_X12_law_26 : look a_X12_law 26 = vI 0 27 := rfl
theorem k_X12_law_27 : look a_X12_law 27 = vZret := rfl
theorem k_X12_law_28 : look a_X12_law 28 = vAload 0 29 := rfl
theorem k_X12_law_29 : look a_X12_law 29 = vIload 1 30 := rfl
theorem k_X12_law_30 : look a_X12_law 30 = vPutI 28 38 33 := rfl
theorem k_X12_law_33 : look a_X12_law 33 = vI 1 34 := rfl
theorem k_X12_law_34 : look a_X12_law 34 = vZret := rfl
theorem o_X12_law {X : amX} (e1 : XT X = TT) (e2 : XD X = 1) (hB : amB X RX12 cX12_law (some .boolean) 2) : ∀ pc, amOK X pc (look a_X12_law pc) := by
  have hT : amTok (XT X) := e1 ▸ TT_ok
  refine look_ok ?_
  unfold a_X12_law
  refine fc (ok_aload_n hB dX12_law_0) ?_
  refine fc (ok_iconst hB dX12_law_1) ?_
  refine fc (ok_putI hB hT fp_X12_111 rfl rfl rfl af_12_0 dX12_law_2) ?_
  refine fc (ok_iload_n hB dX12_law_5) ?_
  refine fc (ok_iconst hB dX12_law_6) ?_
  refine fc (ok_icmp_eq hB (t := 28) (by decide) dX12_law_7) ?_
  refine fc (ok_iload_n hB dX12_law_10) ?_
  refine fc (ok_i2l hB dX12_law_11) ?_
  refine fc (ok_lconst hB (z := 0) (by decide) dX12_law_12) ?_
  refine fc (ok_aload_n hB dX12_law_13) ?_
  refine fc (ok_getI hB hT fl_X12_306 rfl rfl (Or.inl af_12_7) dX12_law_14) ?_
  refine fc (ok_iconst hB dX12_law_17) ?_
  refine fc (ok_isub hB dX12_law_18) ?_
  refine fc (ok_i2l hB dX12_law_19) ?_
  refine fc (ok_callS hB (e1 ▸ s_X12_isIn) lk_X12_232 (by rw [e2]; decide) wd_1502 dX12_law_20) ?_
  refine fc (ok_if_ne hB (t := 28) (by decide) dX12_law_23) ?_
  refine fc (ok_iconst hB dX12_law_26) ?_
  refine fc (ok_zret hB dX12_law_27) ?_
  refine fc (ok_aload_n hB dX12_law_28) ?_
  refine fc (ok_iload_n hB dX12_law_29) ?_
  refine fc (ok_putI hB hT fp_X12_73 rfl rfl rfl af_12_38 dX12_law_30) ?_
  refine fc (ok_iconst hB dX12_law_33) ?_
  refine fc (ok_zret hB dX12_law_34) ?_
  exact fn

def w_X12_law : WP := fun av σ Q => ∃ (v : Int), av = [(28, 5000), (0, v)] ∧ (InR v ∧ 0 ≤ σ 5000 7 ∧ σ 5000 7 ≤ 4 ∧ (v < -1 ∨ σ 5000 7 ≤ v → Q (0, 0) (th0 σ)) ∧ (-1 ≤ v → v < σ 5000 7 → Q (0, 1) (up (th0 σ) 5000 38 v)))
theorem w_X12_law_e (v : Int) (σ : Mem) (Q : AV → Mem → Prop) : w_X12_law [(28, 5000), (0, v)] σ Q = (InR v ∧ 0 ≤ σ 5000 7 ∧ σ 5000 7 ≤ 4 ∧ (v < -1 ∨ σ 5000 7 ≤ v → Q (0, 0) (th0 σ)) ∧ (-1 ≤ v → v < σ 5000 7 → Q (0, 1) (up (th0 σ) 5000 38 v))) := by
  apply propext; constructor
  · rintro ⟨v', h9, hb9⟩; cases h9; exact hb9
  · intro hb9; exact ⟨v, rfl, hb9⟩

set_option maxRecDepth 100000 in
set_option maxHeartbeats 4000000 in
theorem s_X12_law : ∀ av σ Q, w_X12_law av σ Q → amCall 1 0 0 TT yX12_law cX12_law 2 (some .boolean) av σ Q := by
  rintro av σ Q ⟨v, rfl, hv, c0, c1, h1, h2⟩
  refine am_m0 (own := RX12) (A := look a_X12_law) (fun X e1 e2 hB => o_X12_law e1 e2 hB) rfl (by decide +kernel) rfl rfl 190 (w := 2) ?_
  change vcs _ _ _ _ 190 0 [(28, 5000), (0, v)] [] σ
  simp only [↓reduceIte, inR_0, inR_1, inR_m, vSw2_e, swP_n, swP_c, vI_e, vL_e, vNull_e, vIload_e, vLload_e, vAload_e, vIstore_e, vLstore_e, vAstore_e, vIinc_e, vIadd_e, vIsub_e, vImul_e, vIand_e, vIor_e, vIxor_e, vIshl_e, vIshr_e, vIushr_e, vIdiv_e, vIrem_e, vLadd_e, vLsub_e, vLmul_e, vLand_e, vLor_e, vLxor_e, vLdiv_e, vLrem_e, vLushr_e, vLshl_e, vLcmp_e, vIneg_e, vI2l_e, vL2i_e, vI2b_e, vI2c_e, vDup_e, vPop_e, vDup2_e, vGoto_e, vIcEq_e, vIfEq_e, vIcNe_e, vIfNe_e, vIcLt_e, vIfLt_e, vIcGe_e, vIfGe_e, vIcGt_e, vIfGt_e, vIcLe_e, vIfLe_e, vNonnull_e, vSw_e, vGetI_e, vGetL_e, vGetR_e, vPutI_e, vPutZ_e, vPutL_e, vPutR_e, vIald_e, vIald_s, vLald_e, vBald_e, vBald_s, vAald_e, vIast_e, vLast_e, vBast_e, vAast_e, vAlen_e8, vAlen_e9, vAlen_e10, vAlen_e11, vAlen_e5, vAlen_e3, vGets_e, vCompact_e, vLdcS_e, vIret_e, vZret_e, vCret_e, vBret_e, vLret_e, vVret_e, vAret_e, vCallM_e0, vCallMV_e0, vCallS_e0, vCallSV_e0, vCallM_e1, vCallMV_e1, vCallS_e1, vCallSV_e1, vCallM_e2, vCallMV_e2, vCallS_e2, vCallSV_e2, vCallM_e3, vCallMV_e3, vCallS_e3, vCallSV_e3, vCallM_e4, vCallMV_e4, vCallS_e4, vCallSV_e4, vCallM_e5, vCallMV_e5, vCallS_e5, vCallSV_e5, vCallM_e6, vCallMV_e6, vCallS_e6, vCallSV_e6, vCallM_e7, vCallMV_e7, vCallS_e7, vCallSV_e7, vBad_e, vStrVal_e, vStrCod_e, vForm_e, vCallT_e0, vCallT_e1, vCallT_e2, vCopy_e, rf_0_0, rf_0_1, rf_0_2, rf_0_3, rf_0_4, rf_0_7, rf_0_10, rf_0_11, rf_0_12, rf_0_13, rf_0_14, rf_0_15, rf_0_16, rf_1_0, rf_3_0, rf_3_1, rf_6_0, rf_6_1, rf_9_0, rf_9_1, rf_9_3, rf_13_0, rf_13_1, rf_13_2, rf_16_0, rf_16_1, rf_16_2, rf_16_3, rf_21_0, rf_21_1, rf_21_2, rf_21_3, rf_26_0, rf_26_1, rf_26_2, rf_26_3, rf_26_4, rf_26_5, rf_26_6, rf_31_0, rf_31_2, rf_31_5, rf_31_6, rf_36_0, rf_36_1, rf_36_2, rf_36_3, rf_39_0, rf_39_1, rf_39_2, rf_41_0, rf_41_1, rf_41_2, rf_41_3, rf_5000_1, rf_5000_2, rf_5000_3, rf_5000_4, rf_5000_5, rf_5000_15, rf_5000_16, rf_5000_18, rf_5000_19, rf_5000_20, rf_5000_21, rf_5000_22, rf_5000_23, rf_5000_24, rf_5000_25, rf_5000_26, rf_5000_27, rf_5000_36, rf_5000_37, rf_5000_40, rf_5000_41, rf_5000_42, rf_5000_43, rf_5000_44, rf_5000_45, rf_5000_47, rf_5000_52, rf_5000_54, rf_5000_55, rf_100_0, rf_100_1, rf_103_0, rf_103_1, rf_106_0, rf_106_1, rf_109_0, rf_109_1, al_2, al_4, al_5, al_7, al_8, al_10, al_11, al_12, al_14, al_15, al_17, al_18, al_19, al_20, al_22, al_23, al_24, al_25, al_27, al_28, al_29, al_30, al_32, al_33, al_34, al_35, al_37, al_38, al_40, al_42, al_5001, al_5002, al_5003, al_5004, al_5005, al_5006, al_5007, al_5008, al_5009, al_5010, al_5011, al_5012, al_5013, al_5014, al_5015, al_5016, al_5017, al_5018, al_5019, al_5020, al_5021, al_5022, al_5023, al_5024, al_5025, al_5026, al_9000, al_101, al_102, al_104, al_105, al_107, al_108, al_110, al_111, vcs_e, lg_c0, lg_cs, lg_nil, set_c0, set_cs, okst_0, okst_s, acok_n, acok_c, List.contains_nil, List.contains_cons, Bool.or_false, Bool.false_or, Bool.false_eq_true, if_false, if_true, ite_self, ne_eq, true_and, and_true, not_false_eq_true, not_true_eq_false, false_imp_iff, true_imp_iff, Nat.ble_eq, Bool.and_eq_true, reduceCtorEq, or_false, false_or, or_true, true_or, false_and, and_false, and_self, Int.reduceLE, Int.reduceAdd, Int.reduceSub, Int.reduceMul, Int.reduceNeg, Int.reduceLT, Int.reduceEq, Int.reduceNe, Nat.reduceBEq, Nat.reduceBNe, Nat.reduceEqDiff, amCmp_in, amCmp_lt, amCmp_le, amCmp_gt, amCmp_ge, amCmp_eq, amCmp_ne, Nat.reduceLeDiff, Nat.reduceSub, Bool.and_true, Bool.true_and, Bool.and_self, Bool.or_true, Bool.true_or, isRf_3, isRf_4, isRf_5, isRf_8, isRf_9, isRf_10, isRf_11, isRf_15, isRf_16, isRf_17, isRf_18, isRf_19, isRf_20, isRf_21, isRf_22, isRf_23, isRf_24, isRf_25, isRf_26, isRf_27, isRf_28, k_X12_law_0, k_X12_law_1, k_X12_law_2, k_X12_law_5, k_X12_law_6, k_X12_law_7, k_X12_law_10, k_X12_law_11, k_X12_law_12, k_X12_law_13, k_X12_law_14, k_X12_law_17, k_X12_law_18, k_X12_law_19, k_X12_law_20, k_X12_law_23, k_X12_law_26, k_X12_law_27, k_X12_law_28, k_X12_law_29, k_X12_law_30, k_X12_law_33, k_X12_law_34, w_X12_isIn_e, up_s, up_nj, up_na, up_up, savR_o, cpy_o, fillm_o, setAud_o, setv_o, setv_s, Int.reduceNe, Int.reduceEq, Int.reduceLT, Int.reduceAdd, not_false_eq_true, ne_eq, or_true, true_or]
  by_cases c : 0 ≤ v ∧ v ≤ σ 5000 7 - 1
  · rw [if_pos c]
    repeat' (first | assumption | apply And.intro | intro _)
    all_goals first | omega | exact absurd trivial (by assumption) | exact h1 (by omega) | exact h2 (by omega) (by omega)
  · rw [if_neg c]
    repeat' (first | assumption | apply And.intro | intro _)
    all_goals first | omega | exact absurd trivial (by assumption) | exact h1 (by omega) | exact h2 (by omega) (by omega)
def a_X12_canPlay : AC := [(0, vAload 0 1), (1, vIload 2 2), (2, vCallM w_X12_isPlay 28 1 5), (5, vIfEq 22 8), (8, vAload 1 9), (9, vI 26 11), (11, vIald TT 12), (12, vI 999 15), (15, vIcGe 22 18), (18, vI 1 19), (19, vGoto 23), (22, vI 0 23), (23, vZret)]
theorem k_X12_canPlay_0 : look a_X12_canPlay 0 = vAload 0 1 := rfl
theorem k_X12_canPlay_1 : look a_X12_canPlay 1 = vIload 2 2 := rfl
theorem k_X12_canPlay_2 : look a_X12_canPlay 2 = vCallM w_X12_isPlay 28 1 5 := rfl
theorem k_X12_canPlay_5 : look a_X12_canPlay 5 = vIfEq 22 8 := rfl
theorem k_X12_canPlay_8 : look a_X12_canPlay 8 = vAload 1 9 := rfl
theorem k_X12_canPlay_9 : look a_X12_canPlay 9 = vI 26 11 := rfl
theorem k_X12_canPlay_11 : look a_X12_canPlay 11 = vIald TT 12 := rfl
theorem k_X12_canPlay_12 : look a_X12_canPlay 12 = vI 999 15 := rfl
theorem k_X12_canPlay_15 : look a_X12_canPlay 15 = vIcGe 22 18 := rfl
theorem k_X12_canPlay_18 : look a_X12_canPlay 18 = vI 1 19 := rfl
theorem k_X12_canPlay_19 : look a_X12_canPlay 19 = vGoto 23 := rfl
theorem k_X12_canPlay_22 : look a_X12_canPlay 22 = vI 0 23 := rfl
theorem k_X12_canPlay_23 : look a_X12_canPlay 23 = vZret := rfl
theorem o_X12_canPlay {X : amX} (e1 : XT X = TT) (e2 : XD X = 1) (hB : amB X RX12 cX12_canPlay (some .boolean) 3) : ∀ pc, amOK X pc (look a_X12_canPlay pc) := by
  have hT : amTok (XT X) := e1 ▸ TT_ok
  refine look_ok ?_
  unfold a_X12_canPlay
  refine fc (ok_aload_n hB dX12_canPlay_0) ?_
  refine fc (ok_iload_n hB dX12_canPlay_1) ?_
  refine fc (ok_callM hB hT (e1 ▸ s_X12_isPlay) lk_X12_366 (by rw [e2]; decide) (c := 12) rfl rfl rfl wd_1652 sl_X12_isPlay dX12_canPlay_2) ?_
  refine fc (ok_if_eq hB (t := 22) (by decide) dX12_canPlay_5) ?_
  refine fc (ok_aload_n hB dX12_canPlay_8) ?_
  refine fc (ok_bipush hB dX12_canPlay_9 (by decide)) ?_
  refine fc (okt_iaload e1 hB dX12_canPlay_11) ?_
  refine fc (ok_sipush hB dX12_canPlay_12 (by decide)) ?_
  refine fc (ok_icmp_ge hB (t := 22) (by decide) dX12_canPlay_15) ?_
  refine fc (ok_iconst hB dX12_canPlay_18) ?_
  refine fc (ok_goto hB (t := 23) (by decide) dX12_canPlay_19) ?_
  refine fc (ok_iconst hB dX12_canPlay_22) ?_
  refine fc (ok_zret hB dX12_canPlay_23) ?_
  exact fn

def w_X12_canPlay : WP := fun av σ Q => ∃ (a : Int) (p : Int), av = [(28, 5000), (8, a), (0, p)] ∧ ((a = 5015 ∨ a = 5016) ∧ InR p ∧ InR (σ 5000 28) ∧ InR (σ a 26) ∧ Q (0, if 0 ≤ p ∧ p < σ 5000 28 ∧ σ a 26 < 999 then 1 else 0) σ)
theorem w_X12_canPlay_e (a : Int) (p : Int) (σ : Mem) (Q : AV → Mem → Prop) : w_X12_canPlay [(28, 5000), (8, a), (0, p)] σ Q = ((a = 5015 ∨ a = 5016) ∧ InR p ∧ InR (σ 5000 28) ∧ InR (σ a 26) ∧ Q (0, if 0 ≤ p ∧ p < σ 5000 28 ∧ σ a 26 < 999 then 1 else 0) σ) := by
  apply propext; constructor
  · rintro ⟨a', p', h9, hb9⟩; cases h9; exact hb9
  · intro hb9; exact ⟨a, p, rfl, hb9⟩

set_option maxRecDepth 100000 in
set_option maxHeartbeats 4000000 in
theorem s_X12_canPlay : ∀ av σ Q, w_X12_canPlay av σ Q → amCall 1 0 0 TT yX12_canPlay cX12_canPlay 3 (some .boolean) av σ Q := by
  rintro av σ Q ⟨a, p, rfl, ha, hp, hc, he, h⟩
  have al : alen TT σ a = 208 := by rcases ha with rfl | rfl <;> rfl
  have a0 : 0 ≤ a := by omega
  refine am_m0 (own := RX12) (A := look a_X12_canPlay) (fun X e1 e2 hB => o_X12_canPlay e1 e2 hB) rfl (by decide +kernel) rfl rfl 190 (w := 3) ?_
  change vcs _ _ _ _ 190 0 [(28, 5000), (8, a), (0, p)] [] σ
  simp only [↓reduceIte, inR_0, inR_1, inR_m, vSw2_e, swP_n, swP_c, vI_e, vL_e, vNull_e, vIload_e, vLload_e, vAload_e, vIstore_e, vLstore_e, vAstore_e, vIinc_e, vIadd_e, vIsub_e, vImul_e, vIand_e, vIor_e, vIxor_e, vIshl_e, vIshr_e, vIushr_e, vIdiv_e, vIrem_e, vLadd_e, vLsub_e, vLmul_e, vLand_e, vLor_e, vLxor_e, vLdiv_e, vLrem_e, vLushr_e, vLshl_e, vLcmp_e, vIneg_e, vI2l_e, vL2i_e, vI2b_e, vI2c_e, vDup_e, vPop_e, vDup2_e, vGoto_e, vIcEq_e, vIfEq_e, vIcNe_e, vIfNe_e, vIcLt_e, vIfLt_e, vIcGe_e, vIfGe_e, vIcGt_e, vIfGt_e, vIcLe_e, vIfLe_e, vNonnull_e, vSw_e, vGetI_e, vGetL_e, vGetR_e, vPutI_e, vPutZ_e, vPutL_e, vPutR_e, vIald_e, vIald_s, vLald_e, vBald_e, vBald_s, vAald_e, vIast_e, vLast_e, vBast_e, vAast_e, vAlen_e8, vAlen_e9, vAlen_e10, vAlen_e11, vAlen_e5, vAlen_e3, vGets_e, vCompact_e, vLdcS_e, vIret_e, vZret_e, vCret_e, vBret_e, vLret_e, vVret_e, vAret_e, vCallM_e0, vCallMV_e0, vCallS_e0, vCallSV_e0, vCallM_e1, vCallMV_e1, vCallS_e1, vCallSV_e1, vCallM_e2, vCallMV_e2, vCallS_e2, vCallSV_e2, vCallM_e3, vCallMV_e3, vCallS_e3, vCallSV_e3, vCallM_e4, vCallMV_e4, vCallS_e4, vCallSV_e4, vCallM_e5, vCallMV_e5, vCallS_e5, vCallSV_e5, vCallM_e6, vCallMV_e6, vCallS_e6, vCallSV_e6, vCallM_e7, vCallMV_e7, vCallS_e7, vCallSV_e7, vBad_e, vStrVal_e, vStrCod_e, vForm_e, vCallT_e0, vCallT_e1, vCallT_e2, vCopy_e, rf_0_0, rf_0_1, rf_0_2, rf_0_3, rf_0_4, rf_0_7, rf_0_10, rf_0_11, rf_0_12, rf_0_13, rf_0_14, rf_0_15, rf_0_16, rf_1_0, rf_3_0, rf_3_1, rf_6_0, rf_6_1, rf_9_0, rf_9_1, rf_9_3, rf_13_0, rf_13_1, rf_13_2, rf_16_0, rf_16_1, rf_16_2, rf_16_3, rf_21_0, rf_21_1, rf_21_2, rf_21_3, rf_26_0, rf_26_1, rf_26_2, rf_26_3, rf_26_4, rf_26_5, rf_26_6, rf_31_0, rf_31_2, rf_31_5, rf_31_6, rf_36_0, rf_36_1, rf_36_2, rf_36_3, rf_39_0, rf_39_1, rf_39_2, rf_41_0, rf_41_1, rf_41_2, rf_41_3, rf_5000_1, rf_5000_2, rf_5000_3, rf_5000_4, rf_5000_5, rf_5000_15, rf_5000_16, rf_5000_18, rf_5000_19, rf_5000_20, rf_5000_21, rf_5000_22, rf_5000_23, rf_5000_24, rf_5000_25, rf_5000_26, rf_5000_27, rf_5000_36, rf_5000_37, rf_5000_40, rf_5000_41, rf_5000_42, rf_5000_43, rf_5000_44, rf_5000_45, rf_5000_47, rf_5000_52, rf_5000_54, rf_5000_55, rf_100_0, rf_100_1, rf_103_0, rf_103_1, rf_106_0, rf_106_1, rf_109_0, rf_109_1, al_2, al_4, al_5, al_7, al_8, al_10, al_11, al_12, al_14, al_15, al_17, al_18, al_19, al_20, al_22, al_23, al_24, al_25, al_27, al_28, al_29, al_30, al_32, al_33, al_34, al_35, al_37, al_38, al_40, al_42, al_5001, al_5002, al_5003, al_5004, al_5005, al_5006, al_5007, al_5008, al_5009, al_5010, al_5011, al_5012, al_5013, al_5014, al_5015, al_5016, al_5017, al_5018, al_5019, al_5020, al_5021, al_5022, al_5023, al_5024, al_5025, al_5026, al_9000, al_101, al_102, al_104, al_105, al_107, al_108, al_110, al_111, vcs_e, lg_c0, lg_cs, lg_nil, set_c0, set_cs, okst_0, okst_s, acok_n, acok_c, List.contains_nil, List.contains_cons, Bool.or_false, Bool.false_or, Bool.false_eq_true, if_false, if_true, ite_self, ne_eq, true_and, and_true, not_false_eq_true, not_true_eq_false, false_imp_iff, true_imp_iff, Nat.ble_eq, Bool.and_eq_true, reduceCtorEq, or_false, false_or, or_true, true_or, false_and, and_false, and_self, Int.reduceLE, Int.reduceAdd, Int.reduceSub, Int.reduceMul, Int.reduceNeg, Int.reduceLT, Int.reduceEq, Int.reduceNe, Nat.reduceBEq, Nat.reduceBNe, Nat.reduceEqDiff, amCmp_in, amCmp_lt, amCmp_le, amCmp_gt, amCmp_ge, amCmp_eq, amCmp_ne, Nat.reduceLeDiff, Nat.reduceSub, Bool.and_true, Bool.true_and, Bool.and_self, Bool.or_true, Bool.true_or, isRf_3, isRf_4, isRf_5, isRf_8, isRf_9, isRf_10, isRf_11, isRf_15, isRf_16, isRf_17, isRf_18, isRf_19, isRf_20, isRf_21, isRf_22, isRf_23, isRf_24, isRf_25, isRf_26, isRf_27, isRf_28, k_X12_canPlay_0, k_X12_canPlay_1, k_X12_canPlay_2, k_X12_canPlay_5, k_X12_canPlay_8, k_X12_canPlay_9, k_X12_canPlay_11, k_X12_canPlay_12, k_X12_canPlay_15, k_X12_canPlay_18, k_X12_canPlay_19, k_X12_canPlay_22, k_X12_canPlay_23, w_X12_isPlay_e, up_s, up_nj, up_na, up_up, savR_o, cpy_o, fillm_o, setAud_o, setv_o, setv_s, Int.reduceNe, Int.reduceEq, Int.reduceLT, Int.reduceAdd, not_false_eq_true, ne_eq, or_true, true_or, al, a0]
  by_cases c : 0 ≤ p ∧ p < σ 5000 28
  · rw [if_pos c]
    by_cases d : σ a 26 < 999
    · rw [if_pos ⟨c.1, c.2, d⟩] at h
      repeat' (first | assumption | apply And.intro | intro _)
      all_goals first | omega | exact absurd trivial (by assumption) | exact h
    · rw [if_neg (fun q => d q.2.2)] at h
      repeat' (first | assumption | apply And.intro | intro _)
      all_goals first | omega | exact absurd trivial (by assumption) | exact h
  · rw [if_neg c]
    rw [if_neg (fun q => c ⟨q.1, q.2.1⟩)] at h
    repeat' (first | assumption | apply And.intro | intro _)
    all_goals first | omega | exact absurd trivial (by assumption) | exact h
theorem wd_1667 : Cond.methodLink RX12 374 yX12_isSitter ∈ TBL := tb_tab (List.mem_of_getElem? (i := 1667) (by decide +kernel)) rfl
theorem wd_1670 : Cond.code yX12_isSitter cX12_isSitter 2 (some .boolean) ∈ TBL := tb_tab (List.mem_of_getElem? (i := 1670) (by decide +kernel)) rfl
theorem lk_X12_374 : amLk RX12 374 yX12_isSitter cX12_isSitter 2 (some .boolean) 1 := ⟨wd_1667, wd_12, wd_1670, by decide +kernel, by decide +kernel, by decide⟩
theorem wd_1669 : Cond.instanceMethod yX12_isSitter ∈ TBL := tb_tab (List.mem_of_getElem? (i := 1669) (by decide +kernel)) rfl
theorem sl_X12_isSitter : Cond.selects RX12 yX12_isSitter yX12_isSitter ∈ TBL := tb_sel (List.mem_of_getElem? (i := 74) (by decide +kernel)) rfl
theorem wd_1537 : Cond.methodLink RX12 244 yX12_has ∈ TBL := tb_tab (List.mem_of_getElem? (i := 1537) (by decide +kernel)) rfl
theorem wd_1539 : Cond.code yX12_has cX12_has 2 (some .boolean) ∈ TBL := tb_tab (List.mem_of_getElem? (i := 1539) (by decide +kernel)) rfl
theorem lk_X12_244 : amLk RX12 244 yX12_has cX12_has 2 (some .boolean) 2 := ⟨wd_1537, wd_12, wd_1539, by decide +kernel, by decide +kernel, by decide⟩
theorem wd_1538 : Cond.static yX12_has ∈ TBL := tb_tab (List.mem_of_getElem? (i := 1538) (by decide +kernel)) rfl
def a_X12_canFall : AC := [(0, vAload 0 1), (1, vIload 2 2), (2, vCallM w_X12_isSitter 28 1 5), (5, vIfEq 23 8), (8, vAload 1 9), (9, vI 24 11), (11, vIald TT 12), (12, vIload 2 13), (13, vCallS w_X12_has 2 16), (16, vIfNe 23 19), (19, vI 1 20), (20, vGoto 24), (23, vI 0 24), (24, vZret)]
theorem k_X12_canFall_0 : look a_X12_canFall 0 = vAload 0 1 := rfl
theorem k_X12_canFall_1 : look a_X12_canFall 1 = vIload 2 2 := rfl
theorem k_X12_canFall_2 : look a_X12_canFall 2 = vCallM w_X12_isSitter 28 1 5 := rfl
theorem k_X12_canFall_5 : look a_X12_canFall 5 = vIfEq 23 8 := rfl
theorem k_X12_canFall_8 : look a_X12_canFall 8 = vAload 1 9 := rfl
theorem k_X12_canFall_9 : look a_X12_canFall 9 = vI 24 11 := rfl
theorem k_X12_canFall_11 : look a_X12_canFall 11 = vIald TT 12 := rfl
theorem k_X12_canFall_12 : look a_X12_canFall 12 = vIload 2 13 := rfl
theorem k_X12_canFall_13 : look a_X12_canFall 13 = vCallS w_X12_has 2 16 := rfl
theorem k_X12_canFall_16 : look a_X12_canFall 16 = vIfNe 23 19 := rfl
theorem k_X12_canFall_19 : look a_X12_canFall 19 = vI 1 20 := rfl
theorem k_X12_canFall_20 : look a_X12_canFall 20 = vGoto 24 := rfl
theorem k_X12_canFall_23 : look a_X12_canFall 23 = vI 0 24 := rfl
theorem k_X12_canFall_24 : look a_X12_canFall 24 = vZret := rfl
theorem o_X12_canFall {X : amX} (e1 : XT X = TT) (e2 : XD X = 1) (hB : amB X RX12 cX12_canFall (some .boolean) 3) : ∀ pc, amOK X pc (look a_X12_canFall pc) := by
  have hT : amTok (XT X) := e1 ▸ TT_ok
  refine look_ok ?_
  unfold a_X12_canFall
  refine fc (ok_aload_n hB dX12_canFall_0) ?_
  refine fc (ok_iload_n hB dX12_canFall_1) ?_
  refine fc (ok_callM hB hT (e1 ▸ s_X12_isSitter) lk_X12_374 (by rw [e2]; decide) (c := 12) rfl rfl rfl wd_1669 sl_X12_isSitter dX12_canFall_2) ?_
  refine fc (ok_if_eq hB (t := 23) (by decide) dX12_canFall_5) ?_
  refine fc (ok_aload_n hB dX12_canFall_8) ?_
  refine fc (ok_bipush hB dX12_canFall_9 (by decide)) ?_
  refine fc (okt_iaload e1 hB dX12_canFall_11) ?_
  refine fc (ok_iload_n hB dX12_canFall_12) ?_
  refine fc (ok_callS hB (e1 ▸ s_X12_has) lk_X12_244 (by rw [e2]; decide) wd_1538 dX12_canFall_13) ?_
  refine fc (ok_if_ne hB (t := 23) (by decide) dX12_canFall_16) ?_
  refine fc (ok_iconst hB dX12_canFall_19) ?_
  refine fc (ok_goto hB (t := 24) (by decide) dX12_canFall_20) ?_
  refine fc (ok_iconst hB dX12_canFall_23) ?_
  refine fc (ok_zret hB dX12_canFall_24) ?_
  exact fn

def w_X12_canFall : WP := fun av σ Q => ∃ (a : Int) (t : Int), av = [(28, 5000), (8, a), (0, t)] ∧ ((a = 5015 ∨ a = 5016) ∧ InR t ∧ 0 ≤ σ 5000 30 ∧ σ 5000 30 ≤ 6 ∧ InR (σ a 24) ∧ Q (0, if 0 ≤ t ∧ t < σ 5000 30 ∧ bt (σ a 24) t = 0 then 1 else 0) σ)
theorem w_X12_canFall_e (a : Int) (t : Int) (σ : Mem) (Q : AV → Mem → Prop) : w_X12_canFall [(28, 5000), (8, a), (0, t)] σ Q = ((a = 5015 ∨ a = 5016) ∧ InR t ∧ 0 ≤ σ 5000 30 ∧ σ 5000 30 ≤ 6 ∧ InR (σ a 24) ∧ Q (0, if 0 ≤ t ∧ t < σ 5000 30 ∧ bt (σ a 24) t = 0 then 1 else 0) σ) := by
  apply propext; constructor
  · rintro ⟨a', t', h9, hb9⟩; cases h9; exact hb9
  · intro hb9; exact ⟨a, t, rfl, hb9⟩

set_option maxRecDepth 100000 in
set_option maxHeartbeats 4000000 in
theorem s_X12_canFall : ∀ av σ Q, w_X12_canFall av σ Q → amCall 1 0 0 TT yX12_canFall cX12_canFall 3 (some .boolean) av σ Q := by
  rintro av σ Q ⟨a, t, rfl, ha, ht, c0, c1, he, h⟩
  have al : alen TT σ a = 208 := by rcases ha with rfl | rfl <;> rfl
  have a0 : 0 ≤ a := by omega
  have b01 := bt_b (σ a 24) t
  refine am_m0 (own := RX12) (A := look a_X12_canFall) (fun X e1 e2 hB => o_X12_canFall e1 e2 hB) rfl (by decide +kernel) rfl rfl 190 (w := 3) ?_
  change vcs _ _ _ _ 190 0 [(28, 5000), (8, a), (0, t)] [] σ
  simp only [↓reduceIte, inR_0, inR_1, inR_m, vSw2_e, swP_n, swP_c, vI_e, vL_e, vNull_e, vIload_e, vLload_e, vAload_e, vIstore_e, vLstore_e, vAstore_e, vIinc_e, vIadd_e, vIsub_e, vImul_e, vIand_e, vIor_e, vIxor_e, vIshl_e, vIshr_e, vIushr_e, vIdiv_e, vIrem_e, vLadd_e, vLsub_e, vLmul_e, vLand_e, vLor_e, vLxor_e, vLdiv_e, vLrem_e, vLushr_e, vLshl_e, vLcmp_e, vIneg_e, vI2l_e, vL2i_e, vI2b_e, vI2c_e, vDup_e, vPop_e, vDup2_e, vGoto_e, vIcEq_e, vIfEq_e, vIcNe_e, vIfNe_e, vIcLt_e, vIfLt_e, vIcGe_e, vIfGe_e, vIcGt_e, vIfGt_e, vIcLe_e, vIfLe_e, vNonnull_e, vSw_e, vGetI_e, vGetL_e, vGetR_e, vPutI_e, vPutZ_e, vPutL_e, vPutR_e, vIald_e, vIald_s, vLald_e, vBald_e, vBald_s, vAald_e, vIast_e, vLast_e, vBast_e, vAast_e, vAlen_e8, vAlen_e9, vAlen_e10, vAlen_e11, vAlen_e5, vAlen_e3, vGets_e, vCompact_e, vLdcS_e, vIret_e, vZret_e, vCret_e, vBret_e, vLret_e, vVret_e, vAret_e, vCallM_e0, vCallMV_e0, vCallS_e0, vCallSV_e0, vCallM_e1, vCallMV_e1, vCallS_e1, vCallSV_e1, vCallM_e2, vCallMV_e2, vCallS_e2, vCallSV_e2, vCallM_e3, vCallMV_e3, vCallS_e3, vCallSV_e3, vCallM_e4, vCallMV_e4, vCallS_e4, vCallSV_e4, vCallM_e5, vCallMV_e5, vCallS_e5, vCallSV_e5, vCallM_e6, vCallMV_e6, vCallS_e6, vCallSV_e6, vCallM_e7, vCallMV_e7, vCallS_e7, vCallSV_e7, vBad_e, vStrVal_e, vStrCod_e, vForm_e, vCallT_e0, vCallT_e1, vCallT_e2, vCopy_e, rf_0_0, rf_0_1, rf_0_2, rf_0_3, rf_0_4, rf_0_7, rf_0_10, rf_0_11, rf_0_12, rf_0_13, rf_0_14, rf_0_15, rf_0_16, rf_1_0, rf_3_0, rf_3_1, rf_6_0, rf_6_1, rf_9_0, rf_9_1, rf_9_3, rf_13_0, rf_13_1, rf_13_2, rf_16_0, rf_16_1, rf_16_2, rf_16_3, rf_21_0, rf_21_1, rf_21_2, rf_21_3, rf_26_0, rf_26_1, rf_26_2, rf_26_3, rf_26_4, rf_26_5, rf_26_6, rf_31_0, rf_31_2, rf_31_5, rf_31_6, rf_36_0, rf_36_1, rf_36_2, rf_36_3, rf_39_0, rf_39_1, rf_39_2, rf_41_0, rf_41_1, rf_41_2, rf_41_3, rf_5000_1, rf_5000_2, rf_5000_3, rf_5000_4, rf_5000_5, rf_5000_15, rf_5000_16, rf_5000_18, rf_5000_19, rf_5000_20, rf_5000_21, rf_5000_22, rf_5000_23, rf_5000_24, rf_5000_25, rf_5000_26, rf_5000_27, rf_5000_36, rf_5000_37, rf_5000_40, rf_5000_41, rf_5000_42, rf_5000_43, rf_5000_44, rf_5000_45, rf_5000_47, rf_5000_52, rf_5000_54, rf_5000_55, rf_100_0, rf_100_1, rf_103_0, rf_103_1, rf_106_0, rf_106_1, rf_109_0, rf_109_1, al_2, al_4, al_5, al_7, al_8, al_10, al_11, al_12, al_14, al_15, al_17, al_18, al_19, al_20, al_22, al_23, al_24, al_25, al_27, al_28, al_29, al_30, al_32, al_33, al_34, al_35, al_37, al_38, al_40, al_42, al_5001, al_5002, al_5003, al_5004, al_5005, al_5006, al_5007, al_5008, al_5009, al_5010, al_5011, al_5012, al_5013, al_5014, al_5015, al_5016, al_5017, al_5018, al_5019, al_5020, al_5021, al_5022, al_5023, al_5024, al_5025, al_5026, al_9000, al_101, al_102, al_104, al_105, al_107, al_108, al_110, al_111, vcs_e, lg_c0, lg_cs, lg_nil, set_c0, set_cs, okst_0, okst_s, acok_n, acok_c, List.contains_nil, List.contains_cons, Bool.or_false, Bool.false_or, Bool.false_eq_true, if_false, if_true, ite_self, ne_eq, true_and, and_true, not_false_eq_true, not_true_eq_false, false_imp_iff, true_imp_iff, Nat.ble_eq, Bool.and_eq_true, reduceCtorEq, or_false, false_or, or_true, true_or, false_and, and_false, and_self, Int.reduceLE, Int.reduceAdd, Int.reduceSub, Int.reduceMul, Int.reduceNeg, Int.reduceLT, Int.reduceEq, Int.reduceNe, Nat.reduceBEq, Nat.reduceBNe, Nat.reduceEqDiff, amCmp_in, amCmp_lt, amCmp_le, amCmp_gt, amCmp_ge, amCmp_eq, amCmp_ne, Nat.reduceLeDiff, Nat.reduceSub, Bool.and_true, Bool.true_and, Bool.and_self, Bool.or_true, Bool.true_or, isRf_3, isRf_4, isRf_5, isRf_8, isRf_9, isRf_10, isRf_11, isRf_15, isRf_16, isRf_17, isRf_18, isRf_19, isRf_20, isRf_21, isRf_22, isRf_23, isRf_24, isRf_25, isRf_26, isRf_27, isRf_28, k_X12_canFall_0, k_X12_canFall_1, k_X12_canFall_2, k_X12_canFall_5, k_X12_canFall_8, k_X12_canFall_9, k_X12_canFall_11, k_X12_canFall_12, k_X12_canFall_13, k_X12_canFall_16, k_X12_canFall_19, k_X12_canFall_20, k_X12_canFall_23, k_X12_canFall_24, w_X12_has_e, w_X12_isSitter_e, up_s, up_nj, up_na, up_up, savR_o, cpy_o, fillm_o, setAud_o, setv_o, setv_s, Int.reduceNe, Int.reduceEq, Int.reduceLT, Int.reduceAdd, not_false_eq_true, ne_eq, or_true, true_or, al, a0]
  by_cases c : 0 ≤ t ∧ t < σ 5000 30
  · rw [if_pos c]
    by_cases d : bt (σ a 24) t = 0
    · rw [if_pos ⟨c.1, c.2, d⟩] at h
      repeat' (first | assumption | apply And.intro | intro _)
      all_goals first | omega | exact absurd trivial (by assumption) | exact h
    · rw [if_neg (fun q => d q.2.2)] at h
      repeat' (first | assumption | apply And.intro | intro _)
      all_goals first | omega | exact absurd trivial (by assumption) | exact h
  · rw [if_neg c]
    rw [if_neg (fun q => c ⟨q.1, q.2.1⟩)] at h
    repeat' (first | assumption | apply And.intro | intro _)
    all_goals first | omega | exact absurd trivial (by assumption) | exact h
def a_X12_changes : AC := [(0, vAload 0 1), (1, vI 4 2), (2, vIload 1 3), (3, vImul 4), (4, vI 1 5), (5, vIadd 6), (6, vIload 2 7), (7, vIast TT 8), (8, vAload 0 9), (9, vI 4 10), (10, vIload 1 11), (11, vImul 12), (12, vI 2 13), (13, vIadd 14), (14, vDup2 15), (15, vIald TT 16), (16, vAload 0 17), (17, vI 25 19), (19, vIald TT 20), (20, vIsub 21), (21, vIast TT 22), (22, vVret)]
theorem k_X12_changes_0 : look a_X12_changes 0 = vAload 0 1 := rfl
theorem k_X12_changes_1 : look a_X12_changes 1 = vI 4 2 := rfl
theorem k_X12_changes_2 : look a_X12_changes 2 = vIload 1 3 := rfl
theorem k_X12_changes_3 : look a_X12_changes 3 = vImul 4 := rfl
theorem k_X12_changes_4 : look a_X12_changes 4 = vI 1 5 := rfl
theorem k_X12_changes_5 : look a_X12_changes 5 = vIadd 6 := rfl
theorem k_X12_changes_6 : look a_X12_changes 6 = vIload 2 7 := rfl
theorem k_X12_changes_7 : look a_X12_changes 7 = vIast TT 8 := rfl
theorem k_X12_changes_8 : look a_X12_changes 8 = vAload 0 9 := rfl
theorem k_X12_changes_9 : look a_X12_changes 9 = vI 4 10 := rfl
theorem k_X12_changes_10 : look a_X12_changes 10 = vIload 1 11 := rfl
theorem k_X12_changes_11 : look a_X12_changes 11 = vImul 12 := rfl
theorem k_X12_changes_12 : look a_X12_changes 12 = vI 2 13 := rfl
theorem k_X12_changes_13 : look a_X12_changes 13 = vIadd 14 := rfl
theorem k_X12_changes_14 : look a_X12_changes 14 = vDup2 15 := rfl
theorem k_X12_changes_15 : look a_X12_changes 15 = vIald TT 16 := rfl
theorem k_X12_changes_16 : look a_X12_changes 16 = vAload 0 17 := rfl
theorem k_X12_changes_17 : look a_X12_changes 17 = vI 25 19 := rfl
theorem k_X12_changes_19 : look a_X12_changes 19 = vIald TT 20 := rfl
theorem k_X12_changes_20 : look a_X12_changes 20 = vIsub 21 := rfl
theorem k_X12_changes_21 : look a_X12_changes 21 = vIast TT 22 := rfl
theorem k_X12_changes_22 : look a_X12_changes 22 = vVret := rfl
theorem o_X12_changes {X : amX} (e1 : XT X = TT) (e2 : XD X = 0) (hB : amB X RX12 cX12_changes (none) 3) : ∀ pc, amOK X pc (look a_X12_changes pc) := by
  have hT : amTok (XT X) := e1 ▸ TT_ok
  refine look_ok ?_
  unfold a_X12_changes
  refine fc (ok_aload_n hB dX12_changes_0) ?_
  refine fc (ok_iconst hB dX12_changes_1) ?_
  refine fc (ok_iload_n hB dX12_changes_2) ?_
  refine fc (ok_imul hB dX12_changes_3) ?_
  refine fc (ok_iconst hB dX12_changes_4) ?_
  refine fc (ok_iadd hB dX12_changes_5) ?_
  refine fc (ok_iload_n hB dX12_changes_6) ?_
  refine fc (okt_iastore e1 hB dX12_changes_7) ?_
  refine fc (ok_aload_n hB dX12_changes_8) ?_
  refine fc (ok_iconst hB dX12_changes_9) ?_
  refine fc (ok_iload_n hB dX12_changes_10) ?_
  refine fc (ok_imul hB dX12_changes_11) ?_
  refine fc (ok_iconst hB dX12_changes_12) ?_
  refine fc (ok_iadd hB dX12_changes_13) ?_
  refine fc (ok_dup2 hB dX12_changes_14) ?_
  refine fc (okt_iaload e1 hB dX12_changes_15) ?_
  refine fc (ok_aload_n hB dX12_changes_16) ?_
  refine fc (ok_bipush hB dX12_changes_17 (by decide)) ?_
  refine fc (okt_iaload e1 hB dX12_changes_19) ?_
  refine fc (ok_isub hB dX12_changes_20) ?_
  refine fc (okt_iastore e1 hB dX12_changes_21) ?_
  refine fc (ok_vret hB dX12_changes_22) ?_
  exact fn

def w_X12_changes : WP := fun av σ Q => ∃ (a : Int) (c : Int) (t : Int), av = [(8, a), (0, c), (0, t)] ∧ ((a = 5015 ∨ a = 5016) ∧ 0 ≤ c ∧ c < 6 ∧ Q (6, 0) (up (up σ a (4 * c + 1) t) a (4 * c + 2) (σ a (4 * c + 2) - σ a 25)))
theorem w_X12_changes_e (a : Int) (c : Int) (t : Int) (σ : Mem) (Q : AV → Mem → Prop) : w_X12_changes [(8, a), (0, c), (0, t)] σ Q = ((a = 5015 ∨ a = 5016) ∧ 0 ≤ c ∧ c < 6 ∧ Q (6, 0) (up (up σ a (4 * c + 1) t) a (4 * c + 2) (σ a (4 * c + 2) - σ a 25))) := by
  apply propext; constructor
  · rintro ⟨a', c', t', h9, hb9⟩; cases h9; exact hb9
  · intro hb9; exact ⟨a, c, t, rfl, hb9⟩

set_option maxRecDepth 100000 in
set_option maxHeartbeats 4000000 in
theorem s_X12_changes : ∀ av σ Q, w_X12_changes av σ Q → amCall 0 0 0 TT yX12_changes cX12_changes 3 (none) av σ Q := by
  rintro av σ Q ⟨a, c, t, rfl, ha, c0, c1, h⟩
  have al : ∀ τ, alen TT τ a = 208 := fun τ => by rcases ha with rfl | rfl <;> rfl
  have a0 : 0 ≤ a := by omega
  have e1 : up σ a (4 * c + 1) t a (4 * c + 2) = σ a (4 * c + 2) := up_nj _ (by omega)
  have e2 : up σ a (4 * c + 1) t a 25 = σ a 25 := up_nj _ (by omega)
  refine am_m0 (own := RX12) (A := look a_X12_changes) (fun X e1 e2 hB => o_X12_changes e1 e2 hB) rfl (by decide +kernel) rfl rfl 190 (w := 3) ?_
  change vcs _ _ _ _ 190 0 [(8, a), (0, c), (0, t)] [] σ
  simp only [↓reduceIte, inR_0, inR_1, inR_m, vSw2_e, swP_n, swP_c, vI_e, vL_e, vNull_e, vIload_e, vLload_e, vAload_e, vIstore_e, vLstore_e, vAstore_e, vIinc_e, vIadd_e, vIsub_e, vImul_e, vIand_e, vIor_e, vIxor_e, vIshl_e, vIshr_e, vIushr_e, vIdiv_e, vIrem_e, vLadd_e, vLsub_e, vLmul_e, vLand_e, vLor_e, vLxor_e, vLdiv_e, vLrem_e, vLushr_e, vLshl_e, vLcmp_e, vIneg_e, vI2l_e, vL2i_e, vI2b_e, vI2c_e, vDup_e, vPop_e, vDup2_e, vGoto_e, vIcEq_e, vIfEq_e, vIcNe_e, vIfNe_e, vIcLt_e, vIfLt_e, vIcGe_e, vIfGe_e, vIcGt_e, vIfGt_e, vIcLe_e, vIfLe_e, vNonnull_e, vSw_e, vGetI_e, vGetL_e, vGetR_e, vPutI_e, vPutZ_e, vPutL_e, vPutR_e, vIald_e, vIald_s, vLald_e, vBald_e, vBald_s, vAald_e, vIast_e, vLast_e, vBast_e, vAast_e, vAlen_e8, vAlen_e9, vAlen_e10, vAlen_e11, vAlen_e5, vAlen_e3, vGets_e, vCompact_e, vLdcS_e, vIret_e, vZret_e, vCret_e, vBret_e, vLret_e, vVret_e, vAret_e, vCallM_e0, vCallMV_e0, vCallS_e0, vCallSV_e0, vCallM_e1, vCallMV_e1, vCallS_e1, vCallSV_e1, vCallM_e2, vCallMV_e2, vCallS_e2, vCallSV_e2, vCallM_e3, vCallMV_e3, vCallS_e3, vCallSV_e3, vCallM_e4, vCallMV_e4, vCallS_e4, vCallSV_e4, vCallM_e5, vCallMV_e5, vCallS_e5, vCallSV_e5, vCallM_e6, vCallMV_e6, vCallS_e6, vCallSV_e6, vCallM_e7, vCallMV_e7, vCallS_e7, vCallSV_e7, vBad_e, vStrVal_e, vStrCod_e, vForm_e, vCallT_e0, vCallT_e1, vCallT_e2, vCopy_e, rf_0_0, rf_0_1, rf_0_2, rf_0_3, rf_0_4, rf_0_7, rf_0_10, rf_0_11, rf_0_12, rf_0_13, rf_0_14, rf_0_15, rf_0_16, rf_1_0, rf_3_0, rf_3_1, rf_6_0, rf_6_1, rf_9_0, rf_9_1, rf_9_3, rf_13_0, rf_13_1, rf_13_2, rf_16_0, rf_16_1, rf_16_2, rf_16_3, rf_21_0, rf_21_1, rf_21_2, rf_21_3, rf_26_0, rf_26_1, rf_26_2, rf_26_3, rf_26_4, rf_26_5, rf_26_6, rf_31_0, rf_31_2, rf_31_5, rf_31_6, rf_36_0, rf_36_1, rf_36_2, rf_36_3, rf_39_0, rf_39_1, rf_39_2, rf_41_0, rf_41_1, rf_41_2, rf_41_3, rf_5000_1, rf_5000_2, rf_5000_3, rf_5000_4, rf_5000_5, rf_5000_15, rf_5000_16, rf_5000_18, rf_5000_19, rf_5000_20, rf_5000_21, rf_5000_22, rf_5000_23, rf_5000_24, rf_5000_25, rf_5000_26, rf_5000_27, rf_5000_36, rf_5000_37, rf_5000_40, rf_5000_41, rf_5000_42, rf_5000_43, rf_5000_44, rf_5000_45, rf_5000_47, rf_5000_52, rf_5000_54, rf_5000_55, rf_100_0, rf_100_1, rf_103_0, rf_103_1, rf_106_0, rf_106_1, rf_109_0, rf_109_1, al_2, al_4, al_5, al_7, al_8, al_10, al_11, al_12, al_14, al_15, al_17, al_18, al_19, al_20, al_22, al_23, al_24, al_25, al_27, al_28, al_29, al_30, al_32, al_33, al_34, al_35, al_37, al_38, al_40, al_42, al_5001, al_5002, al_5003, al_5004, al_5005, al_5006, al_5007, al_5008, al_5009, al_5010, al_5011, al_5012, al_5013, al_5014, al_5015, al_5016, al_5017, al_5018, al_5019, al_5020, al_5021, al_5022, al_5023, al_5024, al_5025, al_5026, al_9000, al_101, al_102, al_104, al_105, al_107, al_108, al_110, al_111, vcs_e, lg_c0, lg_cs, lg_nil, set_c0, set_cs, okst_0, okst_s, acok_n, acok_c, List.contains_nil, List.contains_cons, Bool.or_false, Bool.false_or, Bool.false_eq_true, if_false, if_true, ite_self, ne_eq, true_and, and_true, not_false_eq_true, not_true_eq_false, false_imp_iff, true_imp_iff, Nat.ble_eq, Bool.and_eq_true, reduceCtorEq, or_false, false_or, or_true, true_or, false_and, and_false, and_self, Int.reduceLE, Int.reduceAdd, Int.reduceSub, Int.reduceMul, Int.reduceNeg, Int.reduceLT, Int.reduceEq, Int.reduceNe, Nat.reduceBEq, Nat.reduceBNe, Nat.reduceEqDiff, amCmp_in, amCmp_lt, amCmp_le, amCmp_gt, amCmp_ge, amCmp_eq, amCmp_ne, Nat.reduceLeDiff, Nat.reduceSub, Bool.and_true, Bool.true_and, Bool.and_self, Bool.or_true, Bool.true_or, isRf_3, isRf_4, isRf_5, isRf_8, isRf_9, isRf_10, isRf_11, isRf_15, isRf_16, isRf_17, isRf_18, isRf_19, isRf_20, isRf_21, isRf_22, isRf_23, isRf_24, isRf_25, isRf_26, isRf_27, isRf_28, k_X12_changes_0, k_X12_changes_1, k_X12_changes_2, k_X12_changes_3, k_X12_changes_4, k_X12_changes_5, k_X12_changes_6, k_X12_changes_7, k_X12_changes_8, k_X12_changes_9, k_X12_changes_10, k_X12_changes_11, k_X12_changes_12, k_X12_changes_13, k_X12_changes_14, k_X12_changes_15, k_X12_changes_16, k_X12_changes_17, k_X12_changes_19, k_X12_changes_20, k_X12_changes_21, k_X12_changes_22, up_s, up_nj, up_na, up_up, savR_o, cpy_o, fillm_o, setAud_o, setv_o, setv_s, Int.reduceNe, Int.reduceEq, Int.reduceLT, Int.reduceAdd, not_false_eq_true, ne_eq, or_true, true_or, al, a0, e1, e2]
  repeat' (first | assumption | apply And.intro | intro _)
  all_goals first | omega | exact absurd trivial (by assumption) | exact h
