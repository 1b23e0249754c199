/-! ArmchairHouse: quiet STEPS, what is ahead, faults -/

def a_X11_doQuietStep : AC := [(0, vAload 0 1), (1, vGetR TT 27 7 23 4), (4, vIload 1 5), (5, vIload 2 6), (6, vI 1 7), (7, vCallM w_X7_part 23 3 10), (10, vIstore 4 12), (12, vAload 0 13), (13, vGetR TT 27 7 23 16), (16, vIload 1 17), (17, vIload 2 18), (18, vI 0 19), (19, vCallM w_X7_part 23 3 22), (22, vI 1 23), (23, vIcNe 45 26), (26, vAload 3 27), (27, vIload 4 29), (29, vAload 0 30), (30, vGetR TT 27 7 23 33), (33, vIload 1 34), (34, vIload 2 35), (35, vI 2 36), (36, vCallM w_X7_part 23 3 39), (39, vCallMV w_X0_takeTicket 16 2 42), (42, vGoto 51), (45, vAload 3 46), (46, vIload 4 48), (48, vCallMV w_X0_fallIll 16 1 51), (51, vVret)]
theorem k_X11_doQuietStep_0 : look a_X11_doQuietStep 0 = vAload 0 1 := rfl
theorem k_X11_doQuietStep_1 : look a_X11_doQuietStep 1 = vGetR TT 27 7 23 4 := rfl
theorem k_X11_doQuietStep_4 : look a_X11_doQuietStep 4 = vIload 1 5 := rfl
theorem k_X11_doQuietStep_5 : look a_X11_doQuietStep 5 = vIload 2 6 := rfl
theorem k_X11_doQuietStep_6 : look a_X11_doQuietStep 6 = vI 1 7 := rfl
theorem k_X11_doQuietStep_7 : look a_X11_doQuietStep 7 = vCallM w_X7_part 23 3 10 := rfl
theorem k_X11_doQuietStep_10 : look a_X11_doQuietStep 10 = vIstore 4 12 := rfl
theorem k_X11_doQuietStep_12 : look a_X11_doQuietStep 12 = vAload 0 13 := rfl
theorem k_X11_doQuietStep_13 : look a_X11_doQuietStep 13 = vGetR TT 27 7 23 16 := rfl
theorem k_X11_doQuietStep_16 : look a_X11_doQuietStep 16 = vIload 1 17 := rfl
theorem k_X11_doQuietStep_17 : look a_X11_doQuietStep 17 = vIload 2 18 := rfl
theorem k_X11_doQuietStep_18 : look a_X11_doQuietStep 18 = vI 0 19 := rfl
theorem k_X11_doQuietStep_19 : look a_X11_doQuietStep 19 = vCallM w_X7_part 23 3 22 := rfl
theorem k_X11_doQuietStep_22 : look a_X11_doQuietStep 22 = vI 1 23 := rfl
theorem k_X11_doQuietStep_23 : look a_X11_doQuietStep 23 = vIcNe 45 26 := rfl
theorem k_X11_doQuietStep_26 : look a_X11_doQuietStep 26 = vAload 3 27 := rfl
theorem k_X11_doQuietStep_27 : look a_X11_doQuietStep 27 = vIload 4 29 := rfl
theorem k_X11_doQuietStep_29 : look a_X11_doQuietStep 29 = vAload 0 30 := rfl
theorem k_X11_doQuietStep_30 : look a_X11_doQuietStep 30 = vGetR TT 27 7 23 33 := rfl
theorem k_X11_doQuietStep_33 : look a_X11_doQuietStep 33 = vIload 1 34 := rfl
theorem k_X11_doQuietStep_34 : look a_X11_doQuietStep 34 = vIload 2 35 := rfl
theorem k_X11_doQuietStep_35 : look a_X11_doQuietStep 35 = vI 2 36 := rfl
theorem k_X11_doQuietStep_36 : look a_X11_doQuietStep 36 = vCallM w_X7_part 23 3 39 := rfl
theorem k_X11_doQuietStep_39 : look a_X11_doQuietStep 39 = vCallMV w_X0_takeTicket 16 2 42 := rfl
theorem k_X11_doQuietStep_42 : look a_X11_doQuietStep 42 = vGoto 51 := rfl
theorem k_X11_doQuietStep_45 : look a_X11_doQuietStep 45 = vAload 3 46 := rfl
theorem k_X11_doQuietStep_46 : look a_X11_doQuietStep 46 = vIload 4 48 := rfl
theorem k_X11_doQuietStep_48 : look a_X11_doQuietStep 48 = vCallMV w_X0_fallIll 16 1 51 := rfl
theorem k_X11_doQuietStep_51 : look a_X11_doQuietStep 51 = vVret := rfl
theorem o_X11_doQuietStep {X : amX} (e1 : XT X = TT) (e2 : XD X = 2) (hB : amB X RX11 cX11_doQuietStep (none) 5) : ∀ pc, amOK X pc (look a_X11_doQuietStep pc) := by
  have hT : amTok (XT X) := e1 ▸ TT_ok
  refine look_ok ?_
  unfold a_X11_doQuietStep
  refine fc (ok_aload_n hB dX11_doQuietStep_0) ?_
  refine fc (okt_getR e1 hB hT fl_X11_51 rfl af_11_7 at_11_7 (by decide) dX11_doQuietStep_1) ?_
  refine fc (ok_iload_n hB dX11_doQuietStep_4) ?_
  refine fc (ok_iload_n hB dX11_doQuietStep_5) ?_
  refine fc (ok_iconst hB dX11_doQuietStep_6) ?_
  refine fc (ok_callM hB hT (e1 ▸ s_X7_part) lk_X11_274 (by rw [e2]; decide) (c := 7) rfl rfl rfl wd_948 wd_949 dX11_doQuietStep_7) ?_
  refine fc (ok_istore hB (by decide) dX11_doQuietStep_10) ?_
  refine fc (ok_aload_n hB dX11_doQuietStep_12) ?_
  refine fc (okt_getR e1 hB hT fl_X11_51 rfl af_11_7 at_11_7 (by decide) dX11_doQuietStep_13) ?_
  refine fc (ok_iload_n hB dX11_doQuietStep_16) ?_
  refine fc (ok_iload_n hB dX11_doQuietStep_17) ?_
  refine fc (ok_iconst hB dX11_doQuietStep_18) ?_
  refine fc (ok_callM hB hT (e1 ▸ s_X7_part) lk_X11_274 (by rw [e2]; decide) (c := 7) rfl rfl rfl wd_948 wd_949 dX11_doQuietStep_19) ?_
  refine fc (ok_iconst hB dX11_doQuietStep_22) ?_
  refine fc (ok_icmp_ne hB (t := 45) (by decide) dX11_doQuietStep_23) ?_
  refine fc (ok_aload_n hB dX11_doQuietStep_26) ?_
  refine fc (ok_iload hB dX11_doQuietStep_27) ?_
  refine fc (ok_aload_n hB dX11_doQuietStep_29) ?_
  refine fc (okt_getR e1 hB hT fl_X11_51 rfl af_11_7 at_11_7 (by decide) dX11_doQuietStep_30) ?_
  refine fc (ok_iload_n hB dX11_doQuietStep_33) ?_
  refine fc (ok_iload_n hB dX11_doQuietStep_34) ?_
  refine fc (ok_iconst hB dX11_doQuietStep_35) ?_
  refine fc (ok_callM hB hT (e1 ▸ s_X7_part) lk_X11_274 (by rw [e2]; decide) (c := 7) rfl rfl rfl wd_948 wd_949 dX11_doQuietStep_36) ?_
  refine fc (ok_callMV hB hT (e1 ▸ s_X0_takeTicket) lk_X11_236 (by rw [e2]; decide) (c := 0) rfl rfl rfl wd_873 wd_874 dX11_doQuietStep_39) ?_
  refine fc (ok_goto hB (t := 51) (by decide) dX11_doQuietStep_42) ?_
  refine fc (ok_aload_n hB dX11_doQuietStep_45) ?_
  refine fc (ok_iload hB dX11_doQuietStep_46) ?_
  refine fc (ok_callMV hB hT (e1 ▸ s_X0_fallIll) lk_X11_243 (by rw [e2]; decide) (c := 0) rfl rfl rfl wd_885 wd_886 dX11_doQuietStep_48) ?_
  refine fc (ok_vret hB dX11_doQuietStep_51) ?_
  exact fn
def qsM (σ : Mem) (s i a : Int) : Mem := if σ 14 (s * 48 + i * 3) = 1 then up (up σ (a + 3) (σ 14 (s * 48 + i * 3 + 1)) (σ (a + 3) (σ 14 (s * 48 + i * 3 + 1)) - σ a 5)) (a + 2) (σ 14 (s * 48 + i * 3 + 1)) (σ 14 (s * 48 + i * 3 + 2)) else up σ a 4 (amIor (σ a 4) (amIshl 1 (σ 14 (s * 48 + i * 3 + 1))))
def w_X11_doQuietStep : WP := fun av σ Q => ∃ (s : Int) (i : Int) (a : Int), av = [(27, 0), (0, s), (0, i), (16, a)] ∧ (0 ≤ s ∧ s ≤ 4 ∧ 0 ≤ i ∧ i < 16 ∧ isA a ∧ InR (σ 14 (s * 48 + i * 3)) ∧ 0 ≤ σ 14 (s * 48 + i * 3 + 1) ∧ σ 14 (s * 48 + i * 3 + 1) < 6 ∧ Q (6, 0) (qsM σ s i a))
theorem w_X11_doQuietStep_e (s : Int) (i : Int) (a : Int) (σ : Mem) (Q : AV → Mem → Prop) : w_X11_doQuietStep [(27, 0), (0, s), (0, i), (16, a)] σ Q = (0 ≤ s ∧ s ≤ 4 ∧ 0 ≤ i ∧ i < 16 ∧ isA a ∧ InR (σ 14 (s * 48 + i * 3)) ∧ 0 ≤ σ 14 (s * 48 + i * 3 + 1) ∧ σ 14 (s * 48 + i * 3 + 1) < 6 ∧ Q (6, 0) (qsM σ s i a)) := by
  apply propext; constructor
  · rintro ⟨s', i', a', h9, hb9⟩; cases h9; exact hb9
  · intro hb9; exact ⟨s, i, a, rfl, hb9⟩

set_option maxRecDepth 100000 in
set_option maxHeartbeats 4000000 in
theorem s_X11_doQuietStep : ∀ av σ Q, w_X11_doQuietStep av σ Q → amCall 2 0 0 TT yX11_doQuietStep cX11_doQuietStep 5 (none) av σ Q := by
  rintro av σ Q ⟨s, i, a, rfl, hs0, hs1, hi0, hi1, ha, hj, k0, k1, h⟩
  have z0 : s * 48 + i * 3 + 0 = s * 48 + i * 3 := Int.add_zero _
  have hab := isA_b ha
  refine am_m0 (own := RX11) (A := look a_X11_doQuietStep) (fun X e1 e2 hB => o_X11_doQuietStep e1 e2 hB) rfl (by decide +kernel) rfl rfl 190 (w := 5) ?_
  change vcs _ _ _ _ 190 0 [(27, 0), (0, s), (0, i), (16, a), (6, 0)] [] σ
  simp only [↓reduceIte, inR_0, inR_1, inR_m, vSw2_e, swP_n, swP_c, vI_e, vL_e, vNull_e, vIload_e, vLload_e, vAload_e, vIstore_e, vLstore_e, vAstore_e, vIinc_e, vIadd_e, vIsub_e, vImul_e, vIand_e, vIor_e, vIxor_e, vIshl_e, vIshr_e, vIushr_e, vIdiv_e, vIrem_e, vLadd_e, vLsub_e, vLmul_e, vLand_e, vLor_e, vLxor_e, vLdiv_e, vLrem_e, vLushr_e, vLshl_e, vLcmp_e, vIneg_e, vI2l_e, vL2i_e, vI2b_e, vI2c_e, vDup_e, vPop_e, vDup2_e, vGoto_e, vIcEq_e, vIfEq_e, vIcNe_e, vIfNe_e, vIcLt_e, vIfLt_e, vIcGe_e, vIfGe_e, vIcGt_e, vIfGt_e, vIcLe_e, vIfLe_e, vNonnull_e, vSw_e, vGetI_e, vGetL_e, vGetR_e, vPutI_e, vPutZ_e, vPutL_e, vPutR_e, vIald_e, vIald_s, vLald_e, vBald_e, vBald_s, vAald_e, vIast_e, vLast_e, vBast_e, vAast_e, vAlen_e8, vAlen_e9, vAlen_e10, vAlen_e11, vAlen_e5, vAlen_e3, vGets_e, vCompact_e, vLdcS_e, vIret_e, vZret_e, vCret_e, vBret_e, vLret_e, vVret_e, vAret_e, vCallM_e0, vCallMV_e0, vCallS_e0, vCallSV_e0, vCallM_e1, vCallMV_e1, vCallS_e1, vCallSV_e1, vCallM_e2, vCallMV_e2, vCallS_e2, vCallSV_e2, vCallM_e3, vCallMV_e3, vCallS_e3, vCallSV_e3, vCallM_e4, vCallMV_e4, vCallS_e4, vCallSV_e4, vCallM_e5, vCallMV_e5, vCallS_e5, vCallSV_e5, vCallM_e6, vCallMV_e6, vCallS_e6, vCallSV_e6, vCallM_e7, vCallMV_e7, vCallS_e7, vCallSV_e7, vBad_e, vStrVal_e, vStrCod_e, vForm_e, vCallT_e0, vCallT_e1, vCallT_e2, vCopy_e, rf_0_0, rf_0_1, rf_0_2, rf_0_3, rf_0_4, rf_0_7, rf_0_10, rf_0_11, rf_0_12, rf_0_13, rf_0_14, rf_0_15, rf_0_16, rf_1_0, rf_3_0, rf_3_1, rf_6_0, rf_6_1, rf_9_0, rf_9_1, rf_9_3, rf_13_0, rf_13_1, rf_13_2, rf_16_0, rf_16_1, rf_16_2, rf_16_3, rf_21_0, rf_21_1, rf_21_2, rf_21_3, rf_26_0, rf_26_1, rf_26_2, rf_26_3, rf_26_4, rf_26_5, rf_26_6, rf_31_0, rf_31_2, rf_31_5, rf_31_6, rf_36_0, rf_36_1, rf_36_2, rf_36_3, rf_39_0, rf_39_1, rf_39_2, rf_41_0, rf_41_1, rf_41_2, rf_41_3, rf_5000_1, rf_5000_2, rf_5000_3, rf_5000_4, rf_5000_5, rf_5000_15, rf_5000_16, rf_5000_18, rf_5000_19, rf_5000_20, rf_5000_21, rf_5000_22, rf_5000_23, rf_5000_24, rf_5000_25, rf_5000_26, rf_5000_27, rf_5000_36, rf_5000_37, rf_5000_40, rf_5000_41, rf_5000_42, rf_5000_43, rf_5000_44, rf_5000_45, rf_5000_47, rf_5000_52, rf_5000_54, rf_5000_55, rf_100_0, rf_100_1, rf_103_0, rf_103_1, rf_106_0, rf_106_1, rf_109_0, rf_109_1, al_2, al_4, al_5, al_7, al_8, al_10, al_11, al_12, al_14, al_15, al_17, al_18, al_19, al_20, al_22, al_23, al_24, al_25, al_27, al_28, al_29, al_30, al_32, al_33, al_34, al_35, al_37, al_38, al_40, al_42, al_5001, al_5002, al_5003, al_5004, al_5005, al_5006, al_5007, al_5008, al_5009, al_5010, al_5011, al_5012, al_5013, al_5014, al_5015, al_5016, al_5017, al_5018, al_5019, al_5020, al_5021, al_5022, al_5023, al_5024, al_5025, al_5026, al_9000, al_101, al_102, al_104, al_105, al_107, al_108, al_110, al_111, vcs_e, lg_c0, lg_cs, lg_nil, set_c0, set_cs, okst_0, okst_s, acok_n, acok_c, List.contains_nil, List.contains_cons, Bool.or_false, Bool.false_or, Bool.false_eq_true, if_false, if_true, ite_self, ne_eq, true_and, and_true, not_false_eq_true, not_true_eq_false, false_imp_iff, true_imp_iff, Nat.ble_eq, Bool.and_eq_true, reduceCtorEq, or_false, false_or, or_true, true_or, false_and, and_false, and_self, Int.reduceLE, Int.reduceAdd, Int.reduceSub, Int.reduceMul, Int.reduceNeg, Int.reduceLT, Int.reduceEq, Int.reduceNe, Nat.reduceBEq, Nat.reduceBNe, Nat.reduceEqDiff, amCmp_in, amCmp_lt, amCmp_le, amCmp_gt, amCmp_ge, amCmp_eq, amCmp_ne, Nat.reduceLeDiff, Nat.reduceSub, Bool.and_true, Bool.true_and, Bool.and_self, Bool.or_true, Bool.true_or, isRf_3, isRf_4, isRf_5, isRf_8, isRf_9, isRf_10, isRf_11, isRf_15, isRf_16, isRf_17, isRf_18, isRf_19, isRf_20, isRf_21, isRf_22, isRf_23, isRf_24, isRf_25, isRf_26, isRf_27, isRf_28, k_X11_doQuietStep_0, k_X11_doQuietStep_1, k_X11_doQuietStep_4, k_X11_doQuietStep_5, k_X11_doQuietStep_6, k_X11_doQuietStep_7, k_X11_doQuietStep_10, k_X11_doQuietStep_12, k_X11_doQuietStep_13, k_X11_doQuietStep_16, k_X11_doQuietStep_17, k_X11_doQuietStep_18, k_X11_doQuietStep_19, k_X11_doQuietStep_22, k_X11_doQuietStep_23, k_X11_doQuietStep_26, k_X11_doQuietStep_27, k_X11_doQuietStep_29, k_X11_doQuietStep_30, k_X11_doQuietStep_33, k_X11_doQuietStep_34, k_X11_doQuietStep_35, k_X11_doQuietStep_36, k_X11_doQuietStep_39, k_X11_doQuietStep_42, k_X11_doQuietStep_45, k_X11_doQuietStep_46, k_X11_doQuietStep_48, k_X11_doQuietStep_51, w_X0_fallIll_e, w_X0_takeTicket_e, w_X7_part_e, up_s, up_nj, up_na, up_up, savR_o, cpy_o, fillm_o, setAud_o, setv_o, setv_s, Int.reduceNe, Int.reduceEq, Int.reduceLT, Int.reduceAdd, not_false_eq_true, ne_eq, or_true, true_or, z0]
  unfold qsM at h
  by_cases c : σ 14 (s * 48 + i * 3) = 1
  · rw [if_pos c] at h
    repeat' (first | assumption | apply And.intro | intro _)
    all_goals first | omega | exact absurd trivial (by assumption) | exact ha | exact h
  · rw [if_neg c] at h
    repeat' (first | assumption | apply And.intro | intro _)
    all_goals first | omega | exact absurd trivial (by assumption) | exact ha | exact h
theorem wd_908 : Cond.methodLink RX11 252 yX11_draw ∈ TBL := tb_tab (List.mem_of_getElem? (i := 908) (by decide +kernel)) rfl
theorem wd_911 : Cond.code yX11_draw cX11_draw 2 (some .int) ∈ TBL := tb_tab (List.mem_of_getElem? (i := 911) (by decide +kernel)) rfl
theorem lk_X11_252 : amLk RX11 252 yX11_draw cX11_draw 2 (some .int) 1 := ⟨wd_908, wd_1, wd_911, by decide +kernel, by decide +kernel, by decide⟩
theorem wd_910 : Cond.instanceMethod yX11_draw ∈ TBL := tb_tab (List.mem_of_getElem? (i := 910) (by decide +kernel)) rfl
theorem sl_X11_draw : Cond.selects RX11 yX11_draw yX11_draw ∈ TBL := tb_sel (List.mem_of_getElem? (i := 28) (by decide +kernel)) rfl
def a_X11_drawWhatIsAhead : AC := [(0, vAload 0 1), (1, vGetR TT 27 2 22 4), (4, vI 3 5), (5, vCallM w_X6_many 22 1 8), (8, vIstore 1 9), (9, vAload 0 10), (10, vI 10 12), (12, vCallM w_X11_draw 27 1 15), (15, vAload 0 16), (16, vGetI 27 8 19), (19, vIcGe 34 22), (22, vAload 0 23), (23, vGetR TT 27 10 16 26), (26, vAload 0 27), (27, vIload 1 28), (28, vCallM w_X11_draw 27 1 31), (31, vCallMV w_X0_fallIll 16 1 34), (34, vAload 0 35), (35, vAload 0 36), (36, vGetR TT 27 2 22 39), (39, vI 2 40), (40, vCallM w_X6_many 22 1 43), (43, vCallM w_X11_draw 27 1 46), (46, vIstore 2 47), (47, vAload 0 48), (48, vIload 1 49), (49, vCallM w_X11_draw 27 1 52), (52, vIstore 3 53), (53, vAload 0 54), (54, vAload 0 55), (55, vGetR TT 27 10 16 58), (58, vIload 2 59), (59, vIload 3 60), (60, vCallM w_X11_canChange 27 3 63), (63, vIfEq 75 66), (66, vAload 0 67), (67, vGetR TT 27 10 16 70), (70, vIload 2 71), (71, vIload 3 72), (72, vCallMV w_X0_takeTicket 16 2 75), (75, vVret)]
theorem k_X11_drawWhatIsAhead_0 : look a_X11_drawWhatIsAhead 0 = vAload 0 1 := rfl
theorem k_X11_drawWhatIsAhead_1 : look a_X11_drawWhatIsAhead 1 = vGetR TT 27 2 22 4 := rfl
theorem k_X11_drawWhatIsAhead_4 : look a_X11_drawWhatIsAhead 4 = vI 3 5 := rfl
theorem k_X11_drawWhatIsAhead_5 : look a_X11_drawWhatIsAhead 5 = vCallM w_X6_many 22 1 8 := rfl
theorem k_X11_drawWhatIsAhead_8 : look a_X11_drawWhatIsAhead 8 = vIstore 1 9 := rfl
theorem k_X11_drawWhatIsAhead_9 : look a_X11_drawWhatIsAhead 9 = vAload 0 10 := rfl
theorem k_X11_drawWhatIsAhead_10 : look a_X11_drawWhatIsAhead 10 = vI 10 12 := rfl
theorem k_X11_drawWhatIsAhead_12 : look a_X11_drawWhatIsAhead 12 = vCallM w_X11_draw 27 1 15 := rfl
theorem k_X11_drawWhatIsAhead_15 : look a_X11_drawWhatIsAhead 15 = vAload 0 16 := rfl
theorem k_X11_drawWhatIsAhead_16 : look a_X11_drawWhatIsAhead 16 = vGetI 27 8 19 := rfl
theorem k_X11_drawWhatIsAhead_19 : look a_X11_drawWhatIsAhead 19 = vIcGe 34 22 := rfl
theorem k_X11_drawWhatIsAhead_22 : look a_X11_drawWhatIsAhead 22 = vAload 0 23 := rfl
theorem k_X11_drawWhatIsAhead_23 : look a_X11_drawWhatIsAhead 23 = vGetR TT 27 10 16 26 := rfl
theorem k_X11_drawWhatIsAhead_26 : look a_X11_drawWhatIsAhead 26 = vAload 0 27 := rfl
theorem k_X11_drawWhatIsAhead_27 : look a_X11_drawWhatIsAhead 27 = vIload 1 28 := rfl
theorem k_X11_drawWhatIsAhead_28 : look a_X11_drawWhatIsAhead 28 = vCallM w_X11_draw 27 1 31 := rfl
theorem k_X11_drawWhatIsAhead_31 : look a_X11_drawWhatIsAhead 31 = vCallMV w_X0_fallIll 16 1 34 := rfl
theorem k_X11_drawWhatIsAhead_34 : look a_X11_drawWhatIsAhead 34 = vAload 0 35 := rfl
theorem k_X11_drawWhatIsAhead_35 : look a_X11_drawWhatIsAhead 35 = vAload 0 36 := rfl
theorem k_X11_drawWhatIsAhead_36 : look a_X11_drawWhatIsAhead 36 = vGetR TT 27 2 22 39 := rfl
theorem k_X11_drawWhatIsAhead_39 : look a_X11_drawWhatIsAhead 39 = vI 2 40 := rfl
theorem k_X11_drawWhatIsAhead_40 : look a_X11_drawWhatIsAhead 40 = vCallM w_X6_many 22 1 43 := rfl
theorem k_X11_drawWhatIsAhead_43 : look a_X11_drawWhatIsAhead 43 = vCallM w_X11_draw 27 1 46 := rfl
theorem k_X11_drawWhatIsAhead_46 : look a_X11_drawWhatIsAhead 46 = vIstore 2 47 := rfl
theorem k_X11_drawWhatIsAhead_47 : look a_X11_drawWhatIsAhead 47 = vAload 0 48 := rfl
theorem k_X11_drawWhatIsAhead_48 : look a_X11_drawWhatIsAhead 48 = vIload 1 49 := rfl
theorem k_X11_drawWhatIsAhead_49 : look a_X11_drawWhatIsAhead 49 = vCallM w_X11_draw 27 1 52 := rfl
theorem k_X11_drawWhatIsAhead_52 : look a_X11_drawWhatIsAhead 52 = vIstore 3 53 := rfl
theorem k_X11_drawWhatIsAhead_53 : look a_X11_drawWhatIsAhead 53 = vAload 0 54 := rfl
theorem k_X11_drawWhatIsAhead_54 : look a_X11_drawWhatIsAhead 54 = vAload 0 55 := rfl
theorem k_X11_drawWhatIsAhead_55 : look a_X11_drawWhatIsAhead 55 = vGetR TT 27 10 16 58 := rfl
theorem k_X11_drawWhatIsAhead_58 : look a_X11_drawWhatIsAhead 58 = vIload 2 59 := rfl
theorem k_X11_drawWhatIsAhead_59 : look a_X11_drawWhatIsAhead 59 = vIload 3 60 := rfl
theorem k_X11_drawWhatIsAhead_60 : look a_X11_drawWhatIsAhead 60 = vCallM w_X11_canChange 27 3 63 := rfl
theorem k_X11_drawWhatIsAhead_63 : look a_X11_drawWhatIsAhead 63 = vIfEq 75 66 := rfl
theorem k_X11_drawWhatIsAhead_66 : look a_X11_drawWhatIsAhead 66 = vAload 0 67 := rfl
theorem k_X11_drawWhatIsAhead_67 : look a_X11_drawWhatIsAhead 67 = vGetR TT 27 10 16 70 := rfl
theorem k_X11_drawWhatIsAhead_70 : look a_X11_drawWhatIsAhead 70 = vIload 2 71 := rfl
theorem k_X11_drawWhatIsAhead_71 : look a_X11_drawWhatIsAhead 71 = vIload 3 72 := rfl
theorem k_X11_drawWhatIsAhead_72 : look a_X11_drawWhatIsAhead 72 = vCallMV w_X0_takeTicket 16 2 75 := rfl
theorem k_X11_drawWhatIsAhead_75 : look a_X11_drawWhatIsAhead 75 = vVret := rfl
theorem o_X11_drawWhatIsAhead {X : amX} (e1 : XT X = TT) (e2 : XD X = 4) (hB : amB X RX11 cX11_drawWhatIsAhead (none) 4) : ∀ pc, amOK X pc (look a_X11_drawWhatIsAhead pc) := by
  have hT : amTok (XT X) := e1 ▸ TT_ok
  refine look_ok ?_
  unfold a_X11_drawWhatIsAhead
  refine fc (ok_aload_n hB dX11_drawWhatIsAhead_0) ?_
  refine fc (okt_getR e1 hB hT fl_X11_23 rfl af_11_2 at_11_2 (by decide) dX11_drawWhatIsAhead_1) ?_
  refine fc (ok_iconst hB dX11_drawWhatIsAhead_4) ?_
  refine fc (ok_callM hB hT (e1 ▸ s_X6_many) lk_X11_154 (by rw [e2]; decide) (c := 6) rfl rfl rfl wd_557 wd_558 dX11_drawWhatIsAhead_5) ?_
  refine fc (ok_istore_n hB (by decide) dX11_drawWhatIsAhead_8) ?_
  refine fc (ok_aload_n hB dX11_drawWhatIsAhead_9) ?_
  refine fc (ok_bipush hB dX11_drawWhatIsAhead_10 (by decide)) ?_
  refine fc (ok_callM hB hT (e1 ▸ s_X11_draw) lk_X11_252 (by rw [e2]; decide) (c := 11) rfl rfl rfl wd_910 sl_X11_draw dX11_drawWhatIsAhead_12) ?_
  refine fc (ok_aload_n hB dX11_drawWhatIsAhead_15) ?_
  refine fc (ok_getI hB hT fl_X11_55 rfl rfl (Or.inl af_11_8) dX11_drawWhatIsAhead_16) ?_
  refine fc (ok_icmp_ge hB (t := 34) (by decide) dX11_drawWhatIsAhead_19) ?_
  refine fc (ok_aload_n hB dX11_drawWhatIsAhead_22) ?_
  refine fc (okt_getR e1 hB hT fl_X11_65 rfl af_11_10 at_11_10 (by decide) dX11_drawWhatIsAhead_23) ?_
  refine fc (ok_aload_n hB dX11_drawWhatIsAhead_26) ?_
  refine fc (ok_iload_n hB dX11_drawWhatIsAhead_27) ?_
  refine fc (ok_callM hB hT (e1 ▸ s_X11_draw) lk_X11_252 (by rw [e2]; decide) (c := 11) rfl rfl rfl wd_910 sl_X11_draw dX11_drawWhatIsAhead_28) ?_
  refine fc (ok_callMV hB hT (e1 ▸ s_X0_fallIll) lk_X11_243 (by rw [e2]; decide) (c := 0) rfl rfl rfl wd_885 wd_886 dX11_drawWhatIsAhead_31) ?_
  refine fc (ok_aload_n hB dX11_drawWhatIsAhead_34) ?_
  refine fc (ok_aload_n hB dX11_drawWhatIsAhead_35) ?_
  refine fc (okt_getR e1 hB hT fl_X11_23 rfl af_11_2 at_11_2 (by decide) dX11_drawWhatIsAhead_36) ?_
  refine fc (ok_iconst hB dX11_drawWhatIsAhead_39) ?_
  refine fc (ok_callM hB hT (e1 ▸ s_X6_many) lk_X11_154 (by rw [e2]; decide) (c := 6) rfl rfl rfl wd_557 wd_558 dX11_drawWhatIsAhead_40) ?_
  refine fc (ok_callM hB hT (e1 ▸ s_X11_draw) lk_X11_252 (by rw [e2]; decide) (c := 11) rfl rfl rfl wd_910 sl_X11_draw dX11_drawWhatIsAhead_43) ?_
  refine fc (ok_istore_n hB (by decide) dX11_drawWhatIsAhead_46) ?_
  refine fc (ok_aload_n hB dX11_drawWhatIsAhead_47) ?_
  refine fc (ok_iload_n hB dX11_drawWhatIsAhead_48) ?_
  refine fc (ok_callM hB hT (e1 ▸ s_X11_draw) lk_X11_252 (by rw [e2]; decide) (c := 11) rfl rfl rfl wd_910 sl_X11_draw dX11_drawWhatIsAhead_49) ?_
  refine fc (ok_istore_n hB (by decide) dX11_drawWhatIsAhead_52) ?_
  refine fc (ok_aload_n hB dX11_drawWhatIsAhead_53) ?_
  refine fc (ok_aload_n hB dX11_drawWhatIsAhead_54) ?_
  refine fc (okt_getR e1 hB hT fl_X11_65 rfl af_11_10 at_11_10 (by decide) dX11_drawWhatIsAhead_55) ?_
  refine fc (ok_iload_n hB dX11_drawWhatIsAhead_58) ?_
  refine fc (ok_iload_n hB dX11_drawWhatIsAhead_59) ?_
  refine fc (ok_callM hB hT (e1 ▸ s_X11_canChange) lk_X11_232 (by rw [e2]; decide) (c := 11) rfl rfl rfl wd_870 sl_X11_canChange dX11_drawWhatIsAhead_60) ?_
  refine fc (ok_if_eq hB (t := 75) (by decide) dX11_drawWhatIsAhead_63) ?_
  refine fc (ok_aload_n hB dX11_drawWhatIsAhead_66) ?_
  refine fc (okt_getR e1 hB hT fl_X11_65 rfl af_11_10 at_11_10 (by decide) dX11_drawWhatIsAhead_67) ?_
  refine fc (ok_iload_n hB dX11_drawWhatIsAhead_70) ?_
  refine fc (ok_iload_n hB dX11_drawWhatIsAhead_71) ?_
  refine fc (ok_callMV hB hT (e1 ▸ s_X0_takeTicket) lk_X11_236 (by rw [e2]; decide) (c := 0) rfl rfl rfl wd_873 wd_874 dX11_drawWhatIsAhead_72) ?_
  refine fc (ok_vret hB dX11_drawWhatIsAhead_75) ?_
  exact fn
/-- perhaps one falls ill -/
def daI (σ : Mem) : Mem := if amLushr (dN (σ 0 9)) 33 % 10 < σ 0 8 then up (up (up σ 0 9 (dN (σ 0 9))) 0 9 (dN (dN (σ 0 9)))) 16 4 (amIor (σ 16 4) (amIshl 1 (amLushr (dN (dN (σ 0 9))) 33 % pcnt σ 6 3))) else up σ 0 9 (dN (σ 0 9))
abbrev daD (σ : Mem) : Mem := up (up σ 0 9 (dN (σ 0 9))) 0 9 (dN (dN (σ 0 9)))
abbrev daC (σ : Mem) : Int := amLushr (dN (σ 0 9)) 33 % pcnt σ 6 2
abbrev daS (σ : Mem) : Int := amLushr (dN (dN (σ 0 9))) 33 % pcnt σ 6 3
/-- what is ahead of an EVENING -/
def ahS (σ τ : Mem) : Prop := (okC (daI σ) 16 (daC (daI σ)) (daS (daI σ)) ∧ τ = up (up (daD (daI σ)) 19 (daC (daI σ)) (σ 19 (daC (daI σ)) - σ 16 5)) 18 (daC (daI σ)) (daS (daI σ))) ∨ (¬ okC (daI σ) 16 (daC (daI σ)) (daS (daI σ)) ∧ τ = daD (daI σ))
def w_X11_drawWhatIsAhead : WP := fun av σ Q => av = [(27, 0)] ∧ (planB σ 6 ∧ 1 ≤ pcnt σ 6 2 ∧ 1 ≤ pcnt σ 6 3 ∧ InR (σ 0 8) ∧ auS σ 16 ∧ (∀ τ, ahS σ τ → Q (6, 0) τ))
theorem w_X11_drawWhatIsAhead_e  (σ : Mem) (Q : AV → Mem → Prop) : w_X11_drawWhatIsAhead [(27, 0)] σ Q = (planB σ 6 ∧ 1 ≤ pcnt σ 6 2 ∧ 1 ≤ pcnt σ 6 3 ∧ InR (σ 0 8) ∧ auS σ 16 ∧ (∀ τ, ahS σ τ → Q (6, 0) τ)) := by
  apply propext; constructor
  · rintro ⟨h9, hb9⟩; cases h9; exact hb9
  · intro hb9; exact ⟨rfl, hb9⟩
theorem dr_b {x b : Int} (h0 : 1 ≤ b) (h1 : b ≤ 6) : 0 ≤ amLushr x 33 % b ∧ amLushr x 33 % b < b ∧ b ≤ 6 := ⟨Int.emod_nonneg _ (by omega), Int.emod_lt_of_pos _ (by omega), h1⟩
set_option maxRecDepth 100000 in
set_option maxHeartbeats 4000000 in
theorem s_X11_drawWhatIsAhead : ∀ av σ Q, w_X11_drawWhatIsAhead av σ Q → amCall 4 0 0 TT yX11_drawWhatIsAhead cX11_drawWhatIsAhead 4 (none) av σ Q := by
  rintro av σ Q ⟨rfl, hB, hc2, hc3, hfl, hau, h⟩
  have h1 : okC (daI σ) 16 (daC (daI σ)) (daS (daI σ)) → Q (6, 0) (up (up (daD (daI σ)) 19 (daC (daI σ)) (σ 19 (daC (daI σ)) - σ 16 5)) 18 (daC (daI σ)) (daS (daI σ))) := fun g => h _ (Or.inl ⟨g, rfl⟩)
  have h2 : ¬ okC (daI σ) 16 (daC (daI σ)) (daS (daI σ)) → Q (6, 0) (daD (daI σ)) := fun g => h _ (Or.inr ⟨g, rfl⟩)
  clear h
  have c2 := pcnt_b hB 2
  have c3 := pcnt_b hB 3
  obtain ⟨u1, u2, u3⟩ := id hau
  have e18 : (16 : Int) + 2 = 18 := rfl
  have e19 : (16 : Int) + 3 = 19 := rfl
  rw [e18] at u1
  rw [e19] at u2
  have pcu : ∀ (τ : Mem) (a k v : Int), a ≠ 8 → ∀ x, pcnt (up τ a k v) 6 x = pcnt τ 6 x := fun τ a k v ha x => pcnt_cong (up_na _ (by omega)) x
  have pc0 : ∀ (τ : Mem) (k v x : Int), pcnt (up τ 0 k v) 6 x = pcnt τ 6 x := fun τ k v x => pcu τ 0 k v (by decide) x
  have pc16 : ∀ (τ : Mem) (k v x : Int), pcnt (up τ 16 k v) 6 x = pcnt τ 6 x := fun τ k v x => pcu τ 16 k v (by decide) x
  have plb : ∀ τ : Mem, τ (6 + 1) = σ (6 + 1) → τ (6 + 2) = σ (6 + 2) → planB τ 6 := fun τ q1 q2 => by unfold planB; rw [q1, q2]; exact hB
  have lb := lush33 (dN (σ 0 9))
  have v1 : 0 ≤ amLushr (dN (σ 0 9)) 33 % 10 ∧ amLushr (dN (σ 0 9)) 33 % 10 < 10 := by omega
  refine am_m0 (own := RX11) (A := look a_X11_drawWhatIsAhead) (fun X e1 e2 hB => o_X11_drawWhatIsAhead e1 e2 hB) rfl (by decide +kernel) rfl rfl 190 (w := 4) ?_
  change vcs _ _ _ _ 190 0 [(27, 0), (6, 0), (6, 0), (6, 0)] [] σ
  simp only [↓reduceIte, inR_0, inR_1, inR_m, vSw2_e, swP_n, swP_c, vI_e, vL_e, vNull_e, vIload_e, vLload_e, vAload_e, vIstore_e, vLstore_e, vAstore_e, vIinc_e, vIadd_e, vIsub_e, vImul_e, vIand_e, vIor_e, vIxor_e, vIshl_e, vIshr_e, vIushr_e, vIdiv_e, vIrem_e, vLadd_e, vLsub_e, vLmul_e, vLand_e, vLor_e, vLxor_e, vLdiv_e, vLrem_e, vLushr_e, vLshl_e, vLcmp_e, vIneg_e, vI2l_e, vL2i_e, vI2b_e, vI2c_e, vDup_e, vPop_e, vDup2_e, vGoto_e, vIcEq_e, vIfEq_e, vIcNe_e, vIfNe_e, vIcLt_e, vIfLt_e, vIcGe_e, vIfGe_e, vIcGt_e, vIfGt_e, vIcLe_e, vIfLe_e, vNonnull_e, vSw_e, vGetI_e, vGetL_e, vGetR_e, vPutI_e, vPutZ_e, vPutL_e, vPutR_e, vIald_e, vIald_s, vLald_e, vBald_e, vBald_s, vAald_e, vIast_e, vLast_e, vBast_e, vAast_e, vAlen_e8, vAlen_e9, vAlen_e10, vAlen_e11, vAlen_e5, vAlen_e3, vGets_e, vCompact_e, vLdcS_e, vIret_e, vZret_e, vCret_e, vBret_e, vLret_e, vVret_e, vAret_e, vCallM_e0, vCallMV_e0, vCallS_e0, vCallSV_e0, vCallM_e1, vCallMV_e1, vCallS_e1, vCallSV_e1, vCallM_e2, vCallMV_e2, vCallS_e2, vCallSV_e2, vCallM_e3, vCallMV_e3, vCallS_e3, vCallSV_e3, vCallM_e4, vCallMV_e4, vCallS_e4, vCallSV_e4, vCallM_e5, vCallMV_e5, vCallS_e5, vCallSV_e5, vCallM_e6, vCallMV_e6, vCallS_e6, vCallSV_e6, vCallM_e7, vCallMV_e7, vCallS_e7, vCallSV_e7, vBad_e, vStrVal_e, vStrCod_e, vForm_e, vCallT_e0, vCallT_e1, vCallT_e2, vCopy_e, rf_0_0, rf_0_1, rf_0_2, rf_0_3, rf_0_4, rf_0_7, rf_0_10, rf_0_11, rf_0_12, rf_0_13, rf_0_14, rf_0_15, rf_0_16, rf_1_0, rf_3_0, rf_3_1, rf_6_0, rf_6_1, rf_9_0, rf_9_1, rf_9_3, rf_13_0, rf_13_1, rf_13_2, rf_16_0, rf_16_1, rf_16_2, rf_16_3, rf_21_0, rf_21_1, rf_21_2, rf_21_3, rf_26_0, rf_26_1, rf_26_2, rf_26_3, rf_26_4, rf_26_5, rf_26_6, rf_31_0, rf_31_2, rf_31_5, rf_31_6, rf_36_0, rf_36_1, rf_36_2, rf_36_3, rf_39_0, rf_39_1, rf_39_2, rf_41_0, rf_41_1, rf_41_2, rf_41_3, rf_5000_1, rf_5000_2, rf_5000_3, rf_5000_4, rf_5000_5, rf_5000_15, rf_5000_16, rf_5000_18, rf_5000_19, rf_5000_20, rf_5000_21, rf_5000_22, rf_5000_23, rf_5000_24, rf_5000_25, rf_5000_26, rf_5000_27, rf_5000_36, rf_5000_37, rf_5000_40, rf_5000_41, rf_5000_42, rf_5000_43, rf_5000_44, rf_5000_45, rf_5000_47, rf_5000_52, rf_5000_54, rf_5000_55, rf_100_0, rf_100_1, rf_103_0, rf_103_1, rf_106_0, rf_106_1, rf_109_0, rf_109_1, al_2, al_4, al_5, al_7, al_8, al_10, al_11, al_12, al_14, al_15, al_17, al_18, al_19, al_20, al_22, al_23, al_24, al_25, al_27, al_28, al_29, al_30, al_32, al_33, al_34, al_35, al_37, al_38, al_40, al_42, al_5001, al_5002, al_5003, al_5004, al_5005, al_5006, al_5007, al_5008, al_5009, al_5010, al_5011, al_5012, al_5013, al_5014, al_5015, al_5016, al_5017, al_5018, al_5019, al_5020, al_5021, al_5022, al_5023, al_5024, al_5025, al_5026, al_9000, al_101, al_102, al_104, al_105, al_107, al_108, al_110, al_111, vcs_e, lg_c0, lg_cs, lg_nil, set_c0, set_cs, okst_0, okst_s, acok_n, acok_c, List.contains_nil, List.contains_cons, Bool.or_false, Bool.false_or, Bool.false_eq_true, if_false, if_true, ite_self, ne_eq, true_and, and_true, not_false_eq_true, not_true_eq_false, false_imp_iff, true_imp_iff, Nat.ble_eq, Bool.and_eq_true, reduceCtorEq, or_false, false_or, or_true, true_or, false_and, and_false, and_self, Int.reduceLE, Int.reduceAdd, Int.reduceSub, Int.reduceMul, Int.reduceNeg, Int.reduceLT, Int.reduceEq, Int.reduceNe, Nat.reduceBEq, Nat.reduceBNe, Nat.reduceEqDiff, amCmp_in, amCmp_lt, amCmp_le, amCmp_gt, amCmp_ge, amCmp_eq, amCmp_ne, Nat.reduceLeDiff, Nat.reduceSub, Bool.and_true, Bool.true_and, Bool.and_self, Bool.or_true, Bool.true_or, isRf_3, isRf_4, isRf_5, isRf_8, isRf_9, isRf_10, isRf_11, isRf_15, isRf_16, isRf_17, isRf_18, isRf_19, isRf_20, isRf_21, isRf_22, isRf_23, isRf_24, isRf_25, isRf_26, isRf_27, isRf_28, k_X11_drawWhatIsAhead_0, k_X11_drawWhatIsAhead_1, k_X11_drawWhatIsAhead_4, k_X11_drawWhatIsAhead_5, k_X11_drawWhatIsAhead_8, k_X11_drawWhatIsAhead_9, k_X11_drawWhatIsAhead_10, k_X11_drawWhatIsAhead_12, k_X11_drawWhatIsAhead_15, k_X11_drawWhatIsAhead_16, k_X11_drawWhatIsAhead_19, k_X11_drawWhatIsAhead_22, k_X11_drawWhatIsAhead_23, k_X11_drawWhatIsAhead_26, k_X11_drawWhatIsAhead_27, k_X11_drawWhatIsAhead_28, k_X11_drawWhatIsAhead_31, k_X11_drawWhatIsAhead_34, k_X11_drawWhatIsAhead_35, k_X11_drawWhatIsAhead_36, k_X11_drawWhatIsAhead_39, k_X11_drawWhatIsAhead_40, k_X11_drawWhatIsAhead_43, k_X11_drawWhatIsAhead_46, k_X11_drawWhatIsAhead_47, k_X11_drawWhatIsAhead_48, k_X11_drawWhatIsAhead_49, k_X11_drawWhatIsAhead_52, k_X11_drawWhatIsAhead_53, k_X11_drawWhatIsAhead_54, k_X11_drawWhatIsAhead_55, k_X11_drawWhatIsAhead_58, k_X11_drawWhatIsAhead_59, k_X11_drawWhatIsAhead_60, k_X11_drawWhatIsAhead_63, k_X11_drawWhatIsAhead_66, k_X11_drawWhatIsAhead_67, k_X11_drawWhatIsAhead_70, k_X11_drawWhatIsAhead_71, k_X11_drawWhatIsAhead_72, k_X11_drawWhatIsAhead_75, w_X0_fallIll_e, w_X0_takeTicket_e, w_X11_canChange_e, w_X11_draw_e, w_X6_many_e, up_s, up_nj, up_na, up_up, savR_o, cpy_o, fillm_o, setAud_o, setv_o, setv_s, Int.reduceNe, Int.reduceEq, Int.reduceLT, Int.reduceAdd, not_false_eq_true, ne_eq, or_true, true_or, pc0, pc16, e18, e19]
  unfold okC daC daS daD at h1 h2
  by_cases ci : amLushr (dN (σ 0 9)) 33 % 10 < σ 0 8
  · have ed : daI σ = up (up (up σ 0 9 (dN (σ 0 9))) 0 9 (dN (dN (σ 0 9)))) 16 4 (amIor (σ 16 4) (amIshl 1 (amLushr (dN (dN (σ 0 9))) 33 % pcnt σ 6 3))) := if_pos ci
    simp only [ed, pc0, pc16, e18, e19, up_s, up_nj, up_na, up_up, savR_o, cpy_o, fillm_o, setAud_o, setv_o, setv_s, Int.reduceNe, Int.reduceEq, Int.reduceLT, Int.reduceAdd, not_false_eq_true, ne_eq, or_true, true_or] at h1 h2
    have b0 := dr_b (x := dN (dN (σ 0 9))) hc3 c3.2
    have b1 := dr_b (x := dN (dN (dN (σ 0 9)))) hc2 c2.2
    have b2 := dr_b (x := dN (dN (dN (dN (σ 0 9))))) hc3 c3.2
    have pl1 : planB (up (up (up σ 0 9 (dN (dN (σ 0 9)))) 16 4 (amIor (σ 16 4) (amIshl 1 (amLushr (dN (dN (σ 0 9))) 33 % pcnt σ 6 3)))) 0 9 (dN (dN (dN (dN (σ 0 9)))))) 6 := plb _ (by rw [up_na _ (by decide), up_na _ (by decide), up_na _ (by decide)]) (by rw [up_na _ (by decide), up_na _ (by decide), up_na _ (by decide)])
    generalize hv : amLushr (dN (σ 0 9)) 33 % 10 = v at *
    generalize ht0 : amLushr (dN (dN (σ 0 9))) 33 % pcnt σ 6 3 = t0 at *
    generalize hc : amLushr (dN (dN (dN (σ 0 9)))) 33 % pcnt σ 6 2 = c at *
    generalize ht : amLushr (dN (dN (dN (dN (σ 0 9))))) 33 % pcnt σ 6 3 = t at *
    by_cases dK : (0 ≤ c ∧ c < pcnt σ 6 2) ∧ (0 ≤ t ∧ t < pcnt σ 6 3) ∧ ¬ σ 18 c = t ∧ σ 16 5 ≤ σ 19 c
    · have hh := h1 dK
      simp only [if_pos dK]
      repeat' (first | assumption | apply And.intro | intro _)
      all_goals first | omega | exact absurd trivial (by assumption) | exact isP6 | exact isA16 | exact hh
    · have hh := h2 dK
      simp only [if_neg dK]
      repeat' (first | assumption | apply And.intro | intro _)
      all_goals first | omega | exact absurd trivial (by assumption) | exact isP6 | exact isA16 | exact hh
  · have ed : daI σ = up σ 0 9 (dN (σ 0 9)) := if_neg ci
    simp only [ed, pc0, pc16, e18, e19, up_s, up_nj, up_na, up_up, savR_o, cpy_o, fillm_o, setAud_o, setv_o, setv_s, Int.reduceNe, Int.reduceEq, Int.reduceLT, Int.reduceAdd, not_false_eq_true, ne_eq, or_true, true_or] at h1 h2
    have b1 := dr_b (x := dN (dN (σ 0 9))) hc2 c2.2
    have b2 := dr_b (x := dN (dN (dN (σ 0 9)))) hc3 c3.2
    have pl1 : planB (up σ 0 9 (dN (dN (dN (σ 0 9))))) 6 := plb _ (up_na _ (by decide)) (up_na _ (by decide))
    generalize hv : amLushr (dN (σ 0 9)) 33 % 10 = v at *
    generalize hc : amLushr (dN (dN (σ 0 9))) 33 % pcnt σ 6 2 = c at *
    generalize ht : amLushr (dN (dN (dN (σ 0 9)))) 33 % pcnt σ 6 3 = t at *
    by_cases dK : (0 ≤ c ∧ c < pcnt σ 6 2) ∧ (0 ≤ t ∧ t < pcnt σ 6 3) ∧ ¬ σ 18 c = t ∧ σ 16 5 ≤ σ 19 c
    · have hh := h1 dK
      simp only [if_pos dK]
      repeat' (first | assumption | apply And.intro | intro _)
      all_goals first | omega | exact absurd trivial (by assumption) | exact isP6 | exact isA16 | exact hh
    · have hh := h2 dK
      simp only [if_neg dK]
      repeat' (first | assumption | apply And.intro | intro _)
      all_goals first | omega | exact absurd trivial (by assumption) | exact isP6 | exact isA16 | exact hh
