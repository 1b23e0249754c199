/-! the reference: EVENINGS, STEPS -/
theorem mX_g {σ : Mem} {a : Int} (h : mX σ a) : (∀ c, 0 ≤ c → c < σ 5000 29 → 0 ≤ σ a (4 * c + 3) ∧ σ a (4 * c + 3) ≤ 9999) ∧ 0 ≤ σ a 27 ∧ σ a 27 ≤ 60 := ⟨fun c c0 c1 => (h.2.2.1 c c0 c1).2.2.2, h.2.2.2.2.2.2⟩
theorem wd_1684 : Cond.methodLink RX12 379 yX12_canPlay ∈ TBL := tb_tab (List.mem_of_getElem? (i := 1684) (by decide +kernel)) rfl
theorem wd_1687 : Cond.code yX12_canPlay cX12_canPlay 3 (some .boolean) ∈ TBL := tb_tab (List.mem_of_getElem? (i := 1687) (by decide +kernel)) rfl
theorem lk_X12_379 : amLk RX12 379 yX12_canPlay cX12_canPlay 3 (some .boolean) 2 := ⟨wd_1684, wd_12, wd_1687, by decide +kernel, by decide +kernel, by decide⟩
theorem wd_1686 : Cond.instanceMethod yX12_canPlay ∈ TBL := tb_tab (List.mem_of_getElem? (i := 1686) (by decide +kernel)) rfl
theorem sl_X12_canPlay : Cond.selects RX12 yX12_canPlay yX12_canPlay ∈ TBL := tb_sel (List.mem_of_getElem? (i := 75) (by decide +kernel)) rfl
theorem wd_1692 : Cond.methodLink RX12 386 yX12_goEvening ∈ TBL := tb_tab (List.mem_of_getElem? (i := 1692) (by decide +kernel)) rfl
theorem wd_1695 : Cond.code yX12_goEvening cX12_goEvening 5 (some .int) ∈ TBL := tb_tab (List.mem_of_getElem? (i := 1695) (by decide +kernel)) rfl
theorem lk_X12_386 : amLk RX12 386 yX12_goEvening cX12_goEvening 5 (some .int) 2 := ⟨wd_1692, wd_12, wd_1695, by decide +kernel, by decide +kernel, by decide⟩
theorem wd_1694 : Cond.instanceMethod yX12_goEvening ∈ TBL := tb_tab (List.mem_of_getElem? (i := 1694) (by decide +kernel)) rfl
theorem sl_X12_goEvening : Cond.selects RX12 yX12_goEvening yX12_goEvening ∈ TBL := tb_sel (List.mem_of_getElem? (i := 77) (by decide +kernel)) rfl
def a_X12_evening : AC := [(0, vAload 0 1), (1, vI 0 2), (2, vPutI 28 0 5), (5, vAload 0 6), (6, vAload 0 7), (7, vGetR TT 28 36 8 10), (10, vIload 1 11), (11, vCallM w_X12_canPlay 28 2 14), (14, vIfNe 19 17), (17, vI (-1) 18), (18, vIret), (19, vAload 0 20), (20, vCallMV w_X12_remember 28 0 23), (23, vAload 0 24), (24, vAload 0 25), (25, vGetR TT 28 36 8 28), (28, vIload 1 29), (29, vCallM w_X12_goEvening 28 2 32), (32, vIret)]
theorem k_X12_evening_0 : look a_X12_evening 0 = vAload 0 1 := rfl
theorem k_X12_evening_1 : look a_X12_evening 1 = vI 0 2 := rfl
theorem k_X12_evening_2 : look a_X12_evening 2 = vPutI 28 0 5 := rfl
theorem k_X12_evening_5 : look a_X12_evening 5 = vAload 0 6 := rfl
theorem k_X12_evening_6 : look a_X12_evening 6 = vAload 0 7 := rfl
theorem k_X12_evening_7 : look a_X12_evening 7 = vGetR TT 28 36 8 10 := rfl
theorem k_X12_evening_10 : look a_X12_evening 10 = vIload 1 11 := rfl
theorem k_X12_evening_11 : look a_X12_evening 11 = vCallM w_X12_canPlay 28 2 14 := rfl
theorem k_X12_evening_14 : look a_X12_evening 14 = vIfNe 19 17 := rfl
theorem k_X12_evening_17 : look a_X12_evening 17 = vI (-1) 18 := rfl
theorem k_X12_evening_18 : look a_X12_evening 18 = vIret := rfl
theorem k_X12_evening_19 : look a_X12_evening 19 = vAload 0 20 := rfl
theorem k_X12_evening_20 : look a_X12_evening 20 = vCallMV w_X12_remember 28 0 23 := rfl
theorem k_X12_evening_23 : look a_X12_evening 23 = vAload 0 24 := rfl
theorem k_X12_evening_24 : look a_X12_evening 24 = vAload 0 25 := rfl
theorem k_X12_evening_25 : look a_X12_evening 25 = vGetR TT 28 36 8 28 := rfl
theorem k_X12_evening_28 : look a_X12_evening 28 = vIload 1 29 := rfl
theorem k_X12_evening_29 : look a_X12_evening 29 = vCallM w_X12_goEvening 28 2 32 := rfl
theorem k_X12_evening_32 : look a_X12_evening 32 = vIret := rfl
theorem o_X12_evening {X : amX} (e1 : XT X = TT) (e2 : XD X = 61) (hB : amB X RX12 cX12_evening (some .int) 2) : ∀ pc, amOK X pc (look a_X12_evening pc) := by
  have hT : amTok (XT X) := e1 ▸ TT_ok
  refine look_ok ?_
  unfold a_X12_evening
  refine fc (ok_aload_n hB dX12_evening_0) ?_
  refine fc (ok_iconst hB dX12_evening_1) ?_
  refine fc (ok_putI hB hT fp_X12_111 rfl rfl rfl af_12_0 dX12_evening_2) ?_
  refine fc (ok_aload_n hB dX12_evening_5) ?_
  refine fc (ok_aload_n hB dX12_evening_6) ?_
  refine fc (okt_getR e1 hB hT fl_X12_67 rfl af_12_36 at_12_36 (by decide) dX12_evening_7) ?_
  refine fc (ok_iload_n hB dX12_evening_10) ?_
  refine fc (ok_callM hB hT (e1 ▸ s_X12_canPlay) lk_X12_379 (by rw [e2]; decide) (c := 12) rfl rfl rfl wd_1686 sl_X12_canPlay dX12_evening_11) ?_
  refine fc (ok_if_ne hB (t := 19) (by decide) dX12_evening_14) ?_
  refine fc (ok_iconst hB dX12_evening_17) ?_
  refine fc (ok_iret hB dX12_evening_18) ?_
  refine fc (ok_aload_n hB dX12_evening_19) ?_
  refine fc (ok_callMV hB hT (e1 ▸ s_X12_remember) lk_X12_383 (by rw [e2]; decide) (c := 12) rfl rfl rfl wd_1690 sl_X12_remember dX12_evening_20) ?_
  refine fc (ok_aload_n hB dX12_evening_23) ?_
  refine fc (ok_aload_n hB dX12_evening_24) ?_
  refine fc (okt_getR e1 hB hT fl_X12_67 rfl af_12_36 at_12_36 (by decide) dX12_evening_25) ?_
  refine fc (ok_iload_n hB dX12_evening_28) ?_
  refine fc (ok_callM hB hT (e1 ▸ s_X12_goEvening) lk_X12_386 (by rw [e2]; decide) (c := 12) rfl rfl rfl wd_1694 sl_X12_goEvening dX12_evening_29) ?_
  refine fc (ok_iret hB dX12_evening_32) ?_
  exact fn

def w_X12_evening : WP := fun av σ Q => ∃ (p : Int), av = [(28, 5000), (0, p)] ∧ (InR p ∧ mX σ 5015 ∧ (¬ (0 ≤ p ∧ p < σ 5000 28 ∧ σ 5015 26 < 999) → Q (0, -1) (th0 σ)) ∧ (0 ≤ p ∧ p < σ 5000 28 ∧ σ 5015 26 < 999 → ∀ τ, mEv (rmb (th0 σ)) 5015 p τ → Q (0, mEm (rmb (th0 σ)) 5015 p) τ))
theorem w_X12_evening_e (p : Int) (σ : Mem) (Q : AV → Mem → Prop) : w_X12_evening [(28, 5000), (0, p)] σ Q = (InR p ∧ mX σ 5015 ∧ (¬ (0 ≤ p ∧ p < σ 5000 28 ∧ σ 5015 26 < 999) → Q (0, -1) (th0 σ)) ∧ (0 ≤ p ∧ p < σ 5000 28 ∧ σ 5015 26 < 999 → ∀ τ, mEv (rmb (th0 σ)) 5015 p τ → Q (0, mEm (rmb (th0 σ)) 5015 p) τ)) := by
  apply propext; constructor
  · rintro ⟨p', h9, hb9⟩; cases h9; exact hb9
  · intro hb9; exact ⟨p, rfl, hb9⟩

set_option maxRecDepth 100000 in
set_option maxHeartbeats 4000000 in
theorem s_X12_evening : ∀ av σ Q, w_X12_evening av σ Q → amCall 61 0 0 TT yX12_evening cX12_evening 2 (some .int) av σ Q := by
  rintro av σ Q ⟨p, rfl, hp, hx, h1, h2⟩
  have t15 : th0 σ 5015 = σ 5015 := th_o σ (by decide)
  have e28 : th0 σ 5000 28 = σ 5000 28 := th_k σ (by decide)
  have e48 : th0 σ 5000 48 = σ 5000 48 := th_k σ (by decide)
  have hx2 := mX_rmb (mX_th hx)
  have hP2 := mX_P hx2
  obtain ⟨g1, g2, g3⟩ := mX_g hx2
  have b28 := hx.2.1.2.2.2.2.1
  have b48 := hx.2.1.2.2.2.2.2.2.2.2
  have b26 := hx.2.2.2.2.2.1
  have rb28 : rmb (up σ 5000 0 0) 5000 28 = σ 5000 28 := by rw [rmb_k _ (by decide), up_nj _ (by decide)]
  refine am_m0 (own := RX12) (A := look a_X12_evening) (fun X e1 e2 hB => o_X12_evening e1 e2 hB) rfl (by decide +kernel) rfl rfl 190 (w := 2) ?_
  change vcs _ _ _ _ 190 0 [(28, 5000), (0, p)] [] σ
  simp only [↓reduceIte, inR_0, inR_1, inR_m, vSw2_e, swP_n, swP_c, vI_e, vL_e, vNull_e, vIload_e, vLload_e, vAload_e, vIstore_e, vLstore_e, vAstore_e, vIinc_e, vIadd_e, vIsub_e, vImul_e, vIand_e, vIor_e, vIxor_e, vIshl_e, vIshr_e, vIushr_e, vIdiv_e, vIrem_e, vLadd_e, vLsub_e, vLmul_e, vLand_e, vLor_e, vLxor_e, vLdiv_e, vLrem_e, vLushr_e, vLshl_e, vLcmp_e, vIneg_e, vI2l_e, vL2i_e, vI2b_e, vI2c_e, vDup_e, vPop_e, vDup2_e, vGoto_e, vIcEq_e, vIfEq_e, vIcNe_e, vIfNe_e, vIcLt_e, vIfLt_e, vIcGe_e, vIfGe_e, vIcGt_e, vIfGt_e, vIcLe_e, vIfLe_e, vNonnull_e, vSw_e, vGetI_e, vGetL_e, vGetR_e, vPutI_e, vPutZ_e, vPutL_e, vPutR_e, vIald_e, vIald_s, vLald_e, vBald_e, vBald_s, vAald_e, vIast_e, vLast_e, vBast_e, vAast_e, vAlen_e8, vAlen_e9, vAlen_e10, vAlen_e11, vAlen_e5, vAlen_e3, vGets_e, vCompact_e, vLdcS_e, vIret_e, vZret_e, vCret_e, vBret_e, vLret_e, vVret_e, vAret_e, vCallM_e0, vCallMV_e0, vCallS_e0, vCallSV_e0, vCallM_e1, vCallMV_e1, vCallS_e1, vCallSV_e1, vCallM_e2, vCallMV_e2, vCallS_e2, vCallSV_e2, vCallM_e3, vCallMV_e3, vCallS_e3, vCallSV_e3, vCallM_e4, vCallMV_e4, vCallS_e4, vCallSV_e4, vCallM_e5, vCallMV_e5, vCallS_e5, vCallSV_e5, vCallM_e6, vCallMV_e6, vCallS_e6, vCallSV_e6, vCallM_e7, vCallMV_e7, vCallS_e7, vCallSV_e7, vBad_e, vStrVal_e, vStrCod_e, vForm_e, vCallT_e0, vCallT_e1, vCallT_e2, vCopy_e, rf_0_0, rf_0_1, rf_0_2, rf_0_3, rf_0_4, rf_0_7, rf_0_10, rf_0_11, rf_0_12, rf_0_13, rf_0_14, rf_0_15, rf_0_16, rf_1_0, rf_3_0, rf_3_1, rf_6_0, rf_6_1, rf_9_0, rf_9_1, rf_9_3, rf_13_0, rf_13_1, rf_13_2, rf_16_0, rf_16_1, rf_16_2, rf_16_3, rf_21_0, rf_21_1, rf_21_2, rf_21_3, rf_26_0, rf_26_1, rf_26_2, rf_26_3, rf_26_4, rf_26_5, rf_26_6, rf_31_0, rf_31_2, rf_31_5, rf_31_6, rf_36_0, rf_36_1, rf_36_2, rf_36_3, rf_39_0, rf_39_1, rf_39_2, rf_41_0, rf_41_1, rf_41_2, rf_41_3, rf_5000_1, rf_5000_2, rf_5000_3, rf_5000_4, rf_5000_5, rf_5000_15, rf_5000_16, rf_5000_18, rf_5000_19, rf_5000_20, rf_5000_21, rf_5000_22, rf_5000_23, rf_5000_24, rf_5000_25, rf_5000_26, rf_5000_27, rf_5000_36, rf_5000_37, rf_5000_40, rf_5000_41, rf_5000_42, rf_5000_43, rf_5000_44, rf_5000_45, rf_5000_47, rf_5000_52, rf_5000_54, rf_5000_55, rf_100_0, rf_100_1, rf_103_0, rf_103_1, rf_106_0, rf_106_1, rf_109_0, rf_109_1, al_2, al_4, al_5, al_7, al_8, al_10, al_11, al_12, al_14, al_15, al_17, al_18, al_19, al_20, al_22, al_23, al_24, al_25, al_27, al_28, al_29, al_30, al_32, al_33, al_34, al_35, al_37, al_38, al_40, al_42, al_5001, al_5002, al_5003, al_5004, al_5005, al_5006, al_5007, al_5008, al_5009, al_5010, al_5011, al_5012, al_5013, al_5014, al_5015, al_5016, al_5017, al_5018, al_5019, al_5020, al_5021, al_5022, al_5023, al_5024, al_5025, al_5026, al_9000, al_101, al_102, al_104, al_105, al_107, al_108, al_110, al_111, vcs_e, lg_c0, lg_cs, lg_nil, set_c0, set_cs, okst_0, okst_s, acok_n, acok_c, List.contains_nil, List.contains_cons, Bool.or_false, Bool.false_or, Bool.false_eq_true, if_false, if_true, ite_self, ne_eq, true_and, and_true, not_false_eq_true, not_true_eq_false, false_imp_iff, true_imp_iff, Nat.ble_eq, Bool.and_eq_true, reduceCtorEq, or_false, false_or, or_true, true_or, false_and, and_false, and_self, Int.reduceLE, Int.reduceAdd, Int.reduceSub, Int.reduceMul, Int.reduceNeg, Int.reduceLT, Int.reduceEq, Int.reduceNe, Nat.reduceBEq, Nat.reduceBNe, Nat.reduceEqDiff, amCmp_in, amCmp_lt, amCmp_le, amCmp_gt, amCmp_ge, amCmp_eq, amCmp_ne, Nat.reduceLeDiff, Nat.reduceSub, Bool.and_true, Bool.true_and, Bool.and_self, Bool.or_true, Bool.true_or, isRf_3, isRf_4, isRf_5, isRf_8, isRf_9, isRf_10, isRf_11, isRf_15, isRf_16, isRf_17, isRf_18, isRf_19, isRf_20, isRf_21, isRf_22, isRf_23, isRf_24, isRf_25, isRf_26, isRf_27, isRf_28, k_X12_evening_0, k_X12_evening_1, k_X12_evening_2, k_X12_evening_5, k_X12_evening_6, k_X12_evening_7, k_X12_evening_10, k_X12_evening_11, k_X12_evening_14, k_X12_evening_17, k_X12_evening_18, k_X12_evening_19, k_X12_evening_20, k_X12_evening_23, k_X12_evening_24, k_X12_evening_25, k_X12_evening_28, k_X12_evening_29, k_X12_evening_32, w_X12_canPlay_e, w_X12_goEvening_e, w_X12_remember_e, up_s, up_nj, up_na, up_up, savR_o, cpy_o, fillm_o, setAud_o, setv_o, setv_s, Int.reduceNe, Int.reduceEq, Int.reduceLT, Int.reduceAdd, not_false_eq_true, ne_eq, or_true, true_or, t15, e28, e48]
  by_cases d : 0 ≤ p ∧ p < σ 5000 28 ∧ σ 5015 26 < 999
  · rw [if_pos d]
    have hq := fun τ a b => h2 d _ ⟨τ, a, b, rfl⟩
    repeat' (first | assumption | exact hP2 | exact g1 | apply And.intro | intro _)
    all_goals first | omega | exact absurd trivial (by assumption) | exact hq _ (by assumption) (by assumption) | exact Or.inl rfl
  · rw [if_neg d]
    have hq := h1 d
    repeat' (first | assumption | exact hP2 | exact g1 | apply And.intro | intro _)
    all_goals first | omega | exact absurd trivial (by assumption) | exact hq | exact Or.inl rfl
theorem wd_1354 : Cond.fieldLink RX12 404 "ArmchairHouseModel" "x" "J" ∈ TBL := tb_tab (List.mem_of_getElem? (i := 1354) (by decide +kernel)) rfl
theorem fl_X12_404 : amFl RX12 12 49 404 RX12 TX12 57 := ⟨rfl, inT_12, by decide, wd_1354⟩
theorem wd_1766 : Cond.constantLong RX12 408 6364136223846793005 ∈ TBL := tb_tab (List.mem_of_getElem? (i := 1766) (by decide +kernel)) rfl
theorem wd_1767 : Cond.constantLong RX12 410 1442695040888963407 ∈ TBL := tb_tab (List.mem_of_getElem? (i := 1767) (by decide +kernel)) rfl
theorem fp_X12_404 : amFp RX12 12 49 404 RX12 TX12 57 tyX12 .long := ⟨fl_X12_404, tyX12_ok, nmX12, by decide +kernel⟩
def a_X12_draw : AC := [(0, vAload 0 1), (1, vAload 0 2), (2, vGetL 28 49 5), (5, vL 6364136223846793005 8), (8, vLmul 9), (9, vL 1442695040888963407 12), (12, vLadd 13), (13, vPutL 28 49 16), (16, vAload 0 17), (17, vGetL 28 49 20), (20, vI 33 22), (22, vLushr 23), (23, vIload 1 24), (24, vI2l 25), (25, vLrem 26), (26, vL2i 27), (27, vIret)]
theorem k_X12_draw_0 : look a_X12_draw 0 = vAload 0 1 := rfl
theorem k_X12_draw_1 : look a_X12_draw 1 = vAload 0 2 := rfl
theorem k_X12_draw_2 : look a_X12_draw 2 = vGetL 28 49 5 := rfl
theorem k_X12_draw_5 : look a_X12_draw 5 = vL 6364136223846793005 8 := rfl
theorem k_X12_draw_8 : look a_X12_draw 8 = vLmul 9 := rfl
theorem k_X12_draw_9 : look a_X12_draw 9 = vL 1442695040888963407 12 := rfl
theorem k_X12_draw_12 : look a_X12_draw 12 = vLadd 13 := rfl
theorem k_X12_draw_13 : look a_X12_draw 13 = vPutL 28 49 16 := rfl
theorem k_X12_draw_16 : look a_X12_draw 16 = vAload 0 17 := rfl
theorem k_X12_draw_17 : look a_X12_draw 17 = vGetL 28 49 20 := rfl
theorem k_X12_draw_20 : look a_X12_draw 20 = vI 33 22 := rfl
theorem k_X12_draw_22 : look a_X12_draw 22 = vLushr 23 := rfl
theorem k_X12_draw_23 : look a_X12_draw 23 = vIload 1 24 := rfl
theorem k_X12_draw_24 : look a_X12_draw 24 = vI2l 25 := rfl
theorem k_X12_draw_25 : look a_X12_draw 25 = vLrem 26 := rfl
theorem k_X12_draw_26 : look a_X12_draw 26 = vL2i 27 := rfl
theorem k_X12_draw_27 : look a_X12_draw 27 = vIret := rfl
theorem o_X12_draw {X : amX} (e1 : XT X = TT) (e2 : XD X = 0) (hB : amB X RX12 cX12_draw (some .int) 2) : ∀ pc, amOK X pc (look a_X12_draw pc) := by
  have hT : amTok (XT X) := e1 ▸ TT_ok
  refine look_ok ?_
  unfold a_X12_draw
  refine fc (ok_aload_n hB dX12_draw_0) ?_
  refine fc (ok_aload_n hB dX12_draw_1) ?_
  refine fc (ok_getL hB hT fl_X12_404 rfl rfl af_12_49 dX12_draw_2) ?_
  refine fc (ok_ldc2 hB wd_1766 rfl dX12_draw_5) ?_
  refine fc (ok_lmul hB dX12_draw_8) ?_
  refine fc (ok_ldc2 hB wd_1767 rfl dX12_draw_9) ?_
  refine fc (ok_ladd hB dX12_draw_12) ?_
  refine fc (ok_putL hB hT fp_X12_404 rfl rfl rfl af_12_49 dX12_draw_13) ?_
  refine fc (ok_aload_n hB dX12_draw_16) ?_
  refine fc (ok_getL hB hT fl_X12_404 rfl rfl af_12_49 dX12_draw_17) ?_
  refine fc (ok_bipush hB dX12_draw_20 (by decide)) ?_
  refine fc (ok_lushr hB dX12_draw_22) ?_
  refine fc (ok_iload_n hB dX12_draw_23) ?_
  refine fc (ok_i2l hB dX12_draw_24) ?_
  refine fc (ok_lrem hB dX12_draw_25) ?_
  refine fc (ok_l2i hB dX12_draw_26) ?_
  refine fc (ok_iret hB dX12_draw_27) ?_
  exact fn

def w_X12_draw : WP := fun av σ Q => ∃ (b : Int), av = [(28, 5000), (0, b)] ∧ (1 ≤ b ∧ b ≤ 1000 ∧ Q (0, amLushr (dN (σ 5000 49)) 33 % b) (up σ 5000 49 (dN (σ 5000 49))))
theorem w_X12_draw_e (b : Int) (σ : Mem) (Q : AV → Mem → Prop) : w_X12_draw [(28, 5000), (0, b)] σ Q = (1 ≤ b ∧ b ≤ 1000 ∧ Q (0, amLushr (dN (σ 5000 49)) 33 % b) (up σ 5000 49 (dN (σ 5000 49)))) := by
  apply propext; constructor
  · rintro ⟨b', h9, hb9⟩; cases h9; exact hb9
  · intro hb9; exact ⟨b, rfl, hb9⟩

set_option maxRecDepth 100000 in
set_option maxHeartbeats 4000000 in
theorem s_X12_draw : ∀ av σ Q, w_X12_draw av σ Q → amCall 0 0 0 TT yX12_draw cX12_draw 2 (some .int) av σ Q := by
  rintro av σ Q ⟨b, rfl, h0, h1, h⟩
  have lb := lush33 (dN (σ 5000 49))
  have e1 : Int.tmod (amLushr (dN (σ 5000 49)) 33) b = amLushr (dN (σ 5000 49)) 33 % b := Int.tmod_eq_emod_of_nonneg lb.1
  have e2 := Int.emod_nonneg (amLushr (dN (σ 5000 49)) 33) (show b ≠ 0 by omega)
  have e3 := Int.emod_lt_of_pos (amLushr (dN (σ 5000 49)) 33) (show 0 < b by omega)
  have e4 := l2i_in (x := amLushr (dN (σ 5000 49)) 33 % b) (by omega)
  refine am_m0 (own := RX12) (A := look a_X12_draw) (fun X e1 e2 hB => o_X12_draw e1 e2 hB) rfl (by decide +kernel) rfl rfl 190 (w := 2) ?_
  change vcs _ _ _ _ 190 0 [(28, 5000), (0, b)] [] σ
  simp only [↓reduceIte, inR_0, inR_1, inR_m, vSw2_e, swP_n, swP_c, vI_e, vL_e, vNull_e, vIload_e, vLload_e, vAload_e, vIstore_e, vLstore_e, vAstore_e, vIinc_e, vIadd_e, vIsub_e, vImul_e, vIand_e, vIor_e, vIxor_e, vIshl_e, vIshr_e, vIushr_e, vIdiv_e, vIrem_e, vLadd_e, vLsub_e, vLmul_e, vLand_e, vLor_e, vLxor_e, vLdiv_e, vLrem_e, vLushr_e, vLshl_e, vLcmp_e, vIneg_e, vI2l_e, vL2i_e, vI2b_e, vI2c_e, vDup_e, vPop_e, vDup2_e, vGoto_e, vIcEq_e, vIfEq_e, vIcNe_e, vIfNe_e, vIcLt_e, vIfLt_e, vIcGe_e, vIfGe_e, vIcGt_e, vIfGt_e, vIcLe_e, vIfLe_e, vNonnull_e, vSw_e, vGetI_e, vGetL_e, vGetR_e, vPutI_e, vPutZ_e, vPutL_e, vPutR_e, vIald_e, vIald_s, vLald_e, vBald_e, vBald_s, vAald_e, vIast_e, vLast_e, vBast_e, vAast_e, vAlen_e8, vAlen_e9, vAlen_e10, vAlen_e11, vAlen_e5, vAlen_e3, vGets_e, vCompact_e, vLdcS_e, vIret_e, vZret_e, vCret_e, vBret_e, vLret_e, vVret_e, vAret_e, vCallM_e0, vCallMV_e0, vCallS_e0, vCallSV_e0, vCallM_e1, vCallMV_e1, vCallS_e1, vCallSV_e1, vCallM_e2, vCallMV_e2, vCallS_e2, vCallSV_e2, vCallM_e3, vCallMV_e3, vCallS_e3, vCallSV_e3, vCallM_e4, vCallMV_e4, vCallS_e4, vCallSV_e4, vCallM_e5, vCallMV_e5, vCallS_e5, vCallSV_e5, vCallM_e6, vCallMV_e6, vCallS_e6, vCallSV_e6, vCallM_e7, vCallMV_e7, vCallS_e7, vCallSV_e7, vBad_e, vStrVal_e, vStrCod_e, vForm_e, vCallT_e0, vCallT_e1, vCallT_e2, vCopy_e, rf_0_0, rf_0_1, rf_0_2, rf_0_3, rf_0_4, rf_0_7, rf_0_10, rf_0_11, rf_0_12, rf_0_13, rf_0_14, rf_0_15, rf_0_16, rf_1_0, rf_3_0, rf_3_1, rf_6_0, rf_6_1, rf_9_0, rf_9_1, rf_9_3, rf_13_0, rf_13_1, rf_13_2, rf_16_0, rf_16_1, rf_16_2, rf_16_3, rf_21_0, rf_21_1, rf_21_2, rf_21_3, rf_26_0, rf_26_1, rf_26_2, rf_26_3, rf_26_4, rf_26_5, rf_26_6, rf_31_0, rf_31_2, rf_31_5, rf_31_6, rf_36_0, rf_36_1, rf_36_2, rf_36_3, rf_39_0, rf_39_1, rf_39_2, rf_41_0, rf_41_1, rf_41_2, rf_41_3, rf_5000_1, rf_5000_2, rf_5000_3, rf_5000_4, rf_5000_5, rf_5000_15, rf_5000_16, rf_5000_18, rf_5000_19, rf_5000_20, rf_5000_21, rf_5000_22, rf_5000_23, rf_5000_24, rf_5000_25, rf_5000_26, rf_5000_27, rf_5000_36, rf_5000_37, rf_5000_40, rf_5000_41, rf_5000_42, rf_5000_43, rf_5000_44, rf_5000_45, rf_5000_47, rf_5000_52, rf_5000_54, rf_5000_55, rf_100_0, rf_100_1, rf_103_0, rf_103_1, rf_106_0, rf_106_1, rf_109_0, rf_109_1, al_2, al_4, al_5, al_7, al_8, al_10, al_11, al_12, al_14, al_15, al_17, al_18, al_19, al_20, al_22, al_23, al_24, al_25, al_27, al_28, al_29, al_30, al_32, al_33, al_34, al_35, al_37, al_38, al_40, al_42, al_5001, al_5002, al_5003, al_5004, al_5005, al_5006, al_5007, al_5008, al_5009, al_5010, al_5011, al_5012, al_5013, al_5014, al_5015, al_5016, al_5017, al_5018, al_5019, al_5020, al_5021, al_5022, al_5023, al_5024, al_5025, al_5026, al_9000, al_101, al_102, al_104, al_105, al_107, al_108, al_110, al_111, vcs_e, lg_c0, lg_cs, lg_nil, set_c0, set_cs, okst_0, okst_s, acok_n, acok_c, List.contains_nil, List.contains_cons, Bool.or_false, Bool.false_or, Bool.false_eq_true, if_false, if_true, ite_self, ne_eq, true_and, and_true, not_false_eq_true, not_true_eq_false, false_imp_iff, true_imp_iff, Nat.ble_eq, Bool.and_eq_true, reduceCtorEq, or_false, false_or, or_true, true_or, false_and, and_false, and_self, Int.reduceLE, Int.reduceAdd, Int.reduceSub, Int.reduceMul, Int.reduceNeg, Int.reduceLT, Int.reduceEq, Int.reduceNe, Nat.reduceBEq, Nat.reduceBNe, Nat.reduceEqDiff, amCmp_in, amCmp_lt, amCmp_le, amCmp_gt, amCmp_ge, amCmp_eq, amCmp_ne, Nat.reduceLeDiff, Nat.reduceSub, Bool.and_true, Bool.true_and, Bool.and_self, Bool.or_true, Bool.true_or, isRf_3, isRf_4, isRf_5, isRf_8, isRf_9, isRf_10, isRf_11, isRf_15, isRf_16, isRf_17, isRf_18, isRf_19, isRf_20, isRf_21, isRf_22, isRf_23, isRf_24, isRf_25, isRf_26, isRf_27, isRf_28, k_X12_draw_0, k_X12_draw_1, k_X12_draw_2, k_X12_draw_5, k_X12_draw_8, k_X12_draw_9, k_X12_draw_12, k_X12_draw_13, k_X12_draw_16, k_X12_draw_17, k_X12_draw_20, k_X12_draw_22, k_X12_draw_23, k_X12_draw_24, k_X12_draw_25, k_X12_draw_26, k_X12_draw_27, up_s, up_nj, up_na, up_up, savR_o, cpy_o, fillm_o, setAud_o, setv_o, setv_s, Int.reduceNe, Int.reduceEq, Int.reduceLT, Int.reduceAdd, not_false_eq_true, ne_eq, or_true, true_or]
  unfold dN at *
  simp only [e1, e4]
  repeat' (first | assumption | apply And.intro | intro _)
  all_goals first | omega | exact absurd trivial (by assumption) | exact h
/-- a STEP can be -/
def mCs (σ : Mem) (a w : Int) : Prop := (σ 5013 w = 0 ∧ 0 ≤ σ 5013 (w + 1) ∧ σ 5013 (w + 1) < σ 5000 28 ∧ σ a 26 < 999) ∨ (σ 5013 w = 1 ∧ mCC σ a (σ 5013 (w + 1)) (σ 5013 (w + 2))) ∨ (σ 5013 w ≠ 0 ∧ σ 5013 w ≠ 1 ∧ 0 ≤ σ 5013 (w + 1) ∧ σ 5013 (w + 1) < σ 5000 30 ∧ bt (σ a 24) (σ 5013 (w + 1)) = 0)
/-- a STEP -/
def mSp (σ : Mem) (a w : Int) (τ : Mem) (v : Int) : Prop := (σ 5013 w = 0 ∧ mEv σ a (σ 5013 (w + 1)) τ ∧ v = mEm σ a (σ 5013 (w + 1))) ∨ (σ 5013 w = 1 ∧ τ = chM σ a (σ 5013 (w + 1)) (σ 5013 (w + 2)) ∧ v = 0) ∨ (σ 5013 w ≠ 0 ∧ σ 5013 w ≠ 1 ∧ τ = up σ a 24 (amIor (σ a 24) (amIshl 1 (σ 5013 (w + 1)))) ∧ v = 0)
/-- SEASONS are as they should be -/
def seOk (σ : Mem) : Prop := (0 ≤ σ 5000 34 ∧ σ 5000 34 ≤ 4) ∧ (∀ k, 0 ≤ k → k < σ 5000 34 → 1 ≤ σ 5014 k ∧ σ 5014 k ≤ 16) ∧ ∀ k j, 0 ≤ k → k < σ 5000 34 → 0 ≤ j → j < 3 * σ 5014 k → -1 ≤ σ 5013 (48 * k + j) ∧ σ 5013 (48 * k + j) ≤ 9
/-- the three numbers of a STEP are as they should be -/
def spB (σ : Mem) (w : Int) : Prop := ∀ j, 0 ≤ j → j ≤ 2 → -1 ≤ σ 5013 (w + j) ∧ σ 5013 (w + j) ≤ 9
theorem MG_se {σ τ : Mem} (h : MG σ τ) (hs : seOk σ) : seOk τ := by
  unfold seOk
  rw [(MG_29 h).2.2.2.2, h.1 5013 (by decide) (by decide) (by decide), h.1 5014 (by decide) (by decide) (by decide)]; exact hs
theorem mSp_x {σ τ : Mem} {a w v : Int} (h : mX σ a) (he : σ a 26 ≤ 999) (hc : mCs σ a w) (hv : mSp σ a w τ v) : mX τ a ∧ MG σ τ ∧ τ 5000 48 = σ 5000 48 ∧ τ a 26 ≤ 999 := by
  obtain ⟨hw, hh, hr⟩ := id h
  have n29 := hh.2.2.1
  have n30 := hh.2.2.2.1
  rcases hv with ⟨z1, z2, -⟩ | ⟨z1, rfl, -⟩ | ⟨z1, z2, rfl, -⟩
  · have he2 : σ a 26 < 999 := by
      rcases hc with hc | hc | hc
      · exact hc.2.2.2
      · omega
      · exact absurd z1 hc.1
    obtain ⟨y1, y2, y3, -, y5⟩ := mEv_x h (by omega) z2
    exact ⟨y1, y2, y3, by omega⟩
  · have hcc : mCC σ a (σ 5013 (w + 1)) (σ 5013 (w + 2)) := by
      rcases hc with hc | hc | hc
      · omega
      · exact hc.2
      · exact absurd z1 hc.2.1
    obtain ⟨q1, q2, q3, q4, q5, q6⟩ := hcc
    have hG : MG σ (chM σ a (σ 5013 (w + 1)) (σ 5013 (w + 2))) := MG_up (MG_up (MG_rf σ) hw) hw
    have k5 : chM σ a (σ 5013 (w + 1)) (σ 5013 (w + 2)) 5000 = σ 5000 := by unfold chM; rw [up_na _ (by omega), up_na _ (by omega)]
    have ea : chM σ a (σ 5013 (w + 1)) (σ 5013 (w + 2)) a = upf (upf (σ a) (4 * σ 5013 (w + 1) + 1) (σ 5013 (w + 2))) (4 * σ 5013 (w + 1) + 2) (σ a (4 * σ 5013 (w + 1) + 2) - σ a 25) := by
      unfold chM; rw [up_row, up_row]
    refine ⟨⟨hw, MG_mH hG (mOk_up (mOk_up hh.1 (by omega)) (by omega)) (by rw [k5]; exact hh.2.2.2.2.2.2.2.2) hh, ?_⟩, hG, by rw [k5], ?_⟩
    · rw [k5, ea]; exact aR_ch n29.2 hr q1 q2 q3 q4 q6
    · rw [ea, upf_n2 _ (by omega), upf_n2 _ (by omega)]; exact he
  · have hcc : 0 ≤ σ 5013 (w + 1) ∧ σ 5013 (w + 1) < σ 5000 30 := by
      rcases hc with hc | hc | hc
      · exact absurd hc.1 z1
      · exact absurd hc.1 z2
      · exact ⟨hc.2.2.1, hc.2.2.2.1⟩
    have hG : MG σ (up σ a 24 (amIor (σ a 24) (amIshl 1 (σ 5013 (w + 1))))) := MG_up (MG_rf σ) hw
    have k5 : up σ a 24 (amIor (σ a 24) (amIshl 1 (σ 5013 (w + 1)))) 5000 = σ 5000 := up_na _ (by omega)
    have bb := bor_b hr.2.1.1 hr.2.1.2 (k := σ 5013 (w + 1)) (by omega) (by omega)
    refine ⟨⟨hw, MG_mH hG (mOk_up hh.1 (by omega)) (by rw [k5]; exact hh.2.2.2.2.2.2.2.2) hh, ?_⟩, hG, by rw [k5], ?_⟩
    · rw [k5, up_row]; exact aR_il n29.2 hr bb.1 bb.2
    · rw [up_row, upf_n2 _ (by decide)]; exact he
theorem mX_j {σ : Mem} {a : Int} (h : mX σ a) : (∀ j, 0 ≤ j → j < σ 5000 29 → InR (σ a (4 * j + 1)) ∧ InR (σ a (4 * j + 2))) ∧ InR (σ a 25) := by
  obtain ⟨hw, hh, hr⟩ := h
  have n30 := hh.2.2.2.1
  refine ⟨fun j j0 j1 => ?_, ⟨by have := hr.2.2.1; omega, by have := hr.2.2.1; omega⟩⟩
  have := hr.1 j j0 j1
  exact ⟨⟨by omega, by omega⟩, ⟨by omega, by omega⟩⟩
def a_X12_canStep : AC := [(0, vAload 0 1), (1, vGetR TT 28 26 8 4), (4, vIload 2 5), (5, vI 1 6), (6, vIadd 7), (7, vIald TT 8), (8, vIstore 3 9), (9, vAload 0 10), (10, vGetR TT 28 26 8 13), (13, vIload 2 14), (14, vIald TT 15), (15, vSw2 [(0, 40), (1, 47)] 62), (40, vAload 0 41), (41, vAload 1 42), (42, vIload 3 43), (43, vCallM w_X12_canPlay 28 2 46), (46, vZret), (47, vAload 0 48), (48, vAload 1 49), (49, vIload 3 50), (50, vAload 0 51), (51, vGetR TT 28 26 8 54), (54, vIload 2 55), (55, vI 2 56), (56, vIadd 57), (57, vIald TT 58), (58, vCallM w_X12_canChange 28 3 61), (61, vZret), (62, vAload 0 63), (63, vAload 1 64), (64, vIload 3 65), (65, vCallM w_X12_canFall 28 2 68), (68, vZret)]
theorem k_X12_canStep_0 : look a_X12_canStep 0 = vAload 0 1 := rfl
theorem k_X12_canStep_1 : look a_X12_canStep 1 = vGetR TT 28 26 8 4 := rfl
theorem k_X12_canStep_4 : look a_X12_canStep 4 = vIload 2 5 := rfl
theorem k_X12_canStep_5 : look a_X12_canStep 5 = vI 1 6 := rfl
theorem k_X12_canStep_6 : look a_X12_canStep 6 = vIadd 7 := rfl
theorem k_X12_canStep_7 : look a_X12_canStep 7 = vIald TT 8 := rfl
theorem k_X12_canStep_8 : look a_X12_canStep 8 = vIstore 3 9 := rfl
theorem k_X12_canStep_9 : look a_X12_canStep 9 = vAload 0 10 := rfl
theorem k_X12_canStep_10 : look a_X12_canStep 10 = vGetR TT 28 26 8 13 := rfl
theorem k_X12_canStep_13 : look a_X12_canStep 13 = vIload 2 14 := rfl
theorem k_X12_canStep_14 : look a_X12_canStep 14 = vIald TT 15 := rfl
theorem k_X12_canStep_15 : look a_X12_canStep 15 = vSw2 [(0, 40), (1, 47)] 62 := rfl
theorem k_X12_canStep_40 : look a_X12_canStep 40 = vAload 0 41 := rfl
theorem k_X12_canStep_41 : look a_X12_canStep 41 = vAload 1 42 := rfl
theorem k_X12_canStep_42 : look a_X12_canStep 42 = vIload 3 43 := rfl
theorem k_X12_canStep_43 : look a_X12_canStep 43 = vCallM w_X12_canPlay 28 2 46 := rfl
theorem k_X12_canStep_46 : look a_X12_canStep 46 = vZret := rfl
theorem k_X12_canStep_47 : look a_X12_canStep 47 = vAload 0 48 := rfl
theorem k_X12_canStep_48 : look a_X12_canStep 48 = vAload 1 49 := rfl
theorem k_X12_canStep_49 : look a_X12_canStep 49 = vIload 3 50 := rfl
theorem k_X12_canStep_50 : look a_X12_canStep 50 = vAload 0 51 := rfl
theorem k_X12_canStep_51 : look a_X12_canStep 51 = vGetR TT 28 26 8 54 := rfl
theorem k_X12_canStep_54 : look a_X12_canStep 54 = vIload 2 55 := rfl
theorem k_X12_canStep_55 : look a_X12_canStep 55 = vI 2 56 := rfl
theorem k_X12_canStep_56 : look a_X12_canStep 56 = vIadd 57 := rfl
theorem k_X12_canStep_57 : look a_X12_canStep 57 = vIald TT 58 := rfl
theorem k_X12_canStep_58 : look a_X12_canStep 58 = vCallM w_X12_canChange 28 3 61 := rfl
theorem k_X12_canStep_61 : look a_X12_canStep 61 = vZret := rfl
theorem k_X12_canStep_62 : look a_X12_canStep 62 = vAload 0 63 := rfl
theorem k_X12_canStep_63 : look a_X12_canStep 63 = vAload 1 64 := rfl
theorem k_X12_canStep_64 : look a_X12_canStep 64 = vIload 3 65 := rfl
theorem k_X12_canStep_65 : look a_X12_canStep 65 = vCallM w_X12_canFall 28 2 68 := rfl
theorem k_X12_canStep_68 : look a_X12_canStep 68 = vZret := rfl
theorem o_X12_canStep {X : amX} (e1 : XT X = TT) (e2 : XD X = 2) (hB : amB X RX12 cX12_canStep (some .boolean) 4) : ∀ pc, amOK X pc (look a_X12_canStep pc) := by
  have hT : amTok (XT X) := e1 ▸ TT_ok
  refine look_ok ?_
  unfold a_X12_canStep
  refine fc (ok_aload_n hB dX12_canStep_0) ?_
  refine fc (okt_getR e1 hB hT fl_X12_61 rfl af_12_26 at_12_26 (by decide) dX12_canStep_1) ?_
  refine fc (ok_iload_n hB dX12_canStep_4) ?_
  refine fc (ok_iconst hB dX12_canStep_5) ?_
  refine fc (ok_iadd hB dX12_canStep_6) ?_
  refine fc (okt_iaload e1 hB dX12_canStep_7) ?_
  refine fc (ok_istore_n hB (by decide) dX12_canStep_8) ?_
  refine fc (ok_aload_n hB dX12_canStep_9) ?_
  refine fc (okt_getR e1 hB hT fl_X12_61 rfl af_12_26 at_12_26 (by decide) dX12_canStep_10) ?_
  refine fc (ok_iload_n hB dX12_canStep_13) ?_
  refine fc (okt_iaload e1 hB dX12_canStep_14) ?_
  refine fc (ok_sw2 (by decide) (ok_lookupswitch hB [(0, 40), (1, 47)] dX12_canStep_15 (by decide) (by decide) (by decide))) ?_
  refine fc (ok_aload_n hB dX12_canStep_40) ?_
  refine fc (ok_aload_n hB dX12_canStep_41) ?_
  refine fc (ok_iload_n hB dX12_canStep_42) ?_
  refine fc (ok_callM hB hT (e1 ▸ s_X12_canPlay) lk_X12_379 (by rw [e2]; decide) (c := 12) rfl rfl rfl wd_1686 sl_X12_canPlay dX12_canStep_43) ?_
  refine fc (ok_zret hB dX12_canStep_46) ?_
  refine fc (ok_aload_n hB dX12_canStep_47) ?_
  refine fc (ok_aload_n hB dX12_canStep_48) ?_
  refine fc (ok_iload_n hB dX12_canStep_49) ?_
  refine fc (ok_aload_n hB dX12_canStep_50) ?_
  refine fc (okt_getR e1 hB hT fl_X12_61 rfl af_12_26 at_12_26 (by decide) dX12_canStep_51) ?_
  refine fc (ok_iload_n hB dX12_canStep_54) ?_
  refine fc (ok_iconst hB dX12_canStep_55) ?_
  refine fc (ok_iadd hB dX12_canStep_56) ?_
  refine fc (okt_iaload e1 hB dX12_canStep_57) ?_
  refine fc (ok_callM hB hT (e1 ▸ s_X12_canChange) lk_X12_389 (by rw [e2]; decide) (c := 12) rfl rfl rfl wd_1731 sl_X12_canChange dX12_canStep_58) ?_
  refine fc (ok_zret hB dX12_canStep_61) ?_
  refine fc (ok_aload_n hB dX12_canStep_62) ?_
  refine fc (ok_aload_n hB dX12_canStep_63) ?_
  refine fc (ok_iload_n hB dX12_canStep_64) ?_
  refine fc (ok_callM hB hT (e1 ▸ s_X12_canFall) lk_X12_397 (by rw [e2]; decide) (c := 12) rfl rfl rfl wd_1742 sl_X12_canFall dX12_canStep_65) ?_
  refine fc (ok_zret hB dX12_canStep_68) ?_
  exact fn

def w_X12_canStep : WP := fun av σ Q => ∃ (a : Int) (w : Int), av = [(28, 5000), (8, a), (0, w)] ∧ (mX σ a ∧ spB σ w ∧ 0 ≤ w ∧ w ≤ 189 ∧ (mCs σ a w → Q (0, 1) σ) ∧ (¬ mCs σ a w → Q (0, 0) σ))
theorem w_X12_canStep_e (a : Int) (w : Int) (σ : Mem) (Q : AV → Mem → Prop) : w_X12_canStep [(28, 5000), (8, a), (0, w)] σ Q = (mX σ a ∧ spB σ w ∧ 0 ≤ w ∧ w ≤ 189 ∧ (mCs σ a w → Q (0, 1) σ) ∧ (¬ mCs σ a w → Q (0, 0) σ)) := by
  apply propext; constructor
  · rintro ⟨a', w', h9, hb9⟩; cases h9; exact hb9
  · intro hb9; exact ⟨a, w, rfl, hb9⟩

set_option maxRecDepth 100000 in
set_option maxHeartbeats 4000000 in
theorem s_X12_canStep : ∀ av σ Q, w_X12_canStep av σ Q → amCall 2 0 0 TT yX12_canStep cX12_canStep 4 (some .boolean) av σ Q := by
  rintro av σ Q ⟨a, w, rfl, hx, hs, w0, w1, h1, h2⟩
  obtain ⟨hw, hh, hr⟩ := id hx
  have n29 := hh.2.2.1
  have n30 := hh.2.2.2.1
  have n28 := hh.2.2.2.2.1
  obtain ⟨hj, h25⟩ := mX_j hx
  have r24 := hr.2.1
  have r26 := hr.2.2.2.1
  have a0 : 0 ≤ a := by omega
  have s0 := hs 0 (by decide) (by decide)
  rw [Int.add_zero] at s0
  have s1 := hs 1 (by decide) (by decide)
  have s2 := hs 2 (by decide) (by decide)
  by_cases z0 : σ 5013 w = 0
  · have w0' := w0
    refine am_m0 (own := RX12) (A := look a_X12_canStep) (fun X e1 e2 hB => o_X12_canStep e1 e2 hB) rfl (by decide +kernel) rfl rfl 190 (w := 4) ?_
    change vcs _ _ _ _ 190 0 [(28, 5000), (8, a), (0, w), (6, 0)] [] σ
    simp only [↓reduceIte, inR_0, inR_1, inR_m, vSw2_e, swP_n, swP_c, vI_e, vL_e, vNull_e, vIload_e, vLload_e, vAload_e, vIstore_e, vLstore_e, vAstore_e, vIinc_e, vIadd_e, vIsub_e, vImul_e, vIand_e, vIor_e, vIxor_e, vIshl_e, vIshr_e, vIushr_e, vIdiv_e, vIrem_e, vLadd_e, vLsub_e, vLmul_e, vLand_e, vLor_e, vLxor_e, vLdiv_e, vLrem_e, vLushr_e, vLshl_e, vLcmp_e, vIneg_e, vI2l_e, vL2i_e, vI2b_e, vI2c_e, vDup_e, vPop_e, vDup2_e, vGoto_e, vIcEq_e, vIfEq_e, vIcNe_e, vIfNe_e, vIcLt_e, vIfLt_e, vIcGe_e, vIfGe_e, vIcGt_e, vIfGt_e, vIcLe_e, vIfLe_e, vNonnull_e, vSw_e, vGetI_e, vGetL_e, vGetR_e, vPutI_e, vPutZ_e, vPutL_e, vPutR_e, vIald_e, vIald_s, vLald_e, vBald_e, vBald_s, vAald_e, vIast_e, vLast_e, vBast_e, vAast_e, vAlen_e8, vAlen_e9, vAlen_e10, vAlen_e11, vAlen_e5, vAlen_e3, vGets_e, vCompact_e, vLdcS_e, vIret_e, vZret_e, vCret_e, vBret_e, vLret_e, vVret_e, vAret_e, vCallM_e0, vCallMV_e0, vCallS_e0, vCallSV_e0, vCallM_e1, vCallMV_e1, vCallS_e1, vCallSV_e1, vCallM_e2, vCallMV_e2, vCallS_e2, vCallSV_e2, vCallM_e3, vCallMV_e3, vCallS_e3, vCallSV_e3, vCallM_e4, vCallMV_e4, vCallS_e4, vCallSV_e4, vCallM_e5, vCallMV_e5, vCallS_e5, vCallSV_e5, vCallM_e6, vCallMV_e6, vCallS_e6, vCallSV_e6, vCallM_e7, vCallMV_e7, vCallS_e7, vCallSV_e7, vBad_e, vStrVal_e, vStrCod_e, vForm_e, vCallT_e0, vCallT_e1, vCallT_e2, vCopy_e, rf_0_0, rf_0_1, rf_0_2, rf_0_3, rf_0_4, rf_0_7, rf_0_10, rf_0_11, rf_0_12, rf_0_13, rf_0_14, rf_0_15, rf_0_16, rf_1_0, rf_3_0, rf_3_1, rf_6_0, rf_6_1, rf_9_0, rf_9_1, rf_9_3, rf_13_0, rf_13_1, rf_13_2, rf_16_0, rf_16_1, rf_16_2, rf_16_3, rf_21_0, rf_21_1, rf_21_2, rf_21_3, rf_26_0, rf_26_1, rf_26_2, rf_26_3, rf_26_4, rf_26_5, rf_26_6, rf_31_0, rf_31_2, rf_31_5, rf_31_6, rf_36_0, rf_36_1, rf_36_2, rf_36_3, rf_39_0, rf_39_1, rf_39_2, rf_41_0, rf_41_1, rf_41_2, rf_41_3, rf_5000_1, rf_5000_2, rf_5000_3, rf_5000_4, rf_5000_5, rf_5000_15, rf_5000_16, rf_5000_18, rf_5000_19, rf_5000_20, rf_5000_21, rf_5000_22, rf_5000_23, rf_5000_24, rf_5000_25, rf_5000_26, rf_5000_27, rf_5000_36, rf_5000_37, rf_5000_40, rf_5000_41, rf_5000_42, rf_5000_43, rf_5000_44, rf_5000_45, rf_5000_47, rf_5000_52, rf_5000_54, rf_5000_55, rf_100_0, rf_100_1, rf_103_0, rf_103_1, rf_106_0, rf_106_1, rf_109_0, rf_109_1, al_2, al_4, al_5, al_7, al_8, al_10, al_11, al_12, al_14, al_15, al_17, al_18, al_19, al_20, al_22, al_23, al_24, al_25, al_27, al_28, al_29, al_30, al_32, al_33, al_34, al_35, al_37, al_38, al_40, al_42, al_5001, al_5002, al_5003, al_5004, al_5005, al_5006, al_5007, al_5008, al_5009, al_5010, al_5011, al_5012, al_5013, al_5014, al_5015, al_5016, al_5017, al_5018, al_5019, al_5020, al_5021, al_5022, al_5023, al_5024, al_5025, al_5026, al_9000, al_101, al_102, al_104, al_105, al_107, al_108, al_110, al_111, vcs_e, lg_c0, lg_cs, lg_nil, set_c0, set_cs, okst_0, okst_s, acok_n, acok_c, List.contains_nil, List.contains_cons, Bool.or_false, Bool.false_or, Bool.false_eq_true, if_false, if_true, ite_self, ne_eq, true_and, and_true, not_false_eq_true, not_true_eq_false, false_imp_iff, true_imp_iff, Nat.ble_eq, Bool.and_eq_true, reduceCtorEq, or_false, false_or, or_true, true_or, false_and, and_false, and_self, Int.reduceLE, Int.reduceAdd, Int.reduceSub, Int.reduceMul, Int.reduceNeg, Int.reduceLT, Int.reduceEq, Int.reduceNe, Nat.reduceBEq, Nat.reduceBNe, Nat.reduceEqDiff, amCmp_in, amCmp_lt, amCmp_le, amCmp_gt, amCmp_ge, amCmp_eq, amCmp_ne, Nat.reduceLeDiff, Nat.reduceSub, Bool.and_true, Bool.true_and, Bool.and_self, Bool.or_true, Bool.true_or, isRf_3, isRf_4, isRf_5, isRf_8, isRf_9, isRf_10, isRf_11, isRf_15, isRf_16, isRf_17, isRf_18, isRf_19, isRf_20, isRf_21, isRf_22, isRf_23, isRf_24, isRf_25, isRf_26, isRf_27, isRf_28, k_X12_canStep_0, k_X12_canStep_1, k_X12_canStep_4, k_X12_canStep_5, k_X12_canStep_6, k_X12_canStep_7, k_X12_canStep_8, k_X12_canStep_9, k_X12_canStep_10, k_X12_canStep_13, k_X12_canStep_14, k_X12_canStep_15, k_X12_canStep_40, k_X12_canStep_41, k_X12_canStep_42, k_X12_canStep_43, k_X12_canStep_46, k_X12_canStep_47, k_X12_canStep_48, k_X12_canStep_49, k_X12_canStep_50, k_X12_canStep_51, k_X12_canStep_54, k_X12_canStep_55, k_X12_canStep_56, k_X12_canStep_57, k_X12_canStep_58, k_X12_canStep_61, k_X12_canStep_62, k_X12_canStep_63, k_X12_canStep_64, k_X12_canStep_65, k_X12_canStep_68, w_X12_canChange_e, w_X12_canFall_e, w_X12_canPlay_e, up_s, up_nj, up_na, up_up, savR_o, cpy_o, fillm_o, setAud_o, setv_o, setv_s, Int.reduceNe, Int.reduceEq, Int.reduceLT, Int.reduceAdd, not_false_eq_true, ne_eq, or_true, true_or, a0, z0]
    by_cases d : 0 ≤ σ 5013 (w + 1) ∧ σ 5013 (w + 1) < σ 5000 28 ∧ σ a 26 < 999
    · have hq := h1 (Or.inl ⟨z0, d⟩)
      rw [if_pos d]
      repeat' (first | assumption | exact hj | apply And.intro | intro _)
      all_goals first | omega | exact absurd trivial (by assumption) | exact hq | exact hw
    · have hq := h2 (by
        rintro (q | q | q)
        · exact d q.2
        · omega
        · exact q.1 z0)
      rw [if_neg d]
      repeat' (first | assumption | exact hj | apply And.intro | intro _)
      all_goals first | omega | exact absurd trivial (by assumption) | exact hq | exact hw
  · by_cases z1 : σ 5013 w = 1
    · have w0' := w0
      have hq1 := fun d => h1 (Or.inr (Or.inl ⟨z1, d⟩))
      have hq2 : ¬ mCC σ a (σ 5013 (w + 1)) (σ 5013 (w + 2)) → Q (0, 0) σ := fun d => h2 (by
        rintro (q | q | q)
        · omega
        · exact d q.2
        · exact q.2.1 z1)
      refine am_m0 (own := RX12) (A := look a_X12_canStep) (fun X e1 e2 hB => o_X12_canStep e1 e2 hB) rfl (by decide +kernel) rfl rfl 190 (w := 4) ?_
      change vcs _ _ _ _ 190 0 [(28, 5000), (8, a), (0, w), (6, 0)] [] σ
      simp only [↓reduceIte, inR_0, inR_1, inR_m, vSw2_e, swP_n, swP_c, vI_e, vL_e, vNull_e, vIload_e, vLload_e, vAload_e, vIstore_e, vLstore_e, vAstore_e, vIinc_e, vIadd_e, vIsub_e, vImul_e, vIand_e, vIor_e, vIxor_e, vIshl_e, vIshr_e, vIushr_e, vIdiv_e, vIrem_e, vLadd_e, vLsub_e, vLmul_e, vLand_e, vLor_e, vLxor_e, vLdiv_e, vLrem_e, vLushr_e, vLshl_e, vLcmp_e, vIneg_e, vI2l_e, vL2i_e, vI2b_e, vI2c_e, vDup_e, vPop_e, vDup2_e, vGoto_e, vIcEq_e, vIfEq_e, vIcNe_e, vIfNe_e, vIcLt_e, vIfLt_e, vIcGe_e, vIfGe_e, vIcGt_e, vIfGt_e, vIcLe_e, vIfLe_e, vNonnull_e, vSw_e, vGetI_e, vGetL_e, vGetR_e, vPutI_e, vPutZ_e, vPutL_e, vPutR_e, vIald_e, vIald_s, vLald_e, vBald_e, vBald_s, vAald_e, vIast_e, vLast_e, vBast_e, vAast_e, vAlen_e8, vAlen_e9, vAlen_e10, vAlen_e11, vAlen_e5, vAlen_e3, vGets_e, vCompact_e, vLdcS_e, vIret_e, vZret_e, vCret_e, vBret_e, vLret_e, vVret_e, vAret_e, vCallM_e0, vCallMV_e0, vCallS_e0, vCallSV_e0, vCallM_e1, vCallMV_e1, vCallS_e1, vCallSV_e1, vCallM_e2, vCallMV_e2, vCallS_e2, vCallSV_e2, vCallM_e3, vCallMV_e3, vCallS_e3, vCallSV_e3, vCallM_e4, vCallMV_e4, vCallS_e4, vCallSV_e4, vCallM_e5, vCallMV_e5, vCallS_e5, vCallSV_e5, vCallM_e6, vCallMV_e6, vCallS_e6, vCallSV_e6, vCallM_e7, vCallMV_e7, vCallS_e7, vCallSV_e7, vBad_e, vStrVal_e, vStrCod_e, vForm_e, vCallT_e0, vCallT_e1, vCallT_e2, vCopy_e, rf_0_0, rf_0_1, rf_0_2, rf_0_3, rf_0_4, rf_0_7, rf_0_10, rf_0_11, rf_0_12, rf_0_13, rf_0_14, rf_0_15, rf_0_16, rf_1_0, rf_3_0, rf_3_1, rf_6_0, rf_6_1, rf_9_0, rf_9_1, rf_9_3, rf_13_0, rf_13_1, rf_13_2, rf_16_0, rf_16_1, rf_16_2, rf_16_3, rf_21_0, rf_21_1, rf_21_2, rf_21_3, rf_26_0, rf_26_1, rf_26_2, rf_26_3, rf_26_4, rf_26_5, rf_26_6, rf_31_0, rf_31_2, rf_31_5, rf_31_6, rf_36_0, rf_36_1, rf_36_2, rf_36_3, rf_39_0, rf_39_1, rf_39_2, rf_41_0, rf_41_1, rf_41_2, rf_41_3, rf_5000_1, rf_5000_2, rf_5000_3, rf_5000_4, rf_5000_5, rf_5000_15, rf_5000_16, rf_5000_18, rf_5000_19, rf_5000_20, rf_5000_21, rf_5000_22, rf_5000_23, rf_5000_24, rf_5000_25, rf_5000_26, rf_5000_27, rf_5000_36, rf_5000_37, rf_5000_40, rf_5000_41, rf_5000_42, rf_5000_43, rf_5000_44, rf_5000_45, rf_5000_47, rf_5000_52, rf_5000_54, rf_5000_55, rf_100_0, rf_100_1, rf_103_0, rf_103_1, rf_106_0, rf_106_1, rf_109_0, rf_109_1, al_2, al_4, al_5, al_7, al_8, al_10, al_11, al_12, al_14, al_15, al_17, al_18, al_19, al_20, al_22, al_23, al_24, al_25, al_27, al_28, al_29, al_30, al_32, al_33, al_34, al_35, al_37, al_38, al_40, al_42, al_5001, al_5002, al_5003, al_5004, al_5005, al_5006, al_5007, al_5008, al_5009, al_5010, al_5011, al_5012, al_5013, al_5014, al_5015, al_5016, al_5017, al_5018, al_5019, al_5020, al_5021, al_5022, al_5023, al_5024, al_5025, al_5026, al_9000, al_101, al_102, al_104, al_105, al_107, al_108, al_110, al_111, vcs_e, lg_c0, lg_cs, lg_nil, set_c0, set_cs, okst_0, okst_s, acok_n, acok_c, List.contains_nil, List.contains_cons, Bool.or_false, Bool.false_or, Bool.false_eq_true, if_false, if_true, ite_self, ne_eq, true_and, and_true, not_false_eq_true, not_true_eq_false, false_imp_iff, true_imp_iff, Nat.ble_eq, Bool.and_eq_true, reduceCtorEq, or_false, false_or, or_true, true_or, false_and, and_false, and_self, Int.reduceLE, Int.reduceAdd, Int.reduceSub, Int.reduceMul, Int.reduceNeg, Int.reduceLT, Int.reduceEq, Int.reduceNe, Nat.reduceBEq, Nat.reduceBNe, Nat.reduceEqDiff, amCmp_in, amCmp_lt, amCmp_le, amCmp_gt, amCmp_ge, amCmp_eq, amCmp_ne, Nat.reduceLeDiff, Nat.reduceSub, Bool.and_true, Bool.true_and, Bool.and_self, Bool.or_true, Bool.true_or, isRf_3, isRf_4, isRf_5, isRf_8, isRf_9, isRf_10, isRf_11, isRf_15, isRf_16, isRf_17, isRf_18, isRf_19, isRf_20, isRf_21, isRf_22, isRf_23, isRf_24, isRf_25, isRf_26, isRf_27, isRf_28, k_X12_canStep_0, k_X12_canStep_1, k_X12_canStep_4, k_X12_canStep_5, k_X12_canStep_6, k_X12_canStep_7, k_X12_canStep_8, k_X12_canStep_9, k_X12_canStep_10, k_X12_canStep_13, k_X12_canStep_14, k_X12_canStep_15, k_X12_canStep_40, k_X12_canStep_41, k_X12_canStep_42, k_X12_canStep_43, k_X12_canStep_46, k_X12_canStep_47, k_X12_canStep_48, k_X12_canStep_49, k_X12_canStep_50, k_X12_canStep_51, k_X12_canStep_54, k_X12_canStep_55, k_X12_canStep_56, k_X12_canStep_57, k_X12_canStep_58, k_X12_canStep_61, k_X12_canStep_62, k_X12_canStep_63, k_X12_canStep_64, k_X12_canStep_65, k_X12_canStep_68, w_X12_canChange_e, w_X12_canFall_e, w_X12_canPlay_e, up_s, up_nj, up_na, up_up, savR_o, cpy_o, fillm_o, setAud_o, setv_o, setv_s, Int.reduceNe, Int.reduceEq, Int.reduceLT, Int.reduceAdd, not_false_eq_true, ne_eq, or_true, true_or, a0, z1]
      repeat' (first | assumption | exact hj | apply And.intro | intro _)
      all_goals first | omega | exact absurd trivial (by assumption) | exact hq1 (by assumption) | exact hq2 (by assumption) | exact hw
    · have w0' := w0
      refine am_m0 (own := RX12) (A := look a_X12_canStep) (fun X e1 e2 hB => o_X12_canStep e1 e2 hB) rfl (by decide +kernel) rfl rfl 190 (w := 4) ?_
      change vcs _ _ _ _ 190 0 [(28, 5000), (8, a), (0, w), (6, 0)] [] σ
      simp only [↓reduceIte, inR_0, inR_1, inR_m, vSw2_e, swP_n, swP_c, vI_e, vL_e, vNull_e, vIload_e, vLload_e, vAload_e, vIstore_e, vLstore_e, vAstore_e, vIinc_e, vIadd_e, vIsub_e, vImul_e, vIand_e, vIor_e, vIxor_e, vIshl_e, vIshr_e, vIushr_e, vIdiv_e, vIrem_e, vLadd_e, vLsub_e, vLmul_e, vLand_e, vLor_e, vLxor_e, vLdiv_e, vLrem_e, vLushr_e, vLshl_e, vLcmp_e, vIneg_e, vI2l_e, vL2i_e, vI2b_e, vI2c_e, vDup_e, vPop_e, vDup2_e, vGoto_e, vIcEq_e, vIfEq_e, vIcNe_e, vIfNe_e, vIcLt_e, vIfLt_e, vIcGe_e, vIfGe_e, vIcGt_e, vIfGt_e, vIcLe_e, vIfLe_e, vNonnull_e, vSw_e, vGetI_e, vGetL_e, vGetR_e, vPutI_e, vPutZ_e, vPutL_e, vPutR_e, vIald_e, vIald_s, vLald_e, vBald_e, vBald_s, vAald_e, vIast_e, vLast_e, vBast_e, vAast_e, vAlen_e8, vAlen_e9, vAlen_e10, vAlen_e11, vAlen_e5, vAlen_e3, vGets_e, vCompact_e, vLdcS_e, vIret_e, vZret_e, vCret_e, vBret_e, vLret_e, vVret_e, vAret_e, vCallM_e0, vCallMV_e0, vCallS_e0, vCallSV_e0, vCallM_e1, vCallMV_e1, vCallS_e1, vCallSV_e1, vCallM_e2, vCallMV_e2, vCallS_e2, vCallSV_e2, vCallM_e3, vCallMV_e3, vCallS_e3, vCallSV_e3, vCallM_e4, vCallMV_e4, vCallS_e4, vCallSV_e4, vCallM_e5, vCallMV_e5, vCallS_e5, vCallSV_e5, vCallM_e6, vCallMV_e6, vCallS_e6, vCallSV_e6, vCallM_e7, vCallMV_e7, vCallS_e7, vCallSV_e7, vBad_e, vStrVal_e, vStrCod_e, vForm_e, vCallT_e0, vCallT_e1, vCallT_e2, vCopy_e, rf_0_0, rf_0_1, rf_0_2, rf_0_3, rf_0_4, rf_0_7, rf_0_10, rf_0_11, rf_0_12, rf_0_13, rf_0_14, rf_0_15, rf_0_16, rf_1_0, rf_3_0, rf_3_1, rf_6_0, rf_6_1, rf_9_0, rf_9_1, rf_9_3, rf_13_0, rf_13_1, rf_13_2, rf_16_0, rf_16_1, rf_16_2, rf_16_3, rf_21_0, rf_21_1, rf_21_2, rf_21_3, rf_26_0, rf_26_1, rf_26_2, rf_26_3, rf_26_4, rf_26_5, rf_26_6, rf_31_0, rf_31_2, rf_31_5, rf_31_6, rf_36_0, rf_36_1, rf_36_2, rf_36_3, rf_39_0, rf_39_1, rf_39_2, rf_41_0, rf_41_1, rf_41_2, rf_41_3, rf_5000_1, rf_5000_2, rf_5000_3, rf_5000_4, rf_5000_5, rf_5000_15, rf_5000_16, rf_5000_18, rf_5000_19, rf_5000_20, rf_5000_21, rf_5000_22, rf_5000_23, rf_5000_24, rf_5000_25, rf_5000_26, rf_5000_27, rf_5000_36, rf_5000_37, rf_5000_40, rf_5000_41, rf_5000_42, rf_5000_43, rf_5000_44, rf_5000_45, rf_5000_47, rf_5000_52, rf_5000_54, rf_5000_55, rf_100_0, rf_100_1, rf_103_0, rf_103_1, rf_106_0, rf_106_1, rf_109_0, rf_109_1, al_2, al_4, al_5, al_7, al_8, al_10, al_11, al_12, al_14, al_15, al_17, al_18, al_19, al_20, al_22, al_23, al_24, al_25, al_27, al_28, al_29, al_30, al_32, al_33, al_34, al_35, al_37, al_38, al_40, al_42, al_5001, al_5002, al_5003, al_5004, al_5005, al_5006, al_5007, al_5008, al_5009, al_5010, al_5011, al_5012, al_5013, al_5014, al_5015, al_5016, al_5017, al_5018, al_5019, al_5020, al_5021, al_5022, al_5023, al_5024, al_5025, al_5026, al_9000, al_101, al_102, al_104, al_105, al_107, al_108, al_110, al_111, vcs_e, lg_c0, lg_cs, lg_nil, set_c0, set_cs, okst_0, okst_s, acok_n, acok_c, List.contains_nil, List.contains_cons, Bool.or_false, Bool.false_or, Bool.false_eq_true, if_false, if_true, ite_self, ne_eq, true_and, and_true, not_false_eq_true, not_true_eq_false, false_imp_iff, true_imp_iff, Nat.ble_eq, Bool.and_eq_true, reduceCtorEq, or_false, false_or, or_true, true_or, false_and, and_false, and_self, Int.reduceLE, Int.reduceAdd, Int.reduceSub, Int.reduceMul, Int.reduceNeg, Int.reduceLT, Int.reduceEq, Int.reduceNe, Nat.reduceBEq, Nat.reduceBNe, Nat.reduceEqDiff, amCmp_in, amCmp_lt, amCmp_le, amCmp_gt, amCmp_ge, amCmp_eq, amCmp_ne, Nat.reduceLeDiff, Nat.reduceSub, Bool.and_true, Bool.true_and, Bool.and_self, Bool.or_true, Bool.true_or, isRf_3, isRf_4, isRf_5, isRf_8, isRf_9, isRf_10, isRf_11, isRf_15, isRf_16, isRf_17, isRf_18, isRf_19, isRf_20, isRf_21, isRf_22, isRf_23, isRf_24, isRf_25, isRf_26, isRf_27, isRf_28, k_X12_canStep_0, k_X12_canStep_1, k_X12_canStep_4, k_X12_canStep_5, k_X12_canStep_6, k_X12_canStep_7, k_X12_canStep_8, k_X12_canStep_9, k_X12_canStep_10, k_X12_canStep_13, k_X12_canStep_14, k_X12_canStep_15, k_X12_canStep_40, k_X12_canStep_41, k_X12_canStep_42, k_X12_canStep_43, k_X12_canStep_46, k_X12_canStep_47, k_X12_canStep_48, k_X12_canStep_49, k_X12_canStep_50, k_X12_canStep_51, k_X12_canStep_54, k_X12_canStep_55, k_X12_canStep_56, k_X12_canStep_57, k_X12_canStep_58, k_X12_canStep_61, k_X12_canStep_62, k_X12_canStep_63, k_X12_canStep_64, k_X12_canStep_65, k_X12_canStep_68, w_X12_canChange_e, w_X12_canFall_e, w_X12_canPlay_e, up_s, up_nj, up_na, up_up, savR_o, cpy_o, fillm_o, setAud_o, setv_o, setv_s, Int.reduceNe, Int.reduceEq, Int.reduceLT, Int.reduceAdd, not_false_eq_true, ne_eq, or_true, true_or, a0]
      by_cases d : 0 ≤ σ 5013 (w + 1) ∧ σ 5013 (w + 1) < σ 5000 30 ∧ bt (σ a 24) (σ 5013 (w + 1)) = 0
      · have hq := h1 (Or.inr (Or.inr ⟨z0, z1, d⟩))
        rw [if_pos d]
        repeat' (first | assumption | exact hj | apply And.intro | intro _)
        all_goals first | omega | exact absurd trivial (by assumption) | exact hq | exact hw
      · have hq := h2 (by
          rintro (q | q | q)
          · exact z0 q.1
          · exact z1 q.1
          · exact d q.2.2)
        rw [if_neg d]
        repeat' (first | assumption | exact hj | apply And.intro | intro _)
        all_goals first | omega | exact absurd trivial (by assumption) | exact hq | exact hw
def a_X12_steps : AC := [(0, vAload 0 1), (1, vGetR TT 28 26 8 4), (4, vIload 2 5), (5, vI 1 6), (6, vIadd 7), (7, vIald TT 8), (8, vIstore 3 9), (9, vAload 0 10), (10, vGetR TT 28 26 8 13), (13, vIload 2 14), (14, vIald TT 15), (15, vIfNe 25 18), (18, vAload 0 19), (19, vAload 1 20), (20, vIload 3 21), (21, vCallM w_X12_goEvening 28 2 24), (24, vIret), (25, vAload 0 26), (26, vGetR TT 28 26 8 29), (29, vIload 2 30), (30, vIald TT 31), (31, vI 1 32), (32, vIcNe 51 35), (35, vAload 1 36), (36, vIload 3 37), (37, vAload 0 38), (38, vGetR TT 28 26 8 41), (41, vIload 2 42), (42, vI 2 43), (43, vIadd 44), (44, vIald TT 45), (45, vCallSV w_X12_changes 3 48), (48, vGoto 61), (51, vAload 1 52), (52, vI 24 54), (54, vDup2 55), (55, vIald TT 56), (56, vI 1 57), (57, vIload 3 58), (58, vIshl 59), (59, vIor 60), (60, vIast TT 61), (61, vI 0 62), (62, vIret)]
theorem k_X12_steps_0 : look a_X12_steps 0 = vAload 0 1 := rfl
theorem k_X12_steps_1 : look a_X12_steps 1 = vGetR TT 28 26 8 4 := rfl
theorem k_X12_steps_4 : look a_X12_steps 4 = vIload 2 5 := rfl
theorem k_X12_steps_5 : look a_X12_steps 5 = vI 1 6 := rfl
theorem k_X12_steps_6 : look a_X12_steps 6 = vIadd 7 := rfl
theorem k_X12_steps_7 : look a_X12_steps 7 = vIald TT 8 := rfl
theorem k_X12_steps_8 : look a_X12_steps 8 = vIstore 3 9 := rfl
theorem k_X12_steps_9 : look a_X12_steps 9 = vAload 0 10 := rfl
theorem k_X12_steps_10 : look a_X12_steps 10 = vGetR TT 28 26 8 13 := rfl
theorem k_X12_steps_13 : look a_X12_steps 13 = vIload 2 14 := rfl
theorem k_X12_steps_14 : look a_X12_steps 14 = vIald TT 15 := rfl
theorem k_X12_steps_15 : look a_X12_steps 15 = vIfNe 25 18 := rfl
theorem k_X12_steps_18 : look a_X12_steps 18 = vAload 0 19 := rfl
theorem k_X12_steps_19 : look a_X12_steps 19 = vAload 1 20 := rfl
theorem k_X12_steps_20 : look a_X12_steps 20 = vIload 3 21 := rfl
theorem k_X12_steps_21 : look a_X12_steps 21 = vCallM w_X12_goEvening 28 2 24 := rfl
theorem k_X12_steps_24 : look a_X12_steps 24 = vIret := rfl
theorem k_X12_steps_25 : look a_X12_steps 25 = vAload 0 26 := rfl
theorem k_X12_steps_26 : look a_X12_steps 26 = vGetR TT 28 26 8 29 := rfl
theorem k_X12_steps_29 : look a_X12_steps 29 = vIload 2 30 := rfl
theorem k_X12_steps_30 : look a_X12_steps 30 = vIald TT 31 := rfl
theorem k_X12_steps_31 : look a_X12_steps 31 = vI 1 32 := rfl
theorem k_X12_steps_32 : look a_X12_steps 32 = vIcNe 51 35 := rfl
theorem k_X12_steps_35 : look a_X12_steps 35 = vAload 1 36 := rfl
theorem k_X12_steps_36 : look a_X12_steps 36 = vIload 3 37 := rfl
theorem k_X12_steps_37 : look a_X12_steps 37 = vAload 0 38 := rfl
theorem k_X12_steps_38 : look a_X12_steps 38 = vGetR TT 28 26 8 41 := rfl
theorem k_X12_steps_41 : look a_X12_steps 41 = vIload 2 42 := rfl
theorem k_X12_steps_42 : look a_X12_steps 42 = vI 2 43 := rfl
theorem k_X12_steps_43 : look a_X12_steps 43 = vIadd 44 := rfl
theorem k_X12_steps_44 : look a_X12_steps 44 = vIald TT 45 := rfl
theorem k_X12_steps_45 : look a_X12_steps 45 = vCallSV w_X12_changes 3 48 := rfl
theorem k_X12_steps_48 : look a_X12_steps 48 = vGoto 61 := rfl
theorem k_X12_steps_51 : look a_X12_steps 51 = vAload 1 52 := rfl
theorem k_X12_steps_52 : look a_X12_steps 52 = vI 24 54 := rfl
theorem k_X12_steps_54 : look a_X12_steps 54 = vDup2 55 := rfl
theorem k_X12_steps_55 : look a_X12_steps 55 = vIald TT 56 := rfl
theorem k_X12_steps_56 : look a_X12_steps 56 = vI 1 57 := rfl
theorem k_X12_steps_57 : look a_X12_steps 57 = vIload 3 58 := rfl
theorem k_X12_steps_58 : look a_X12_steps 58 = vIshl 59 := rfl
theorem k_X12_steps_59 : look a_X12_steps 59 = vIor 60 := rfl
theorem k_X12_steps_60 : look a_X12_steps 60 = vIast TT 61 := rfl
theorem k_X12_steps_61 : look a_X12_steps 61 = vI 0 62 := rfl
theorem k_X12_steps_62 : look a_X12_steps 62 = vIret := rfl
theorem o_X12_steps {X : amX} (e1 : XT X = TT) (e2 : XD X = 61) (hB : amB X RX12 cX12_steps (some .int) 4) : ∀ pc, amOK X pc (look a_X12_steps pc) := by
  have hT : amTok (XT X) := e1 ▸ TT_ok
  refine look_ok ?_
  unfold a_X12_steps
  refine fc (ok_aload_n hB dX12_steps_0) ?_
  refine fc (okt_getR e1 hB hT fl_X12_61 rfl af_12_26 at_12_26 (by decide) dX12_steps_1) ?_
  refine fc (ok_iload_n hB dX12_steps_4) ?_
  refine fc (ok_iconst hB dX12_steps_5) ?_
  refine fc (ok_iadd hB dX12_steps_6) ?_
  refine fc (okt_iaload e1 hB dX12_steps_7) ?_
  refine fc (ok_istore_n hB (by decide) dX12_steps_8) ?_
  refine fc (ok_aload_n hB dX12_steps_9) ?_
  refine fc (okt_getR e1 hB hT fl_X12_61 rfl af_12_26 at_12_26 (by decide) dX12_steps_10) ?_
  refine fc (ok_iload_n hB dX12_steps_13) ?_
  refine fc (okt_iaload e1 hB dX12_steps_14) ?_
  refine fc (ok_if_ne hB (t := 25) (by decide) dX12_steps_15) ?_
  refine fc (ok_aload_n hB dX12_steps_18) ?_
  refine fc (ok_aload_n hB dX12_steps_19) ?_
  refine fc (ok_iload_n hB dX12_steps_20) ?_
  refine fc (ok_callM hB hT (e1 ▸ s_X12_goEvening) lk_X12_386 (by rw [e2]; decide) (c := 12) rfl rfl rfl wd_1694 sl_X12_goEvening dX12_steps_21) ?_
  refine fc (ok_iret hB dX12_steps_24) ?_
  refine fc (ok_aload_n hB dX12_steps_25) ?_
  refine fc (okt_getR e1 hB hT fl_X12_61 rfl af_12_26 at_12_26 (by decide) dX12_steps_26) ?_
  refine fc (ok_iload_n hB dX12_steps_29) ?_
  refine fc (okt_iaload e1 hB dX12_steps_30) ?_
  refine fc (ok_iconst hB dX12_steps_31) ?_
  refine fc (ok_icmp_ne hB (t := 51) (by decide) dX12_steps_32) ?_
  refine fc (ok_aload_n hB dX12_steps_35) ?_
  refine fc (ok_iload_n hB dX12_steps_36) ?_
  refine fc (ok_aload_n hB dX12_steps_37) ?_
  refine fc (okt_getR e1 hB hT fl_X12_61 rfl af_12_26 at_12_26 (by decide) dX12_steps_38) ?_
  refine fc (ok_iload_n hB dX12_steps_41) ?_
  refine fc (ok_iconst hB dX12_steps_42) ?_
  refine fc (ok_iadd hB dX12_steps_43) ?_
  refine fc (okt_iaload e1 hB dX12_steps_44) ?_
  refine fc (ok_callSV hB (e1 ▸ s_X12_changes) lk_X12_393 (by rw [e2]; decide) wd_1734 dX12_steps_45) ?_
  refine fc (ok_goto hB (t := 61) (by decide) dX12_steps_48) ?_
  refine fc (ok_aload_n hB dX12_steps_51) ?_
  refine fc (ok_bipush hB dX12_steps_52 (by decide)) ?_
  refine fc (ok_dup2 hB dX12_steps_54) ?_
  refine fc (okt_iaload e1 hB dX12_steps_55) ?_
  refine fc (ok_iconst hB dX12_steps_56) ?_
  refine fc (ok_iload_n hB dX12_steps_57) ?_
  refine fc (ok_ishl hB dX12_steps_58) ?_
  refine fc (ok_ior hB dX12_steps_59) ?_
  refine fc (okt_iastore e1 hB dX12_steps_60) ?_
  refine fc (ok_iconst hB dX12_steps_61) ?_
  refine fc (ok_iret hB dX12_steps_62) ?_
  exact fn

def w_X12_steps : WP := fun av σ Q => ∃ (a : Int) (w : Int), av = [(28, 5000), (8, a), (0, w)] ∧ (mX σ a ∧ spB σ w ∧ 0 ≤ w ∧ w ≤ 189 ∧ mCs σ a w ∧ (∀ τ v, mSp σ a w τ v → Q (0, v) τ))
theorem w_X12_steps_e (a : Int) (w : Int) (σ : Mem) (Q : AV → Mem → Prop) : w_X12_steps [(28, 5000), (8, a), (0, w)] σ Q = (mX σ a ∧ spB σ w ∧ 0 ≤ w ∧ w ≤ 189 ∧ mCs σ a w ∧ (∀ τ v, mSp σ a w τ v → Q (0, v) τ)) := by
  apply propext; constructor
  · rintro ⟨a', w', h9, hb9⟩; cases h9; exact hb9
  · intro hb9; exact ⟨a, w, rfl, hb9⟩

set_option maxRecDepth 100000 in
set_option maxHeartbeats 4000000 in
theorem s_X12_steps : ∀ av σ Q, w_X12_steps av σ Q → amCall 61 0 0 TT yX12_steps cX12_steps 4 (some .int) av σ Q := by
  rintro av σ Q ⟨a, w, rfl, hx, hs, w0, w1, hc, h⟩
  obtain ⟨hw, hh, hr⟩ := id hx
  have hP := mX_P hx
  obtain ⟨g1, g2, g3⟩ := mX_g hx
  have n29 := hh.2.2.1
  have n30 := hh.2.2.2.1
  have n28 := hh.2.2.2.2.1
  have a0 : 0 ≤ a := by omega
  have al : ∀ τ, alen TT τ a = 208 := isW_al hw
  have s0 := hs 0 (by decide) (by decide)
  rw [Int.add_zero] at s0
  by_cases z0 : σ 5013 w = 0
  · have d : 0 ≤ σ 5013 (w + 1) ∧ σ 5013 (w + 1) < σ 5000 28 := by
      rcases hc with q | q | q
      · exact ⟨q.2.1, q.2.2.1⟩
      · omega
      · exact absurd z0 q.1
    have hq := fun τ x y => h _ _ (Or.inl ⟨z0, ⟨τ, x, y, rfl⟩, rfl⟩)
    refine am_m0 (own := RX12) (A := look a_X12_steps) (fun X e1 e2 hB => o_X12_steps e1 e2 hB) rfl (by decide +kernel) rfl rfl 190 (w := 4) ?_
    change vcs _ _ _ _ 190 0 [(28, 5000), (8, a), (0, w), (6, 0)] [] σ
    simp only [↓reduceIte, inR_0, inR_1, inR_m, vSw2_e, swP_n, swP_c, vI_e, vL_e, vNull_e, vIload_e, vLload_e, vAload_e, vIstore_e, vLstore_e, vAstore_e, vIinc_e, vIadd_e, vIsub_e, vImul_e, vIand_e, vIor_e, vIxor_e, vIshl_e, vIshr_e, vIushr_e, vIdiv_e, vIrem_e, vLadd_e, vLsub_e, vLmul_e, vLand_e, vLor_e, vLxor_e, vLdiv_e, vLrem_e, vLushr_e, vLshl_e, vLcmp_e, vIneg_e, vI2l_e, vL2i_e, vI2b_e, vI2c_e, vDup_e, vPop_e, vDup2_e, vGoto_e, vIcEq_e, vIfEq_e, vIcNe_e, vIfNe_e, vIcLt_e, vIfLt_e, vIcGe_e, vIfGe_e, vIcGt_e, vIfGt_e, vIcLe_e, vIfLe_e, vNonnull_e, vSw_e, vGetI_e, vGetL_e, vGetR_e, vPutI_e, vPutZ_e, vPutL_e, vPutR_e, vIald_e, vIald_s, vLald_e, vBald_e, vBald_s, vAald_e, vIast_e, vLast_e, vBast_e, vAast_e, vAlen_e8, vAlen_e9, vAlen_e10, vAlen_e11, vAlen_e5, vAlen_e3, vGets_e, vCompact_e, vLdcS_e, vIret_e, vZret_e, vCret_e, vBret_e, vLret_e, vVret_e, vAret_e, vCallM_e0, vCallMV_e0, vCallS_e0, vCallSV_e0, vCallM_e1, vCallMV_e1, vCallS_e1, vCallSV_e1, vCallM_e2, vCallMV_e2, vCallS_e2, vCallSV_e2, vCallM_e3, vCallMV_e3, vCallS_e3, vCallSV_e3, vCallM_e4, vCallMV_e4, vCallS_e4, vCallSV_e4, vCallM_e5, vCallMV_e5, vCallS_e5, vCallSV_e5, vCallM_e6, vCallMV_e6, vCallS_e6, vCallSV_e6, vCallM_e7, vCallMV_e7, vCallS_e7, vCallSV_e7, vBad_e, vStrVal_e, vStrCod_e, vForm_e, vCallT_e0, vCallT_e1, vCallT_e2, vCopy_e, rf_0_0, rf_0_1, rf_0_2, rf_0_3, rf_0_4, rf_0_7, rf_0_10, rf_0_11, rf_0_12, rf_0_13, rf_0_14, rf_0_15, rf_0_16, rf_1_0, rf_3_0, rf_3_1, rf_6_0, rf_6_1, rf_9_0, rf_9_1, rf_9_3, rf_13_0, rf_13_1, rf_13_2, rf_16_0, rf_16_1, rf_16_2, rf_16_3, rf_21_0, rf_21_1, rf_21_2, rf_21_3, rf_26_0, rf_26_1, rf_26_2, rf_26_3, rf_26_4, rf_26_5, rf_26_6, rf_31_0, rf_31_2, rf_31_5, rf_31_6, rf_36_0, rf_36_1, rf_36_2, rf_36_3, rf_39_0, rf_39_1, rf_39_2, rf_41_0, rf_41_1, rf_41_2, rf_41_3, rf_5000_1, rf_5000_2, rf_5000_3, rf_5000_4, rf_5000_5, rf_5000_15, rf_5000_16, rf_5000_18, rf_5000_19, rf_5000_20, rf_5000_21, rf_5000_22, rf_5000_23, rf_5000_24, rf_5000_25, rf_5000_26, rf_5000_27, rf_5000_36, rf_5000_37, rf_5000_40, rf_5000_41, rf_5000_42, rf_5000_43, rf_5000_44, rf_5000_45, rf_5000_47, rf_5000_52, rf_5000_54, rf_5000_55, rf_100_0, rf_100_1, rf_103_0, rf_103_1, rf_106_0, rf_106_1, rf_109_0, rf_109_1, al_2, al_4, al_5, al_7, al_8, al_10, al_11, al_12, al_14, al_15, al_17, al_18, al_19, al_20, al_22, al_23, al_24, al_25, al_27, al_28, al_29, al_30, al_32, al_33, al_34, al_35, al_37, al_38, al_40, al_42, al_5001, al_5002, al_5003, al_5004, al_5005, al_5006, al_5007, al_5008, al_5009, al_5010, al_5011, al_5012, al_5013, al_5014, al_5015, al_5016, al_5017, al_5018, al_5019, al_5020, al_5021, al_5022, al_5023, al_5024, al_5025, al_5026, al_9000, al_101, al_102, al_104, al_105, al_107, al_108, al_110, al_111, vcs_e, lg_c0, lg_cs, lg_nil, set_c0, set_cs, okst_0, okst_s, acok_n, acok_c, List.contains_nil, List.contains_cons, Bool.or_false, Bool.false_or, Bool.false_eq_true, if_false, if_true, ite_self, ne_eq, true_and, and_true, not_false_eq_true, not_true_eq_false, false_imp_iff, true_imp_iff, Nat.ble_eq, Bool.and_eq_true, reduceCtorEq, or_false, false_or, or_true, true_or, false_and, and_false, and_self, Int.reduceLE, Int.reduceAdd, Int.reduceSub, Int.reduceMul, Int.reduceNeg, Int.reduceLT, Int.reduceEq, Int.reduceNe, Nat.reduceBEq, Nat.reduceBNe, Nat.reduceEqDiff, amCmp_in, amCmp_lt, amCmp_le, amCmp_gt, amCmp_ge, amCmp_eq, amCmp_ne, Nat.reduceLeDiff, Nat.reduceSub, Bool.and_true, Bool.true_and, Bool.and_self, Bool.or_true, Bool.true_or, isRf_3, isRf_4, isRf_5, isRf_8, isRf_9, isRf_10, isRf_11, isRf_15, isRf_16, isRf_17, isRf_18, isRf_19, isRf_20, isRf_21, isRf_22, isRf_23, isRf_24, isRf_25, isRf_26, isRf_27, isRf_28, k_X12_steps_0, k_X12_steps_1, k_X12_steps_4, k_X12_steps_5, k_X12_steps_6, k_X12_steps_7, k_X12_steps_8, k_X12_steps_9, k_X12_steps_10, k_X12_steps_13, k_X12_steps_14, k_X12_steps_15, k_X12_steps_18, k_X12_steps_19, k_X12_steps_20, k_X12_steps_21, k_X12_steps_24, k_X12_steps_25, k_X12_steps_26, k_X12_steps_29, k_X12_steps_30, k_X12_steps_31, k_X12_steps_32, k_X12_steps_35, k_X12_steps_36, k_X12_steps_37, k_X12_steps_38, k_X12_steps_41, k_X12_steps_42, k_X12_steps_43, k_X12_steps_44, k_X12_steps_45, k_X12_steps_48, k_X12_steps_51, k_X12_steps_52, k_X12_steps_54, k_X12_steps_55, k_X12_steps_56, k_X12_steps_57, k_X12_steps_58, k_X12_steps_59, k_X12_steps_60, k_X12_steps_61, k_X12_steps_62, w_X12_changes_e, w_X12_goEvening_e, up_s, up_nj, up_na, up_up, savR_o, cpy_o, fillm_o, setAud_o, setv_o, setv_s, Int.reduceNe, Int.reduceEq, Int.reduceLT, Int.reduceAdd, not_false_eq_true, ne_eq, or_true, true_or, a0, z0]
    repeat' (first | assumption | exact hP | exact g1 | apply And.intro | intro _)
    all_goals first | omega | exact absurd trivial (by assumption) | exact hq _ (by assumption) (by assumption) | exact hw
  · by_cases z1 : σ 5013 w = 1
    · have d : mCC σ a (σ 5013 (w + 1)) (σ 5013 (w + 2)) := by
        rcases hc with q | q | q
        · omega
        · exact q.2
        · exact absurd z1 q.2.1
      have hq := h _ _ (Or.inr (Or.inl ⟨z1, rfl, rfl⟩))
      unfold mCC at d
      unfold chM at hq
      refine am_m0 (own := RX12) (A := look a_X12_steps) (fun X e1 e2 hB => o_X12_steps e1 e2 hB) rfl (by decide +kernel) rfl rfl 190 (w := 4) ?_
      change vcs _ _ _ _ 190 0 [(28, 5000), (8, a), (0, w), (6, 0)] [] σ
      simp only [↓reduceIte, inR_0, inR_1, inR_m, vSw2_e, swP_n, swP_c, vI_e, vL_e, vNull_e, vIload_e, vLload_e, vAload_e, vIstore_e, vLstore_e, vAstore_e, vIinc_e, vIadd_e, vIsub_e, vImul_e, vIand_e, vIor_e, vIxor_e, vIshl_e, vIshr_e, vIushr_e, vIdiv_e, vIrem_e, vLadd_e, vLsub_e, vLmul_e, vLand_e, vLor_e, vLxor_e, vLdiv_e, vLrem_e, vLushr_e, vLshl_e, vLcmp_e, vIneg_e, vI2l_e, vL2i_e, vI2b_e, vI2c_e, vDup_e, vPop_e, vDup2_e, vGoto_e, vIcEq_e, vIfEq_e, vIcNe_e, vIfNe_e, vIcLt_e, vIfLt_e, vIcGe_e, vIfGe_e, vIcGt_e, vIfGt_e, vIcLe_e, vIfLe_e, vNonnull_e, vSw_e, vGetI_e, vGetL_e, vGetR_e, vPutI_e, vPutZ_e, vPutL_e, vPutR_e, vIald_e, vIald_s, vLald_e, vBald_e, vBald_s, vAald_e, vIast_e, vLast_e, vBast_e, vAast_e, vAlen_e8, vAlen_e9, vAlen_e10, vAlen_e11, vAlen_e5, vAlen_e3, vGets_e, vCompact_e, vLdcS_e, vIret_e, vZret_e, vCret_e, vBret_e, vLret_e, vVret_e, vAret_e, vCallM_e0, vCallMV_e0, vCallS_e0, vCallSV_e0, vCallM_e1, vCallMV_e1, vCallS_e1, vCallSV_e1, vCallM_e2, vCallMV_e2, vCallS_e2, vCallSV_e2, vCallM_e3, vCallMV_e3, vCallS_e3, vCallSV_e3, vCallM_e4, vCallMV_e4, vCallS_e4, vCallSV_e4, vCallM_e5, vCallMV_e5, vCallS_e5, vCallSV_e5, vCallM_e6, vCallMV_e6, vCallS_e6, vCallSV_e6, vCallM_e7, vCallMV_e7, vCallS_e7, vCallSV_e7, vBad_e, vStrVal_e, vStrCod_e, vForm_e, vCallT_e0, vCallT_e1, vCallT_e2, vCopy_e, rf_0_0, rf_0_1, rf_0_2, rf_0_3, rf_0_4, rf_0_7, rf_0_10, rf_0_11, rf_0_12, rf_0_13, rf_0_14, rf_0_15, rf_0_16, rf_1_0, rf_3_0, rf_3_1, rf_6_0, rf_6_1, rf_9_0, rf_9_1, rf_9_3, rf_13_0, rf_13_1, rf_13_2, rf_16_0, rf_16_1, rf_16_2, rf_16_3, rf_21_0, rf_21_1, rf_21_2, rf_21_3, rf_26_0, rf_26_1, rf_26_2, rf_26_3, rf_26_4, rf_26_5, rf_26_6, rf_31_0, rf_31_2, rf_31_5, rf_31_6, rf_36_0, rf_36_1, rf_36_2, rf_36_3, rf_39_0, rf_39_1, rf_39_2, rf_41_0, rf_41_1, rf_41_2, rf_41_3, rf_5000_1, rf_5000_2, rf_5000_3, rf_5000_4, rf_5000_5, rf_5000_15, rf_5000_16, rf_5000_18, rf_5000_19, rf_5000_20, rf_5000_21, rf_5000_22, rf_5000_23, rf_5000_24, rf_5000_25, rf_5000_26, rf_5000_27, rf_5000_36, rf_5000_37, rf_5000_40, rf_5000_41, rf_5000_42, rf_5000_43, rf_5000_44, rf_5000_45, rf_5000_47, rf_5000_52, rf_5000_54, rf_5000_55, rf_100_0, rf_100_1, rf_103_0, rf_103_1, rf_106_0, rf_106_1, rf_109_0, rf_109_1, al_2, al_4, al_5, al_7, al_8, al_10, al_11, al_12, al_14, al_15, al_17, al_18, al_19, al_20, al_22, al_23, al_24, al_25, al_27, al_28, al_29, al_30, al_32, al_33, al_34, al_35, al_37, al_38, al_40, al_42, al_5001, al_5002, al_5003, al_5004, al_5005, al_5006, al_5007, al_5008, al_5009, al_5010, al_5011, al_5012, al_5013, al_5014, al_5015, al_5016, al_5017, al_5018, al_5019, al_5020, al_5021, al_5022, al_5023, al_5024, al_5025, al_5026, al_9000, al_101, al_102, al_104, al_105, al_107, al_108, al_110, al_111, vcs_e, lg_c0, lg_cs, lg_nil, set_c0, set_cs, okst_0, okst_s, acok_n, acok_c, List.contains_nil, List.contains_cons, Bool.or_false, Bool.false_or, Bool.false_eq_true, if_false, if_true, ite_self, ne_eq, true_and, and_true, not_false_eq_true, not_true_eq_false, false_imp_iff, true_imp_iff, Nat.ble_eq, Bool.and_eq_true, reduceCtorEq, or_false, false_or, or_true, true_or, false_and, and_false, and_self, Int.reduceLE, Int.reduceAdd, Int.reduceSub, Int.reduceMul, Int.reduceNeg, Int.reduceLT, Int.reduceEq, Int.reduceNe, Nat.reduceBEq, Nat.reduceBNe, Nat.reduceEqDiff, amCmp_in, amCmp_lt, amCmp_le, amCmp_gt, amCmp_ge, amCmp_eq, amCmp_ne, Nat.reduceLeDiff, Nat.reduceSub, Bool.and_true, Bool.true_and, Bool.and_self, Bool.or_true, Bool.true_or, isRf_3, isRf_4, isRf_5, isRf_8, isRf_9, isRf_10, isRf_11, isRf_15, isRf_16, isRf_17, isRf_18, isRf_19, isRf_20, isRf_21, isRf_22, isRf_23, isRf_24, isRf_25, isRf_26, isRf_27, isRf_28, k_X12_steps_0, k_X12_steps_1, k_X12_steps_4, k_X12_steps_5, k_X12_steps_6, k_X12_steps_7, k_X12_steps_8, k_X12_steps_9, k_X12_steps_10, k_X12_steps_13, k_X12_steps_14, k_X12_steps_15, k_X12_steps_18, k_X12_steps_19, k_X12_steps_20, k_X12_steps_21, k_X12_steps_24, k_X12_steps_25, k_X12_steps_26, k_X12_steps_29, k_X12_steps_30, k_X12_steps_31, k_X12_steps_32, k_X12_steps_35, k_X12_steps_36, k_X12_steps_37, k_X12_steps_38, k_X12_steps_41, k_X12_steps_42, k_X12_steps_43, k_X12_steps_44, k_X12_steps_45, k_X12_steps_48, k_X12_steps_51, k_X12_steps_52, k_X12_steps_54, k_X12_steps_55, k_X12_steps_56, k_X12_steps_57, k_X12_steps_58, k_X12_steps_59, k_X12_steps_60, k_X12_steps_61, k_X12_steps_62, w_X12_changes_e, w_X12_goEvening_e, up_s, up_nj, up_na, up_up, savR_o, cpy_o, fillm_o, setAud_o, setv_o, setv_s, Int.reduceNe, Int.reduceEq, Int.reduceLT, Int.reduceAdd, not_false_eq_true, ne_eq, or_true, true_or, a0, z1]
      repeat' (first | assumption | exact hP | apply And.intro | intro _)
      all_goals first | omega | exact absurd trivial (by assumption) | exact hq | exact hw
    · have hq := h _ _ (Or.inr (Or.inr ⟨z0, z1, rfl, rfl⟩))
      refine am_m0 (own := RX12) (A := look a_X12_steps) (fun X e1 e2 hB => o_X12_steps e1 e2 hB) rfl (by decide +kernel) rfl rfl 190 (w := 4) ?_
      change vcs _ _ _ _ 190 0 [(28, 5000), (8, a), (0, w), (6, 0)] [] σ
      simp only [↓reduceIte, inR_0, inR_1, inR_m, vSw2_e, swP_n, swP_c, vI_e, vL_e, vNull_e, vIload_e, vLload_e, vAload_e, vIstore_e, vLstore_e, vAstore_e, vIinc_e, vIadd_e, vIsub_e, vImul_e, vIand_e, vIor_e, vIxor_e, vIshl_e, vIshr_e, vIushr_e, vIdiv_e, vIrem_e, vLadd_e, vLsub_e, vLmul_e, vLand_e, vLor_e, vLxor_e, vLdiv_e, vLrem_e, vLushr_e, vLshl_e, vLcmp_e, vIneg_e, vI2l_e, vL2i_e, vI2b_e, vI2c_e, vDup_e, vPop_e, vDup2_e, vGoto_e, vIcEq_e, vIfEq_e, vIcNe_e, vIfNe_e, vIcLt_e, vIfLt_e, vIcGe_e, vIfGe_e, vIcGt_e, vIfGt_e, vIcLe_e, vIfLe_e, vNonnull_e, vSw_e, vGetI_e, vGetL_e, vGetR_e, vPutI_e, vPutZ_e, vPutL_e, vPutR_e, vIald_e, vIald_s, vLald_e, vBald_e, vBald_s, vAald_e, vIast_e, vLast_e, vBast_e, vAast_e, vAlen_e8, vAlen_e9, vAlen_e10, vAlen_e11, vAlen_e5, vAlen_e3, vGets_e, vCompact_e, vLdcS_e, vIret_e, vZret_e, vCret_e, vBret_e, vLret_e, vVret_e, vAret_e, vCallM_e0, vCallMV_e0, vCallS_e0, vCallSV_e0, vCallM_e1, vCallMV_e1, vCallS_e1, vCallSV_e1, vCallM_e2, vCallMV_e2, vCallS_e2, vCallSV_e2, vCallM_e3, vCallMV_e3, vCallS_e3, vCallSV_e3, vCallM_e4, vCallMV_e4, vCallS_e4, vCallSV_e4, vCallM_e5, vCallMV_e5, vCallS_e5, vCallSV_e5, vCallM_e6, vCallMV_e6, vCallS_e6, vCallSV_e6, vCallM_e7, vCallMV_e7, vCallS_e7, vCallSV_e7, vBad_e, vStrVal_e, vStrCod_e, vForm_e, vCallT_e0, vCallT_e1, vCallT_e2, vCopy_e, rf_0_0, rf_0_1, rf_0_2, rf_0_3, rf_0_4, rf_0_7, rf_0_10, rf_0_11, rf_0_12, rf_0_13, rf_0_14, rf_0_15, rf_0_16, rf_1_0, rf_3_0, rf_3_1, rf_6_0, rf_6_1, rf_9_0, rf_9_1, rf_9_3, rf_13_0, rf_13_1, rf_13_2, rf_16_0, rf_16_1, rf_16_2, rf_16_3, rf_21_0, rf_21_1, rf_21_2, rf_21_3, rf_26_0, rf_26_1, rf_26_2, rf_26_3, rf_26_4, rf_26_5, rf_26_6, rf_31_0, rf_31_2, rf_31_5, rf_31_6, rf_36_0, rf_36_1, rf_36_2, rf_36_3, rf_39_0, rf_39_1, rf_39_2, rf_41_0, rf_41_1, rf_41_2, rf_41_3, rf_5000_1, rf_5000_2, rf_5000_3, rf_5000_4, rf_5000_5, rf_5000_15, rf_5000_16, rf_5000_18, rf_5000_19, rf_5000_20, rf_5000_21, rf_5000_22, rf_5000_23, rf_5000_24, rf_5000_25, rf_5000_26, rf_5000_27, rf_5000_36, rf_5000_37, rf_5000_40, rf_5000_41, rf_5000_42, rf_5000_43, rf_5000_44, rf_5000_45, rf_5000_47, rf_5000_52, rf_5000_54, rf_5000_55, rf_100_0, rf_100_1, rf_103_0, rf_103_1, rf_106_0, rf_106_1, rf_109_0, rf_109_1, al_2, al_4, al_5, al_7, al_8, al_10, al_11, al_12, al_14, al_15, al_17, al_18, al_19, al_20, al_22, al_23, al_24, al_25, al_27, al_28, al_29, al_30, al_32, al_33, al_34, al_35, al_37, al_38, al_40, al_42, al_5001, al_5002, al_5003, al_5004, al_5005, al_5006, al_5007, al_5008, al_5009, al_5010, al_5011, al_5012, al_5013, al_5014, al_5015, al_5016, al_5017, al_5018, al_5019, al_5020, al_5021, al_5022, al_5023, al_5024, al_5025, al_5026, al_9000, al_101, al_102, al_104, al_105, al_107, al_108, al_110, al_111, vcs_e, lg_c0, lg_cs, lg_nil, set_c0, set_cs, okst_0, okst_s, acok_n, acok_c, List.contains_nil, List.contains_cons, Bool.or_false, Bool.false_or, Bool.false_eq_true, if_false, if_true, ite_self, ne_eq, true_and, and_true, not_false_eq_true, not_true_eq_false, false_imp_iff, true_imp_iff, Nat.ble_eq, Bool.and_eq_true, reduceCtorEq, or_false, false_or, or_true, true_or, false_and, and_false, and_self, Int.reduceLE, Int.reduceAdd, Int.reduceSub, Int.reduceMul, Int.reduceNeg, Int.reduceLT, Int.reduceEq, Int.reduceNe, Nat.reduceBEq, Nat.reduceBNe, Nat.reduceEqDiff, amCmp_in, amCmp_lt, amCmp_le, amCmp_gt, amCmp_ge, amCmp_eq, amCmp_ne, Nat.reduceLeDiff, Nat.reduceSub, Bool.and_true, Bool.true_and, Bool.and_self, Bool.or_true, Bool.true_or, isRf_3, isRf_4, isRf_5, isRf_8, isRf_9, isRf_10, isRf_11, isRf_15, isRf_16, isRf_17, isRf_18, isRf_19, isRf_20, isRf_21, isRf_22, isRf_23, isRf_24, isRf_25, isRf_26, isRf_27, isRf_28, k_X12_steps_0, k_X12_steps_1, k_X12_steps_4, k_X12_steps_5, k_X12_steps_6, k_X12_steps_7, k_X12_steps_8, k_X12_steps_9, k_X12_steps_10, k_X12_steps_13, k_X12_steps_14, k_X12_steps_15, k_X12_steps_18, k_X12_steps_19, k_X12_steps_20, k_X12_steps_21, k_X12_steps_24, k_X12_steps_25, k_X12_steps_26, k_X12_steps_29, k_X12_steps_30, k_X12_steps_31, k_X12_steps_32, k_X12_steps_35, k_X12_steps_36, k_X12_steps_37, k_X12_steps_38, k_X12_steps_41, k_X12_steps_42, k_X12_steps_43, k_X12_steps_44, k_X12_steps_45, k_X12_steps_48, k_X12_steps_51, k_X12_steps_52, k_X12_steps_54, k_X12_steps_55, k_X12_steps_56, k_X12_steps_57, k_X12_steps_58, k_X12_steps_59, k_X12_steps_60, k_X12_steps_61, k_X12_steps_62, w_X12_changes_e, w_X12_goEvening_e, up_s, up_nj, up_na, up_up, savR_o, cpy_o, fillm_o, setAud_o, setv_o, setv_s, Int.reduceNe, Int.reduceEq, Int.reduceLT, Int.reduceAdd, not_false_eq_true, ne_eq, or_true, true_or, a0, al]
      repeat' (first | assumption | exact hP | apply And.intro | intro _)
      all_goals first | omega | exact absurd trivial (by assumption) | exact hq | exact hw
