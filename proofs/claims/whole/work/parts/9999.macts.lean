/-! the reference: ACTS -/
theorem cpyS (σ : Mem) (a sp b dp : Int) {k : Int} (h : 0 ≤ k) : up (cpy σ a sp b dp k) b (dp + k) (σ a (sp + k)) = cpy σ a sp b dp (k + 1) := by
  funext c j; unfold up cpy
  by_cases e : c = b ∧ j = dp + k
  · obtain ⟨rfl, rfl⟩ := e
    rw [if_pos ⟨rfl, rfl⟩, if_pos ⟨rfl, by omega, by omega⟩, show dp + k - dp = k by omega]
  · rw [if_neg e]
    have e9 : (c = b ∧ dp ≤ j ∧ j < dp + (k + 1)) = (c = b ∧ dp ≤ j ∧ j < dp + k) := propext ⟨fun q => ⟨q.1, q.2.1, by
      by_cases e0 : j = dp + k
      · exact absurd ⟨q.1, e0⟩ e
      · omega⟩, fun q => ⟨q.1, q.2.1, by omega⟩⟩
    simp only [e9]
theorem cpy_0 (σ : Mem) (a sp b dp : Int) : cpy σ a sp b dp 0 = σ := by
  funext c j; unfold cpy; rw [if_neg (by omega)]
theorem cpy_at (σ : Mem) (a sp b dp n : Int) {j : Int} (h : j < dp ∨ dp + n ≤ j) : cpy σ a sp b dp n b j = σ b j := by unfold cpy; rw [if_neg (by omega)]
theorem cpy_in (σ : Mem) (a sp b dp n : Int) {j : Int} (h : dp ≤ j ∧ j < dp + n) : cpy σ a sp b dp n b j = σ a (sp + (j - dp)) := by unfold cpy; rw [if_pos ⟨rfl, h⟩]
theorem cpy_oo (σ : Mem) (a sp b dp n : Int) {c : Int} (h : c ≠ b) : cpy σ a sp b dp n c = σ c := by funext j; unfold cpy; rw [if_neg (fun q => h q.1)]

theorem wd_1659 : Cond.methodLink RX12 371 yX12_isChair ∈ TBL := tb_tab (List.mem_of_getElem? (i := 1659) (by decide +kernel)) rfl
theorem wd_1662 : Cond.code yX12_isChair cX12_isChair 2 (some .boolean) ∈ TBL := tb_tab (List.mem_of_getElem? (i := 1662) (by decide +kernel)) rfl
theorem lk_X12_371 : amLk RX12 371 yX12_isChair cX12_isChair 2 (some .boolean) 1 := ⟨wd_1659, wd_12, wd_1662, by decide +kernel, by decide +kernel, by decide⟩
theorem wd_1661 : Cond.instanceMethod yX12_isChair ∈ TBL := tb_tab (List.mem_of_getElem? (i := 1661) (by decide +kernel)) rfl
theorem sl_X12_isChair : Cond.selects RX12 yX12_isChair yX12_isChair ∈ TBL := tb_sel (List.mem_of_getElem? (i := 73) (by decide +kernel)) rfl
def a_X12_canChange : AC := [(0, vAload 0 1), (1, vIload 2 2), (2, vCallM w_X12_isChair 28 1 5), (5, vIfEq 45 8), (8, vAload 0 9), (9, vIload 3 10), (10, vCallM w_X12_isSitter 28 1 13), (13, vIfEq 45 16), (16, vAload 1 17), (17, vI 4 18), (18, vIload 2 19), (19, vImul 20), (20, vI 1 21), (21, vIadd 22), (22, vIald TT 23), (23, vIload 3 24), (24, vIcEq 45 27), (27, vAload 1 28), (28, vI 4 29), (29, vIload 2 30), (30, vImul 31), (31, vI 2 32), (32, vIadd 33), (33, vIald TT 34), (34, vAload 1 35), (35, vI 25 37), (37, vIald TT 38), (38, vIcLt 45 41), (41, vI 1 42), (42, vGoto 46), (45, vI 0 46), (46, vZret)]
theorem k_X12_canChange_0 : look a_X12_canChange 0 = vAload 0 1 := rfl
theorem k_X12_canChange_1 : look a_X12_canChange 1 = vIload 2 2 := rfl
theorem k_X12_canChange_2 : look a_X12_canChange 2 = vCallM w_X12_isChair 28 1 5 := rfl
theorem k_X12_canChange_5 : look a_X12_canChange 5 = vIfEq 45 8 := rfl
theorem k_X12_canChange_8 : look a_X12_canChange 8 = vAload 0 9 := rfl
theorem k_X12_canChange_9 : look a_X12_canChange 9 = vIload 3 10 := rfl
theorem k_X12_canChange_10 : look a_X12_canChange 10 = vCallM w_X12_isSitter 28 1 13 := rfl
theorem k_X12_canChange_13 : look a_X12_canChange 13 = vIfEq 45 16 := rfl
theorem k_X12_canChange_16 : look a_X12_canChange 16 = vAload 1 17 := rfl
theorem k_X12_canChange_17 : look a_X12_canChange 17 = vI 4 18 := rfl
theorem k_X12_canChange_18 : look a_X12_canChange 18 = vIload 2 19 := rfl
theorem k_X12_canChange_19 : look a_X12_canChange 19 = vImul 20 := rfl
theorem k_X12_canChange_20 : look a_X12_canChange 20 = vI 1 21 := rfl
theorem k_X12_canChange_21 : look a_X12_canChange 21 = vIadd 22 := rfl
theorem k_X12_canChange_22 : look a_X12_canChange 22 = vIald TT 23 := rfl
theorem k_X12_canChange_23 : look a_X12_canChange 23 = vIload 3 24 := rfl
theorem k_X12_canChange_24 : look a_X12_canChange 24 = vIcEq 45 27 := rfl
theorem k_X12_canChange_27 : look a_X12_canChange 27 = vAload 1 28 := rfl
theorem k_X12_canChange_28 : look a_X12_canChange 28 = vI 4 29 := rfl
theorem k_X12_canChange_29 : look a_X12_canChange 29 = vIload 2 30 := rfl
theorem k_X12_canChange_30 : look a_X12_canChange 30 = vImul 31 := rfl
theorem k_X12_canChange_31 : look a_X12_canChange 31 = vI 2 32 := rfl
theorem k_X12_canChange_32 : look a_X12_canChange 32 = vIadd 33 := rfl
theorem k_X12_canChange_33 : look a_X12_canChange 33 = vIald TT 34 := rfl
theorem k_X12_canChange_34 : look a_X12_canChange 34 = vAload 1 35 := rfl
theorem k_X12_canChange_35 : look a_X12_canChange 35 = vI 25 37 := rfl
theorem k_X12_canChange_37 : look a_X12_canChange 37 = vIald TT 38 := rfl
theorem k_X12_canChange_38 : look a_X12_canChange 38 = vIcLt 45 41 := rfl
theorem k_X12_canChange_41 : look a_X12_canChange 41 = vI 1 42 := rfl
theorem k_X12_canChange_42 : look a_X12_canChange 42 = vGoto 46 := rfl
theorem k_X12_canChange_45 : look a_X12_canChange 45 = vI 0 46 := rfl
theorem k_X12_canChange_46 : look a_X12_canChange 46 = vZret := rfl
theorem o_X12_canChange {X : amX} (e1 : XT X = TT) (e2 : XD X = 1) (hB : amB X RX12 cX12_canChange (some .boolean) 4) : ∀ pc, amOK X pc (look a_X12_canChange pc) := by
  have hT : amTok (XT X) := e1 ▸ TT_ok
  refine look_ok ?_
  unfold a_X12_canChange
  refine fc (ok_aload_n hB dX12_canChange_0) ?_
  refine fc (ok_iload_n hB dX12_canChange_1) ?_
  refine fc (ok_callM hB hT (e1 ▸ s_X12_isChair) lk_X12_371 (by rw [e2]; decide) (c := 12) rfl rfl rfl wd_1661 sl_X12_isChair dX12_canChange_2) ?_
  refine fc (ok_if_eq hB (t := 45) (by decide) dX12_canChange_5) ?_
  refine fc (ok_aload_n hB dX12_canChange_8) ?_
  refine fc (ok_iload_n hB dX12_canChange_9) ?_
  refine fc (ok_callM hB hT (e1 ▸ s_X12_isSitter) lk_X12_374 (by rw [e2]; decide) (c := 12) rfl rfl rfl wd_1669 sl_X12_isSitter dX12_canChange_10) ?_
  refine fc (ok_if_eq hB (t := 45) (by decide) dX12_canChange_13) ?_
  refine fc (ok_aload_n hB dX12_canChange_16) ?_
  refine fc (ok_iconst hB dX12_canChange_17) ?_
  refine fc (ok_iload_n hB dX12_canChange_18) ?_
  refine fc (ok_imul hB dX12_canChange_19) ?_
  refine fc (ok_iconst hB dX12_canChange_20) ?_
  refine fc (ok_iadd hB dX12_canChange_21) ?_
  refine fc (okt_iaload e1 hB dX12_canChange_22) ?_
  refine fc (ok_iload_n hB dX12_canChange_23) ?_
  refine fc (ok_icmp_eq hB (t := 45) (by decide) dX12_canChange_24) ?_
  refine fc (ok_aload_n hB dX12_canChange_27) ?_
  refine fc (ok_iconst hB dX12_canChange_28) ?_
  refine fc (ok_iload_n hB dX12_canChange_29) ?_
  refine fc (ok_imul hB dX12_canChange_30) ?_
  refine fc (ok_iconst hB dX12_canChange_31) ?_
  refine fc (ok_iadd hB dX12_canChange_32) ?_
  refine fc (okt_iaload e1 hB dX12_canChange_33) ?_
  refine fc (ok_aload_n hB dX12_canChange_34) ?_
  refine fc (ok_bipush hB dX12_canChange_35 (by decide)) ?_
  refine fc (okt_iaload e1 hB dX12_canChange_37) ?_
  refine fc (ok_icmp_lt hB (t := 45) (by decide) dX12_canChange_38) ?_
  refine fc (ok_iconst hB dX12_canChange_41) ?_
  refine fc (ok_goto hB (t := 46) (by decide) dX12_canChange_42) ?_
  refine fc (ok_iconst hB dX12_canChange_45) ?_
  refine fc (ok_zret hB dX12_canChange_46) ?_
  exact fn
def mCC (σ : Mem) (a c t : Int) : Prop := 0 ≤ c ∧ c < σ 5000 29 ∧ 0 ≤ t ∧ t < σ 5000 30 ∧ σ a (4 * c + 1) ≠ t ∧ σ a 25 ≤ σ a (4 * c + 2)
def w_X12_canChange : WP := fun av σ Q => ∃ (a : Int) (c : Int) (t : Int), av = [(28, 5000), (8, a), (0, c), (0, t)] ∧ (isW a ∧ InR c ∧ InR t ∧ 0 ≤ σ 5000 29 ∧ σ 5000 29 ≤ 6 ∧ 0 ≤ σ 5000 30 ∧ σ 5000 30 ≤ 6 ∧ (∀ j, 0 ≤ j → j < σ 5000 29 → InR (σ a (4 * j + 1)) ∧ InR (σ a (4 * j + 2))) ∧ InR (σ a 25) ∧ (mCC σ a c t → Q (0, 1) σ) ∧ (¬ mCC σ a c t → Q (0, 0) σ))
theorem w_X12_canChange_e (a : Int) (c : Int) (t : Int) (σ : Mem) (Q : AV → Mem → Prop) : w_X12_canChange [(28, 5000), (8, a), (0, c), (0, t)] σ Q = (isW a ∧ InR c ∧ InR t ∧ 0 ≤ σ 5000 29 ∧ σ 5000 29 ≤ 6 ∧ 0 ≤ σ 5000 30 ∧ σ 5000 30 ≤ 6 ∧ (∀ j, 0 ≤ j → j < σ 5000 29 → InR (σ a (4 * j + 1)) ∧ InR (σ a (4 * j + 2))) ∧ InR (σ a 25) ∧ (mCC σ a c t → Q (0, 1) σ) ∧ (¬ mCC σ a c t → Q (0, 0) σ)) := by
  apply propext; constructor
  · rintro ⟨a', c', t', h9, hb9⟩; cases h9; exact hb9
  · intro hb9; exact ⟨a, c, t, rfl, hb9⟩

set_option maxRecDepth 100000 in
set_option maxHeartbeats 4000000 in
theorem s_X12_canChange : ∀ av σ Q, w_X12_canChange av σ Q → amCall 1 0 0 TT yX12_canChange cX12_canChange 4 (some .boolean) av σ Q := by
  rintro av σ Q ⟨a, c, t, rfl, ha, hc, ht, c0, c1, s0, s1, hj, h25, h1, h2⟩
  have al : ∀ τ, alen TT τ a = 208 := isW_al ha
  have a0 : 0 ≤ a := by omega
  unfold mCC at h1 h2
  refine am_m0 (own := RX12) (A := look a_X12_canChange) (fun X e1 e2 hB => o_X12_canChange e1 e2 hB) rfl (by decide +kernel) rfl rfl 190 (w := 4) ?_
  change vcs _ _ _ _ 190 0 [(28, 5000), (8, a), (0, c), (0, t)] [] σ
  simp only [↓reduceIte, inR_0, inR_1, inR_m, vSw2_e, swP_n, swP_c, vI_e, vL_e, vNull_e, vIload_e, vLload_e, vAload_e, vIstore_e, vLstore_e, vAstore_e, vIinc_e, vIadd_e, vIsub_e, vImul_e, vIand_e, vIor_e, vIxor_e, vIshl_e, vIshr_e, vIushr_e, vIdiv_e, vIrem_e, vLadd_e, vLsub_e, vLmul_e, vLand_e, vLor_e, vLxor_e, vLdiv_e, vLrem_e, vLushr_e, vLshl_e, vLcmp_e, vIneg_e, vI2l_e, vL2i_e, vI2b_e, vI2c_e, vDup_e, vPop_e, vDup2_e, vGoto_e, vIcEq_e, vIfEq_e, vIcNe_e, vIfNe_e, vIcLt_e, vIfLt_e, vIcGe_e, vIfGe_e, vIcGt_e, vIfGt_e, vIcLe_e, vIfLe_e, vNonnull_e, vSw_e, vGetI_e, vGetL_e, vGetR_e, vPutI_e, vPutZ_e, vPutL_e, vPutR_e, vIald_e, vIald_s, vLald_e, vBald_e, vBald_s, vAald_e, vIast_e, vLast_e, vBast_e, vAast_e, vAlen_e8, vAlen_e9, vAlen_e10, vAlen_e11, vAlen_e5, vAlen_e3, vGets_e, vCompact_e, vLdcS_e, vIret_e, vZret_e, vCret_e, vBret_e, vLret_e, vVret_e, vAret_e, vCallM_e0, vCallMV_e0, vCallS_e0, vCallSV_e0, vCallM_e1, vCallMV_e1, vCallS_e1, vCallSV_e1, vCallM_e2, vCallMV_e2, vCallS_e2, vCallSV_e2, vCallM_e3, vCallMV_e3, vCallS_e3, vCallSV_e3, vCallM_e4, vCallMV_e4, vCallS_e4, vCallSV_e4, vCallM_e5, vCallMV_e5, vCallS_e5, vCallSV_e5, vCallM_e6, vCallMV_e6, vCallS_e6, vCallSV_e6, vCallM_e7, vCallMV_e7, vCallS_e7, vCallSV_e7, vBad_e, vStrVal_e, vStrCod_e, vForm_e, vCallT_e0, vCallT_e1, vCallT_e2, vCopy_e, rf_0_0, rf_0_1, rf_0_2, rf_0_3, rf_0_4, rf_0_7, rf_0_10, rf_0_11, rf_0_12, rf_0_13, rf_0_14, rf_0_15, rf_0_16, rf_1_0, rf_3_0, rf_3_1, rf_6_0, rf_6_1, rf_9_0, rf_9_1, rf_9_3, rf_13_0, rf_13_1, rf_13_2, rf_16_0, rf_16_1, rf_16_2, rf_16_3, rf_21_0, rf_21_1, rf_21_2, rf_21_3, rf_26_0, rf_26_1, rf_26_2, rf_26_3, rf_26_4, rf_26_5, rf_26_6, rf_31_0, rf_31_2, rf_31_5, rf_31_6, rf_36_0, rf_36_1, rf_36_2, rf_36_3, rf_39_0, rf_39_1, rf_39_2, rf_41_0, rf_41_1, rf_41_2, rf_41_3, rf_5000_1, rf_5000_2, rf_5000_3, rf_5000_4, rf_5000_5, rf_5000_15, rf_5000_16, rf_5000_18, rf_5000_19, rf_5000_20, rf_5000_21, rf_5000_22, rf_5000_23, rf_5000_24, rf_5000_25, rf_5000_26, rf_5000_27, rf_5000_36, rf_5000_37, rf_5000_40, rf_5000_41, rf_5000_42, rf_5000_43, rf_5000_44, rf_5000_45, rf_5000_47, rf_5000_52, rf_5000_54, rf_5000_55, rf_100_0, rf_100_1, rf_103_0, rf_103_1, rf_106_0, rf_106_1, rf_109_0, rf_109_1, al_2, al_4, al_5, al_7, al_8, al_10, al_11, al_12, al_14, al_15, al_17, al_18, al_19, al_20, al_22, al_23, al_24, al_25, al_27, al_28, al_29, al_30, al_32, al_33, al_34, al_35, al_37, al_38, al_40, al_42, al_5001, al_5002, al_5003, al_5004, al_5005, al_5006, al_5007, al_5008, al_5009, al_5010, al_5011, al_5012, al_5013, al_5014, al_5015, al_5016, al_5017, al_5018, al_5019, al_5020, al_5021, al_5022, al_5023, al_5024, al_5025, al_5026, al_9000, al_101, al_102, al_104, al_105, al_107, al_108, al_110, al_111, vcs_e, lg_c0, lg_cs, lg_nil, set_c0, set_cs, okst_0, okst_s, acok_n, acok_c, List.contains_nil, List.contains_cons, Bool.or_false, Bool.false_or, Bool.false_eq_true, if_false, if_true, ite_self, ne_eq, true_and, and_true, not_false_eq_true, not_true_eq_false, false_imp_iff, true_imp_iff, Nat.ble_eq, Bool.and_eq_true, reduceCtorEq, or_false, false_or, or_true, true_or, false_and, and_false, and_self, Int.reduceLE, Int.reduceAdd, Int.reduceSub, Int.reduceMul, Int.reduceNeg, Int.reduceLT, Int.reduceEq, Int.reduceNe, Nat.reduceBEq, Nat.reduceBNe, Nat.reduceEqDiff, amCmp_in, amCmp_lt, amCmp_le, amCmp_gt, amCmp_ge, amCmp_eq, amCmp_ne, Nat.reduceLeDiff, Nat.reduceSub, Bool.and_true, Bool.true_and, Bool.and_self, Bool.or_true, Bool.true_or, isRf_3, isRf_4, isRf_5, isRf_8, isRf_9, isRf_10, isRf_11, isRf_15, isRf_16, isRf_17, isRf_18, isRf_19, isRf_20, isRf_21, isRf_22, isRf_23, isRf_24, isRf_25, isRf_26, isRf_27, isRf_28, k_X12_canChange_0, k_X12_canChange_1, k_X12_canChange_2, k_X12_canChange_5, k_X12_canChange_8, k_X12_canChange_9, k_X12_canChange_10, k_X12_canChange_13, k_X12_canChange_16, k_X12_canChange_17, k_X12_canChange_18, k_X12_canChange_19, k_X12_canChange_20, k_X12_canChange_21, k_X12_canChange_22, k_X12_canChange_23, k_X12_canChange_24, k_X12_canChange_27, k_X12_canChange_28, k_X12_canChange_29, k_X12_canChange_30, k_X12_canChange_31, k_X12_canChange_32, k_X12_canChange_33, k_X12_canChange_34, k_X12_canChange_35, k_X12_canChange_37, k_X12_canChange_38, k_X12_canChange_41, k_X12_canChange_42, k_X12_canChange_45, k_X12_canChange_46, w_X12_isChair_e, w_X12_isSitter_e, up_s, up_nj, up_na, up_up, savR_o, cpy_o, fillm_o, setAud_o, setv_o, setv_s, Int.reduceNe, Int.reduceEq, Int.reduceLT, Int.reduceAdd, not_false_eq_true, ne_eq, or_true, true_or, al, a0]
  by_cases d1 : 0 ≤ c ∧ c < σ 5000 29
  · rw [if_pos d1]
    have hjc := hj c d1.1 d1.2
    by_cases d2 : 0 ≤ t ∧ t < σ 5000 30
    · rw [if_pos d2]
      repeat' (first | assumption | apply And.intro | intro _)
      all_goals first | omega | exact absurd trivial (by assumption) | exact h1 ⟨by omega, by omega, by omega, by omega, by omega, by omega⟩ | exact h2 (by omega)
    · rw [if_neg d2]
      repeat' (first | assumption | apply And.intro | intro _)
      all_goals first | omega | exact absurd trivial (by assumption) | exact h2 (by omega)
  · rw [if_neg d1]
    repeat' (first | assumption | apply And.intro | intro _)
    all_goals first | omega | exact absurd trivial (by assumption) | exact h2 (by omega)
/-- an ACT is remembered -/
def rm1 (σ : Mem) : Mem := if σ 5000 48 = 40 then up (cpy σ 5023 208 5023 0 8112) 5000 48 39 else σ
def rmb (σ : Mem) : Mem := up (cpy (rm1 σ) 5015 0 5023 (208 * rm1 σ 5000 48) 208) 5000 48 (rm1 σ 5000 48 + 1)
theorem wd_1353 : Cond.fieldLink RX12 326 "ArmchairHouseModel" "acts" "I" ∈ TBL := tb_tab (List.mem_of_getElem? (i := 1353) (by decide +kernel)) rfl
theorem fl_X12_326 : amFl RX12 12 48 326 RX12 TX12 57 := ⟨rfl, inT_12, by decide, wd_1353⟩
theorem wd_1352 : Cond.fieldLink RX12 99 "ArmchairHouseModel" "undoRow" "[I" ∈ TBL := tb_tab (List.mem_of_getElem? (i := 1352) (by decide +kernel)) rfl
theorem fl_X12_99 : amFl RX12 12 47 99 RX12 TX12 57 := ⟨rfl, inT_12, by decide, wd_1352⟩
theorem fp_X12_326 : amFp RX12 12 48 326 RX12 TX12 57 tyX12 .int := ⟨fl_X12_326, tyX12_ok, nmX12, by decide +kernel⟩
def a_X12_remember : AC := [(0, vAload 0 1), (1, vGetI 28 48 4), (4, vI 40 6), (6, vIcNe 50 9), (9, vI 0 10), (10, vIstore 1 11), (11, vIload 1 12), (12, vI 8112 15), (15, vIcGe 40 18), (18, vAload 0 19), (19, vGetR TT 28 47 8 22), (22, vIload 1 23), (23, vAload 0 24), (24, vGetR TT 28 47 8 27), (27, vIload 1 28), (28, vI 208 31), (31, vIadd 32), (32, vIald TT 33), (33, vIast TT 34), (34, vIinc 1 1 37), (37, vGoto 11), (40, vAload 0 41), (41, vDup 42), (42, vGetI 28 48 45), (45, vI 1 46), (46, vIsub 47), (47, vPutI 28 48 50), (50, vI 0 51), (51, vIstore 1 52), (52, vIload 1 53), (53, vI 208 56), (56, vIcGe 86 59), (59, vAload 0 60), (60, vGetR TT 28 47 8 63), (63, vI 208 66), (66, vAload 0 67), (67, vGetI 28 48 70), (70, vImul 71), (71, vIload 1 72), (72, vIadd 73), (73, vAload 0 74), (74, vGetR TT 28 36 8 77), (77, vIload 1 78), (78, vIald TT 79), (79, vIast TT 80), (80, vIinc 1 1 83), (83, vGoto 52), (86, vAload 0 87), (87, vDup 88), (88, vGetI 28 48 91), (91, vI 1 92), (92, vIadd 93), (93, vPutI 28 48 96), (96, vVret)]
theorem k_X12_remember_0 : look a_X12_remember 0 = vAload 0 1 := rfl
theorem k_X12_remember_1 : look a_X12_remember 1 = vGetI 28 48 4 := rfl
theorem k_X12_remember_4 : look a_X12_remember 4 = vI 40 6 := rfl
theorem k_X12_remember_6 : look a_X12_remember 6 = vIcNe 50 9 := rfl
theorem k_X12_remember_9 : look a_X12_remember 9 = vI 0 10 := rfl
theorem k_X12_remember_10 : look a_X12_remember 10 = vIstore 1 11 := rfl
theorem k_X12_remember_11 : look a_X12_remember 11 = vIload 1 12 := rfl
theorem k_X12_remember_12 : look a_X12_remember 12 = vI 8112 15 := rfl
theorem k_X12_remember_15 : look a_X12_remember 15 = vIcGe 40 18 := rfl
theorem k_X12_remember_18 : look a_X12_remember 18 = vAload 0 19 := rfl
theorem k_X12_remember_19 : look a_X12_remember 19 = vGetR TT 28 47 8 22 := rfl
theorem k_X12_remember_22 : look a_X12_remember 22 = vIload 1 23 := rfl
theorem k_X12_remember_23 : look a_X12_remember 23 = vAload 0 24 := rfl
theorem k_X12_remember_24 : look a_X12_remember 24 = vGetR TT 28 47 8 27 := rfl
theorem k_X12_remember_27 : look a_X12_remember 27 = vIload 1 28 := rfl
theorem k_X12_remember_28 : look a_X12_remember 28 = vI 208 31 := rfl
theorem k_X12_remember_31 : look a_X12_remember 31 = vIadd 32 := rfl
theorem k_X12_remember_32 : look a_X12_remember 32 = vIald TT 33 := rfl
theorem k_X12_remember_33 : look a_X12_remember 33 = vIast TT 34 := rfl
theorem k_X12_remember_34 : look a_X12_remember 34 = vIinc 1 1 37 := rfl
theorem k_X12_remember_37 : look a_X12_remember 37 = vGoto 11 := rfl
theorem k_X12_remember_40 : look a_X12_remember 40 = vAload 0 41 := rfl
theorem k_X12_remember_41 : look a_X12_remember 41 = vDup 42 := rfl
theorem k_X12_remember_42 : look a_X12_remember 42 = vGetI 28 48 45 := rfl
theorem k_X12_remember_45 : look a_X12_remember 45 = vI 1 46 := rfl
theorem k_X12_remember_46 : look a_X12_remember 46 = vIsub 47 := rfl
theorem k_X12_remember_47 : look a_X12_remember 47 = vPutI 28 48 50 := rfl
theorem k_X12_remember_50 : look a_X12_remember 50 = vI 0 51 := rfl
theorem k_X12_remember_51 : look a_X12_remember 51 = vIstore 1 52 := rfl
theorem k_X12_remember_52 : look a_X12_remember 52 = vIload 1 53 := rfl
theorem k_X12_remember_53 : look a_X12_remember 53 = vI 208 56 := rfl
theorem k_X12_remember_56 : look a_X12_remember 56 = vIcGe 86 59 := rfl
theorem k_X12_remember_59 : look a_X12_remember 59 = vAload 0 60 := rfl
theorem k_X12_remember_60 : look a_X12_remember 60 = vGetR TT 28 47 8 63 := rfl
theorem k_X12_remember_63 : look a_X12_remember 63 = vI 208 66 := rfl
theorem k_X12_remember_66 : look a_X12_remember 66 = vAload 0 67 := rfl
theorem k_X12_remember_67 : look a_X12_remember 67 = vGetI 28 48 70 := rfl
theorem k_X12_remember_70 : look a_X12_remember 70 = vImul 71 := rfl
theorem k_X12_remember_71 : look a_X12_remember 71 = vIload 1 72 := rfl
theorem k_X12_remember_72 : look a_X12_remember 72 = vIadd 73 := rfl
theorem k_X12_remember_73 : look a_X12_remember 73 = vAload 0 74 := rfl
theorem k_X12_remember_74 : look a_X12_remember 74 = vGetR TT 28 36 8 77 := rfl
theorem k_X12_remember_77 : look a_X12_remember 77 = vIload 1 78 := rfl
theorem k_X12_remember_78 : look a_X12_remember 78 = vIald TT 79 := rfl
theorem k_X12_remember_79 : look a_X12_remember 79 = vIast TT 80 := rfl
theorem k_X12_remember_80 : look a_X12_remember 80 = vIinc 1 1 83 := rfl
theorem k_X12_remember_83 : look a_X12_remember 83 = vGoto 52 := rfl
theorem k_X12_remember_86 : look a_X12_remember 86 = vAload 0 87 := rfl
theorem k_X12_remember_87 : look a_X12_remember 87 = vDup 88 := rfl
theorem k_X12_remember_88 : look a_X12_remember 88 = vGetI 28 48 91 := rfl
theorem k_X12_remember_91 : look a_X12_remember 91 = vI 1 92 := rfl
theorem k_X12_remember_92 : look a_X12_remember 92 = vIadd 93 := rfl
theorem k_X12_remember_93 : look a_X12_remember 93 = vPutI 28 48 96 := rfl
theorem k_X12_remember_96 : look a_X12_remember 96 = vVret := rfl
theorem o_X12_remember {X : amX} (e1 : XT X = TT) (e2 : XD X = 0) (hB : amB X RX12 cX12_remember (none) 2) : ∀ pc, amOK X pc (look a_X12_remember pc) := by
  have hT : amTok (XT X) := e1 ▸ TT_ok
  refine look_ok ?_
  unfold a_X12_remember
  refine fc (ok_aload_n hB dX12_remember_0) ?_
  refine fc (ok_getI hB hT fl_X12_326 rfl rfl (Or.inl af_12_48) dX12_remember_1) ?_
  refine fc (ok_bipush hB dX12_remember_4 (by decide)) ?_
  refine fc (ok_icmp_ne hB (t := 50) (by decide) dX12_remember_6) ?_
  refine fc (ok_iconst hB dX12_remember_9) ?_
  refine fc (ok_istore_n hB (by decide) dX12_remember_10) ?_
  refine fc (ok_iload_n hB dX12_remember_11) ?_
  refine fc (ok_sipush hB dX12_remember_12 (by decide)) ?_
  refine fc (ok_icmp_ge hB (t := 40) (by decide) dX12_remember_15) ?_
  refine fc (ok_aload_n hB dX12_remember_18) ?_
  refine fc (okt_getR e1 hB hT fl_X12_99 rfl af_12_47 at_12_47 (by decide) dX12_remember_19) ?_
  refine fc (ok_iload_n hB dX12_remember_22) ?_
  refine fc (ok_aload_n hB dX12_remember_23) ?_
  refine fc (okt_getR e1 hB hT fl_X12_99 rfl af_12_47 at_12_47 (by decide) dX12_remember_24) ?_
  refine fc (ok_iload_n hB dX12_remember_27) ?_
  refine fc (ok_sipush hB dX12_remember_28 (by decide)) ?_
  refine fc (ok_iadd hB dX12_remember_31) ?_
  refine fc (okt_iaload e1 hB dX12_remember_32) ?_
  refine fc (okt_iastore e1 hB dX12_remember_33) ?_
  refine fc (ok_iinc hB (by decide) dX12_remember_34) ?_
  refine fc (ok_goto hB (t := 11) (by decide) dX12_remember_37) ?_
  refine fc (ok_aload_n hB dX12_remember_40) ?_
  refine fc (ok_dup hB dX12_remember_41) ?_
  refine fc (ok_getI hB hT fl_X12_326 rfl rfl (Or.inl af_12_48) dX12_remember_42) ?_
  refine fc (ok_iconst hB dX12_remember_45) ?_
  refine fc (ok_isub hB dX12_remember_46) ?_
  refine fc (ok_putI hB hT fp_X12_326 rfl rfl rfl af_12_48 dX12_remember_47) ?_
  refine fc (ok_iconst hB dX12_remember_50) ?_
  refine fc (ok_istore_n hB (by decide) dX12_remember_51) ?_
  refine fc (ok_iload_n hB dX12_remember_52) ?_
  refine fc (ok_sipush hB dX12_remember_53 (by decide)) ?_
  refine fc (ok_icmp_ge hB (t := 86) (by decide) dX12_remember_56) ?_
  refine fc (ok_aload_n hB dX12_remember_59) ?_
  refine fc (okt_getR e1 hB hT fl_X12_99 rfl af_12_47 at_12_47 (by decide) dX12_remember_60) ?_
  refine fc (ok_sipush hB dX12_remember_63 (by decide)) ?_
  refine fc (ok_aload_n hB dX12_remember_66) ?_
  refine fc (ok_getI hB hT fl_X12_326 rfl rfl (Or.inl af_12_48) dX12_remember_67) ?_
  refine fc (ok_imul hB dX12_remember_70) ?_
  refine fc (ok_iload_n hB dX12_remember_71) ?_
  refine fc (ok_iadd hB dX12_remember_72) ?_
  refine fc (ok_aload_n hB dX12_remember_73) ?_
  refine fc (okt_getR e1 hB hT fl_X12_67 rfl af_12_36 at_12_36 (by decide) dX12_remember_74) ?_
  refine fc (ok_iload_n hB dX12_remember_77) ?_
  refine fc (okt_iaload e1 hB dX12_remember_78) ?_
  refine fc (okt_iastore e1 hB dX12_remember_79) ?_
  refine fc (ok_iinc hB (by decide) dX12_remember_80) ?_
  refine fc (ok_goto hB (t := 52) (by decide) dX12_remember_83) ?_
  refine fc (ok_aload_n hB dX12_remember_86) ?_
  refine fc (ok_dup hB dX12_remember_87) ?_
  refine fc (ok_getI hB hT fl_X12_326 rfl rfl (Or.inl af_12_48) dX12_remember_88) ?_
  refine fc (ok_iconst hB dX12_remember_91) ?_
  refine fc (ok_iadd hB dX12_remember_92) ?_
  refine fc (ok_putI hB hT fp_X12_326 rfl rfl rfl af_12_48 dX12_remember_93) ?_
  refine fc (ok_vret hB dX12_remember_96) ?_
  exact fn
def inv_rmb (σ : Mem) (n pc : Nat) (ls st : List AV) (σ' : Mem) : Prop := st = [] ∧
  ((∃ k : Nat, pc = 11 ∧ ls = [(28, 5000), (0, (k : Int))] ∧ k + n = 8112 + 300 ∧ k ≤ 8112 ∧ σ 5000 48 = 40 ∧ σ' = cpy σ 5023 208 5023 0 k) ∨
   (∃ k : Nat, pc = 52 ∧ ls = [(28, 5000), (0, (k : Int))] ∧ k + n = 208 ∧ σ' = cpy (rm1 σ) 5015 0 5023 (208 * rm1 σ 5000 48) k))
def w_X12_remember : WP := fun av σ Q => av = [(28, 5000)] ∧ (0 ≤ σ 5000 48 ∧ σ 5000 48 ≤ 40 ∧ Q (6, 0) (rmb σ))
theorem w_X12_remember_e  (σ : Mem) (Q : AV → Mem → Prop) : w_X12_remember [(28, 5000)] σ Q = (0 ≤ σ 5000 48 ∧ σ 5000 48 ≤ 40 ∧ Q (6, 0) (rmb σ)) := by
  apply propext; constructor
  · rintro ⟨h9, hb9⟩; cases h9; exact hb9
  · intro hb9; exact ⟨rfl, hb9⟩

set_option maxRecDepth 100000 in
set_option maxHeartbeats 4000000 in
theorem s_X12_remember : ∀ av σ Q, w_X12_remember av σ Q → amCall 0 0 0 TT yX12_remember cX12_remember 2 (none) av σ Q := by
  rintro av σ Q ⟨rfl, h0, h1, h⟩
  have r48 : 0 ≤ rm1 σ 5000 48 ∧ rm1 σ 5000 48 ≤ 39 := by
    unfold rm1
    split
    · rw [up_s]; omega
    · omega
  have c50 : ∀ (τ : Mem) (a sp dp n : Int), cpy τ a sp 5023 dp n 5000 = τ 5000 := fun τ a sp dp n => cpy_oo _ _ _ _ _ _ (by decide)
  have c15 : ∀ (τ : Mem) (a sp dp n : Int), cpy τ a sp 5023 dp n 5015 = τ 5015 := fun τ a sp dp n => cpy_oo _ _ _ _ _ _ (by decide)
  refine am_m [11, 52] (inv_rmb σ) (own := RX12) (A := look a_X12_remember) (fun X e1 e2 hB => o_X12_remember e1 e2 hB) rfl (by decide +kernel) rfl rfl ?_ ⟨60, ?_⟩ (w := 2)
  · rintro n pc ls st σ' ⟨rfl, ⟨k, rfl, rfl, hn, hk, h40, rfl⟩ | ⟨k, rfl, rfl, hn, rfl⟩⟩
    · by_cases cc : k < 8112
      · have i9 : ∃ k', k' < n ∧ inv_rmb σ k' 11 [(28, 5000), (0, (k : Int) + 1)] [] (up (cpy σ 5023 208 5023 0 k) 5023 k (σ 5023 ((k : Int) + 208))) := by
          refine ⟨n - 1, by omega, rfl, Or.inl ⟨k + 1, rfl, rfl, by omega, by omega, h40, ?_⟩⟩
          have := cpyS σ 5023 208 5023 0 (k := k) (by omega)
          rw [Int.zero_add, Int.add_comm 208] at this
          rw [this]; rfl
        have rd : cpy σ 5023 208 5023 0 k 5023 ((k : Int) + 208) = σ 5023 ((k : Int) + 208) := cpy_at _ _ _ _ _ _ (by omega)
        refine ⟨60, ?_⟩
        simp only [↓reduceIte, inR_0, inR_1, inR_m, vSw2_e, swP_n, swP_c, vI_e, vL_e, vNull_e, vIload_e, vLload_e, vAload_e, vIstore_e, vLstore_e, vAstore_e, vIinc_e, vIadd_e, vIsub_e, vImul_e, vIand_e, vIor_e, vIxor_e, vIshl_e, vIshr_e, vIushr_e, vIdiv_e, vIrem_e, vLadd_e, vLsub_e, vLmul_e, vLand_e, vLor_e, vLxor_e, vLdiv_e, vLrem_e, vLushr_e, vLshl_e, vLcmp_e, vIneg_e, vI2l_e, vL2i_e, vI2b_e, vI2c_e, vDup_e, vPop_e, vDup2_e, vGoto_e, vIcEq_e, vIfEq_e, vIcNe_e, vIfNe_e, vIcLt_e, vIfLt_e, vIcGe_e, vIfGe_e, vIcGt_e, vIfGt_e, vIcLe_e, vIfLe_e, vNonnull_e, vSw_e, vGetI_e, vGetL_e, vGetR_e, vPutI_e, vPutZ_e, vPutL_e, vPutR_e, vIald_e, vIald_s, vLald_e, vBald_e, vBald_s, vAald_e, vIast_e, vLast_e, vBast_e, vAast_e, vAlen_e8, vAlen_e9, vAlen_e10, vAlen_e11, vAlen_e5, vAlen_e3, vGets_e, vCompact_e, vLdcS_e, vIret_e, vZret_e, vCret_e, vBret_e, vLret_e, vVret_e, vAret_e, vCallM_e0, vCallMV_e0, vCallS_e0, vCallSV_e0, vCallM_e1, vCallMV_e1, vCallS_e1, vCallSV_e1, vCallM_e2, vCallMV_e2, vCallS_e2, vCallSV_e2, vCallM_e3, vCallMV_e3, vCallS_e3, vCallSV_e3, vCallM_e4, vCallMV_e4, vCallS_e4, vCallSV_e4, vCallM_e5, vCallMV_e5, vCallS_e5, vCallSV_e5, vCallM_e6, vCallMV_e6, vCallS_e6, vCallSV_e6, vCallM_e7, vCallMV_e7, vCallS_e7, vCallSV_e7, vBad_e, vStrVal_e, vStrCod_e, vForm_e, vCallT_e0, vCallT_e1, vCallT_e2, vCopy_e, rf_0_0, rf_0_1, rf_0_2, rf_0_3, rf_0_4, rf_0_7, rf_0_10, rf_0_11, rf_0_12, rf_0_13, rf_0_14, rf_0_15, rf_0_16, rf_1_0, rf_3_0, rf_3_1, rf_6_0, rf_6_1, rf_9_0, rf_9_1, rf_9_3, rf_13_0, rf_13_1, rf_13_2, rf_16_0, rf_16_1, rf_16_2, rf_16_3, rf_21_0, rf_21_1, rf_21_2, rf_21_3, rf_26_0, rf_26_1, rf_26_2, rf_26_3, rf_26_4, rf_26_5, rf_26_6, rf_31_0, rf_31_2, rf_31_5, rf_31_6, rf_36_0, rf_36_1, rf_36_2, rf_36_3, rf_39_0, rf_39_1, rf_39_2, rf_41_0, rf_41_1, rf_41_2, rf_41_3, rf_5000_1, rf_5000_2, rf_5000_3, rf_5000_4, rf_5000_5, rf_5000_15, rf_5000_16, rf_5000_18, rf_5000_19, rf_5000_20, rf_5000_21, rf_5000_22, rf_5000_23, rf_5000_24, rf_5000_25, rf_5000_26, rf_5000_27, rf_5000_36, rf_5000_37, rf_5000_40, rf_5000_41, rf_5000_42, rf_5000_43, rf_5000_44, rf_5000_45, rf_5000_47, rf_5000_52, rf_5000_54, rf_5000_55, rf_100_0, rf_100_1, rf_103_0, rf_103_1, rf_106_0, rf_106_1, rf_109_0, rf_109_1, al_2, al_4, al_5, al_7, al_8, al_10, al_11, al_12, al_14, al_15, al_17, al_18, al_19, al_20, al_22, al_23, al_24, al_25, al_27, al_28, al_29, al_30, al_32, al_33, al_34, al_35, al_37, al_38, al_40, al_42, al_5001, al_5002, al_5003, al_5004, al_5005, al_5006, al_5007, al_5008, al_5009, al_5010, al_5011, al_5012, al_5013, al_5014, al_5015, al_5016, al_5017, al_5018, al_5019, al_5020, al_5021, al_5022, al_5023, al_5024, al_5025, al_5026, al_9000, al_101, al_102, al_104, al_105, al_107, al_108, al_110, al_111, vcs_e, lg_c0, lg_cs, lg_nil, set_c0, set_cs, okst_0, okst_s, acok_n, acok_c, List.contains_nil, List.contains_cons, Bool.or_false, Bool.false_or, Bool.false_eq_true, if_false, if_true, ite_self, ne_eq, true_and, and_true, not_false_eq_true, not_true_eq_false, false_imp_iff, true_imp_iff, Nat.ble_eq, Bool.and_eq_true, reduceCtorEq, or_false, false_or, or_true, true_or, false_and, and_false, and_self, Int.reduceLE, Int.reduceAdd, Int.reduceSub, Int.reduceMul, Int.reduceNeg, Int.reduceLT, Int.reduceEq, Int.reduceNe, Nat.reduceBEq, Nat.reduceBNe, Nat.reduceEqDiff, amCmp_in, amCmp_lt, amCmp_le, amCmp_gt, amCmp_ge, amCmp_eq, amCmp_ne, Nat.reduceLeDiff, Nat.reduceSub, Bool.and_true, Bool.true_and, Bool.and_self, Bool.or_true, Bool.true_or, isRf_3, isRf_4, isRf_5, isRf_8, isRf_9, isRf_10, isRf_11, isRf_15, isRf_16, isRf_17, isRf_18, isRf_19, isRf_20, isRf_21, isRf_22, isRf_23, isRf_24, isRf_25, isRf_26, isRf_27, isRf_28, k_X12_remember_0, k_X12_remember_1, k_X12_remember_4, k_X12_remember_6, k_X12_remember_9, k_X12_remember_10, k_X12_remember_11, k_X12_remember_12, k_X12_remember_15, k_X12_remember_18, k_X12_remember_19, k_X12_remember_22, k_X12_remember_23, k_X12_remember_24, k_X12_remember_27, k_X12_remember_28, k_X12_remember_31, k_X12_remember_32, k_X12_remember_33, k_X12_remember_34, k_X12_remember_37, k_X12_remember_40, k_X12_remember_41, k_X12_remember_42, k_X12_remember_45, k_X12_remember_46, k_X12_remember_47, k_X12_remember_50, k_X12_remember_51, k_X12_remember_52, k_X12_remember_53, k_X12_remember_56, k_X12_remember_59, k_X12_remember_60, k_X12_remember_63, k_X12_remember_66, k_X12_remember_67, k_X12_remember_70, k_X12_remember_71, k_X12_remember_72, k_X12_remember_73, k_X12_remember_74, k_X12_remember_77, k_X12_remember_78, k_X12_remember_79, k_X12_remember_80, k_X12_remember_83, k_X12_remember_86, k_X12_remember_87, k_X12_remember_88, k_X12_remember_91, k_X12_remember_92, k_X12_remember_93, k_X12_remember_96, rd]
        repeat' (first | apply And.intro | intro _)
        all_goals first | omega | exact absurd trivial (by assumption) | exact i9
      · have ek : (k : Int) = 8112 := by omega
        have i9 : ∃ k', k' < n ∧ inv_rmb σ k' 52 [(28, 5000), (0, 0)] [] (up (cpy σ 5023 208 5023 0 k) 5000 48 39) := by
          refine ⟨208, by omega, rfl, Or.inr ⟨0, rfl, rfl, rfl, ?_⟩⟩
          rw [show ((0 : Nat) : Int) = 0 from rfl, cpy_0, ek]
          unfold rm1; rw [if_pos h40]
        refine ⟨60, ?_⟩
        simp only [↓reduceIte, inR_0, inR_1, inR_m, vSw2_e, swP_n, swP_c, vI_e, vL_e, vNull_e, vIload_e, vLload_e, vAload_e, vIstore_e, vLstore_e, vAstore_e, vIinc_e, vIadd_e, vIsub_e, vImul_e, vIand_e, vIor_e, vIxor_e, vIshl_e, vIshr_e, vIushr_e, vIdiv_e, vIrem_e, vLadd_e, vLsub_e, vLmul_e, vLand_e, vLor_e, vLxor_e, vLdiv_e, vLrem_e, vLushr_e, vLshl_e, vLcmp_e, vIneg_e, vI2l_e, vL2i_e, vI2b_e, vI2c_e, vDup_e, vPop_e, vDup2_e, vGoto_e, vIcEq_e, vIfEq_e, vIcNe_e, vIfNe_e, vIcLt_e, vIfLt_e, vIcGe_e, vIfGe_e, vIcGt_e, vIfGt_e, vIcLe_e, vIfLe_e, vNonnull_e, vSw_e, vGetI_e, vGetL_e, vGetR_e, vPutI_e, vPutZ_e, vPutL_e, vPutR_e, vIald_e, vIald_s, vLald_e, vBald_e, vBald_s, vAald_e, vIast_e, vLast_e, vBast_e, vAast_e, vAlen_e8, vAlen_e9, vAlen_e10, vAlen_e11, vAlen_e5, vAlen_e3, vGets_e, vCompact_e, vLdcS_e, vIret_e, vZret_e, vCret_e, vBret_e, vLret_e, vVret_e, vAret_e, vCallM_e0, vCallMV_e0, vCallS_e0, vCallSV_e0, vCallM_e1, vCallMV_e1, vCallS_e1, vCallSV_e1, vCallM_e2, vCallMV_e2, vCallS_e2, vCallSV_e2, vCallM_e3, vCallMV_e3, vCallS_e3, vCallSV_e3, vCallM_e4, vCallMV_e4, vCallS_e4, vCallSV_e4, vCallM_e5, vCallMV_e5, vCallS_e5, vCallSV_e5, vCallM_e6, vCallMV_e6, vCallS_e6, vCallSV_e6, vCallM_e7, vCallMV_e7, vCallS_e7, vCallSV_e7, vBad_e, vStrVal_e, vStrCod_e, vForm_e, vCallT_e0, vCallT_e1, vCallT_e2, vCopy_e, rf_0_0, rf_0_1, rf_0_2, rf_0_3, rf_0_4, rf_0_7, rf_0_10, rf_0_11, rf_0_12, rf_0_13, rf_0_14, rf_0_15, rf_0_16, rf_1_0, rf_3_0, rf_3_1, rf_6_0, rf_6_1, rf_9_0, rf_9_1, rf_9_3, rf_13_0, rf_13_1, rf_13_2, rf_16_0, rf_16_1, rf_16_2, rf_16_3, rf_21_0, rf_21_1, rf_21_2, rf_21_3, rf_26_0, rf_26_1, rf_26_2, rf_26_3, rf_26_4, rf_26_5, rf_26_6, rf_31_0, rf_31_2, rf_31_5, rf_31_6, rf_36_0, rf_36_1, rf_36_2, rf_36_3, rf_39_0, rf_39_1, rf_39_2, rf_41_0, rf_41_1, rf_41_2, rf_41_3, rf_5000_1, rf_5000_2, rf_5000_3, rf_5000_4, rf_5000_5, rf_5000_15, rf_5000_16, rf_5000_18, rf_5000_19, rf_5000_20, rf_5000_21, rf_5000_22, rf_5000_23, rf_5000_24, rf_5000_25, rf_5000_26, rf_5000_27, rf_5000_36, rf_5000_37, rf_5000_40, rf_5000_41, rf_5000_42, rf_5000_43, rf_5000_44, rf_5000_45, rf_5000_47, rf_5000_52, rf_5000_54, rf_5000_55, rf_100_0, rf_100_1, rf_103_0, rf_103_1, rf_106_0, rf_106_1, rf_109_0, rf_109_1, al_2, al_4, al_5, al_7, al_8, al_10, al_11, al_12, al_14, al_15, al_17, al_18, al_19, al_20, al_22, al_23, al_24, al_25, al_27, al_28, al_29, al_30, al_32, al_33, al_34, al_35, al_37, al_38, al_40, al_42, al_5001, al_5002, al_5003, al_5004, al_5005, al_5006, al_5007, al_5008, al_5009, al_5010, al_5011, al_5012, al_5013, al_5014, al_5015, al_5016, al_5017, al_5018, al_5019, al_5020, al_5021, al_5022, al_5023, al_5024, al_5025, al_5026, al_9000, al_101, al_102, al_104, al_105, al_107, al_108, al_110, al_111, vcs_e, lg_c0, lg_cs, lg_nil, set_c0, set_cs, okst_0, okst_s, acok_n, acok_c, List.contains_nil, List.contains_cons, Bool.or_false, Bool.false_or, Bool.false_eq_true, if_false, if_true, ite_self, ne_eq, true_and, and_true, not_false_eq_true, not_true_eq_false, false_imp_iff, true_imp_iff, Nat.ble_eq, Bool.and_eq_true, reduceCtorEq, or_false, false_or, or_true, true_or, false_and, and_false, and_self, Int.reduceLE, Int.reduceAdd, Int.reduceSub, Int.reduceMul, Int.reduceNeg, Int.reduceLT, Int.reduceEq, Int.reduceNe, Nat.reduceBEq, Nat.reduceBNe, Nat.reduceEqDiff, amCmp_in, amCmp_lt, amCmp_le, amCmp_gt, amCmp_ge, amCmp_eq, amCmp_ne, Nat.reduceLeDiff, Nat.reduceSub, Bool.and_true, Bool.true_and, Bool.and_self, Bool.or_true, Bool.true_or, isRf_3, isRf_4, isRf_5, isRf_8, isRf_9, isRf_10, isRf_11, isRf_15, isRf_16, isRf_17, isRf_18, isRf_19, isRf_20, isRf_21, isRf_22, isRf_23, isRf_24, isRf_25, isRf_26, isRf_27, isRf_28, k_X12_remember_0, k_X12_remember_1, k_X12_remember_4, k_X12_remember_6, k_X12_remember_9, k_X12_remember_10, k_X12_remember_11, k_X12_remember_12, k_X12_remember_15, k_X12_remember_18, k_X12_remember_19, k_X12_remember_22, k_X12_remember_23, k_X12_remember_24, k_X12_remember_27, k_X12_remember_28, k_X12_remember_31, k_X12_remember_32, k_X12_remember_33, k_X12_remember_34, k_X12_remember_37, k_X12_remember_40, k_X12_remember_41, k_X12_remember_42, k_X12_remember_45, k_X12_remember_46, k_X12_remember_47, k_X12_remember_50, k_X12_remember_51, k_X12_remember_52, k_X12_remember_53, k_X12_remember_56, k_X12_remember_59, k_X12_remember_60, k_X12_remember_63, k_X12_remember_66, k_X12_remember_67, k_X12_remember_70, k_X12_remember_71, k_X12_remember_72, k_X12_remember_73, k_X12_remember_74, k_X12_remember_77, k_X12_remember_78, k_X12_remember_79, k_X12_remember_80, k_X12_remember_83, k_X12_remember_86, k_X12_remember_87, k_X12_remember_88, k_X12_remember_91, k_X12_remember_92, k_X12_remember_93, k_X12_remember_96, c50, h40]
        repeat' (first | assumption | apply And.intro | intro _)
        all_goals first | omega | exact absurd trivial (by assumption) | exact i9
    · generalize hR : rm1 σ = R at *
      by_cases cc : k < 208
      · have i9 : ∃ k', k' < n ∧ inv_rmb σ k' 52 [(28, 5000), (0, (k : Int) + 1)] [] (up (cpy R 5015 0 5023 (208 * R 5000 48) k) 5023 (208 * R 5000 48 + k) (R 5015 k)) := by
          refine ⟨n - 1, by omega, rfl, Or.inr ⟨k + 1, rfl, rfl, by omega, ?_⟩⟩
          have := cpyS R 5015 0 5023 (208 * R 5000 48) (k := k) (by omega)
          rw [Int.zero_add] at this
          rw [hR, this]; rfl
        refine ⟨60, ?_⟩
        simp only [↓reduceIte, inR_0, inR_1, inR_m, vSw2_e, swP_n, swP_c, vI_e, vL_e, vNull_e, vIload_e, vLload_e, vAload_e, vIstore_e, vLstore_e, vAstore_e, vIinc_e, vIadd_e, vIsub_e, vImul_e, vIand_e, vIor_e, vIxor_e, vIshl_e, vIshr_e, vIushr_e, vIdiv_e, vIrem_e, vLadd_e, vLsub_e, vLmul_e, vLand_e, vLor_e, vLxor_e, vLdiv_e, vLrem_e, vLushr_e, vLshl_e, vLcmp_e, vIneg_e, vI2l_e, vL2i_e, vI2b_e, vI2c_e, vDup_e, vPop_e, vDup2_e, vGoto_e, vIcEq_e, vIfEq_e, vIcNe_e, vIfNe_e, vIcLt_e, vIfLt_e, vIcGe_e, vIfGe_e, vIcGt_e, vIfGt_e, vIcLe_e, vIfLe_e, vNonnull_e, vSw_e, vGetI_e, vGetL_e, vGetR_e, vPutI_e, vPutZ_e, vPutL_e, vPutR_e, vIald_e, vIald_s, vLald_e, vBald_e, vBald_s, vAald_e, vIast_e, vLast_e, vBast_e, vAast_e, vAlen_e8, vAlen_e9, vAlen_e10, vAlen_e11, vAlen_e5, vAlen_e3, vGets_e, vCompact_e, vLdcS_e, vIret_e, vZret_e, vCret_e, vBret_e, vLret_e, vVret_e, vAret_e, vCallM_e0, vCallMV_e0, vCallS_e0, vCallSV_e0, vCallM_e1, vCallMV_e1, vCallS_e1, vCallSV_e1, vCallM_e2, vCallMV_e2, vCallS_e2, vCallSV_e2, vCallM_e3, vCallMV_e3, vCallS_e3, vCallSV_e3, vCallM_e4, vCallMV_e4, vCallS_e4, vCallSV_e4, vCallM_e5, vCallMV_e5, vCallS_e5, vCallSV_e5, vCallM_e6, vCallMV_e6, vCallS_e6, vCallSV_e6, vCallM_e7, vCallMV_e7, vCallS_e7, vCallSV_e7, vBad_e, vStrVal_e, vStrCod_e, vForm_e, vCallT_e0, vCallT_e1, vCallT_e2, vCopy_e, rf_0_0, rf_0_1, rf_0_2, rf_0_3, rf_0_4, rf_0_7, rf_0_10, rf_0_11, rf_0_12, rf_0_13, rf_0_14, rf_0_15, rf_0_16, rf_1_0, rf_3_0, rf_3_1, rf_6_0, rf_6_1, rf_9_0, rf_9_1, rf_9_3, rf_13_0, rf_13_1, rf_13_2, rf_16_0, rf_16_1, rf_16_2, rf_16_3, rf_21_0, rf_21_1, rf_21_2, rf_21_3, rf_26_0, rf_26_1, rf_26_2, rf_26_3, rf_26_4, rf_26_5, rf_26_6, rf_31_0, rf_31_2, rf_31_5, rf_31_6, rf_36_0, rf_36_1, rf_36_2, rf_36_3, rf_39_0, rf_39_1, rf_39_2, rf_41_0, rf_41_1, rf_41_2, rf_41_3, rf_5000_1, rf_5000_2, rf_5000_3, rf_5000_4, rf_5000_5, rf_5000_15, rf_5000_16, rf_5000_18, rf_5000_19, rf_5000_20, rf_5000_21, rf_5000_22, rf_5000_23, rf_5000_24, rf_5000_25, rf_5000_26, rf_5000_27, rf_5000_36, rf_5000_37, rf_5000_40, rf_5000_41, rf_5000_42, rf_5000_43, rf_5000_44, rf_5000_45, rf_5000_47, rf_5000_52, rf_5000_54, rf_5000_55, rf_100_0, rf_100_1, rf_103_0, rf_103_1, rf_106_0, rf_106_1, rf_109_0, rf_109_1, al_2, al_4, al_5, al_7, al_8, al_10, al_11, al_12, al_14, al_15, al_17, al_18, al_19, al_20, al_22, al_23, al_24, al_25, al_27, al_28, al_29, al_30, al_32, al_33, al_34, al_35, al_37, al_38, al_40, al_42, al_5001, al_5002, al_5003, al_5004, al_5005, al_5006, al_5007, al_5008, al_5009, al_5010, al_5011, al_5012, al_5013, al_5014, al_5015, al_5016, al_5017, al_5018, al_5019, al_5020, al_5021, al_5022, al_5023, al_5024, al_5025, al_5026, al_9000, al_101, al_102, al_104, al_105, al_107, al_108, al_110, al_111, vcs_e, lg_c0, lg_cs, lg_nil, set_c0, set_cs, okst_0, okst_s, acok_n, acok_c, List.contains_nil, List.contains_cons, Bool.or_false, Bool.false_or, Bool.false_eq_true, if_false, if_true, ite_self, ne_eq, true_and, and_true, not_false_eq_true, not_true_eq_false, false_imp_iff, true_imp_iff, Nat.ble_eq, Bool.and_eq_true, reduceCtorEq, or_false, false_or, or_true, true_or, false_and, and_false, and_self, Int.reduceLE, Int.reduceAdd, Int.reduceSub, Int.reduceMul, Int.reduceNeg, Int.reduceLT, Int.reduceEq, Int.reduceNe, Nat.reduceBEq, Nat.reduceBNe, Nat.reduceEqDiff, amCmp_in, amCmp_lt, amCmp_le, amCmp_gt, amCmp_ge, amCmp_eq, amCmp_ne, Nat.reduceLeDiff, Nat.reduceSub, Bool.and_true, Bool.true_and, Bool.and_self, Bool.or_true, Bool.true_or, isRf_3, isRf_4, isRf_5, isRf_8, isRf_9, isRf_10, isRf_11, isRf_15, isRf_16, isRf_17, isRf_18, isRf_19, isRf_20, isRf_21, isRf_22, isRf_23, isRf_24, isRf_25, isRf_26, isRf_27, isRf_28, k_X12_remember_0, k_X12_remember_1, k_X12_remember_4, k_X12_remember_6, k_X12_remember_9, k_X12_remember_10, k_X12_remember_11, k_X12_remember_12, k_X12_remember_15, k_X12_remember_18, k_X12_remember_19, k_X12_remember_22, k_X12_remember_23, k_X12_remember_24, k_X12_remember_27, k_X12_remember_28, k_X12_remember_31, k_X12_remember_32, k_X12_remember_33, k_X12_remember_34, k_X12_remember_37, k_X12_remember_40, k_X12_remember_41, k_X12_remember_42, k_X12_remember_45, k_X12_remember_46, k_X12_remember_47, k_X12_remember_50, k_X12_remember_51, k_X12_remember_52, k_X12_remember_53, k_X12_remember_56, k_X12_remember_59, k_X12_remember_60, k_X12_remember_63, k_X12_remember_66, k_X12_remember_67, k_X12_remember_70, k_X12_remember_71, k_X12_remember_72, k_X12_remember_73, k_X12_remember_74, k_X12_remember_77, k_X12_remember_78, k_X12_remember_79, k_X12_remember_80, k_X12_remember_83, k_X12_remember_86, k_X12_remember_87, k_X12_remember_88, k_X12_remember_91, k_X12_remember_92, k_X12_remember_93, k_X12_remember_96, c50, c15]
        repeat' (first | apply And.intro | intro _)
        all_goals first | omega | exact absurd trivial (by assumption) | exact i9
      · have ek : (k : Int) = 208 := by omega
        rw [ek]
        unfold rmb at h
        rw [hR] at h
        refine ⟨60, ?_⟩
        simp only [↓reduceIte, inR_0, inR_1, inR_m, vSw2_e, swP_n, swP_c, vI_e, vL_e, vNull_e, vIload_e, vLload_e, vAload_e, vIstore_e, vLstore_e, vAstore_e, vIinc_e, vIadd_e, vIsub_e, vImul_e, vIand_e, vIor_e, vIxor_e, vIshl_e, vIshr_e, vIushr_e, vIdiv_e, vIrem_e, vLadd_e, vLsub_e, vLmul_e, vLand_e, vLor_e, vLxor_e, vLdiv_e, vLrem_e, vLushr_e, vLshl_e, vLcmp_e, vIneg_e, vI2l_e, vL2i_e, vI2b_e, vI2c_e, vDup_e, vPop_e, vDup2_e, vGoto_e, vIcEq_e, vIfEq_e, vIcNe_e, vIfNe_e, vIcLt_e, vIfLt_e, vIcGe_e, vIfGe_e, vIcGt_e, vIfGt_e, vIcLe_e, vIfLe_e, vNonnull_e, vSw_e, vGetI_e, vGetL_e, vGetR_e, vPutI_e, vPutZ_e, vPutL_e, vPutR_e, vIald_e, vIald_s, vLald_e, vBald_e, vBald_s, vAald_e, vIast_e, vLast_e, vBast_e, vAast_e, vAlen_e8, vAlen_e9, vAlen_e10, vAlen_e11, vAlen_e5, vAlen_e3, vGets_e, vCompact_e, vLdcS_e, vIret_e, vZret_e, vCret_e, vBret_e, vLret_e, vVret_e, vAret_e, vCallM_e0, vCallMV_e0, vCallS_e0, vCallSV_e0, vCallM_e1, vCallMV_e1, vCallS_e1, vCallSV_e1, vCallM_e2, vCallMV_e2, vCallS_e2, vCallSV_e2, vCallM_e3, vCallMV_e3, vCallS_e3, vCallSV_e3, vCallM_e4, vCallMV_e4, vCallS_e4, vCallSV_e4, vCallM_e5, vCallMV_e5, vCallS_e5, vCallSV_e5, vCallM_e6, vCallMV_e6, vCallS_e6, vCallSV_e6, vCallM_e7, vCallMV_e7, vCallS_e7, vCallSV_e7, vBad_e, vStrVal_e, vStrCod_e, vForm_e, vCallT_e0, vCallT_e1, vCallT_e2, vCopy_e, rf_0_0, rf_0_1, rf_0_2, rf_0_3, rf_0_4, rf_0_7, rf_0_10, rf_0_11, rf_0_12, rf_0_13, rf_0_14, rf_0_15, rf_0_16, rf_1_0, rf_3_0, rf_3_1, rf_6_0, rf_6_1, rf_9_0, rf_9_1, rf_9_3, rf_13_0, rf_13_1, rf_13_2, rf_16_0, rf_16_1, rf_16_2, rf_16_3, rf_21_0, rf_21_1, rf_21_2, rf_21_3, rf_26_0, rf_26_1, rf_26_2, rf_26_3, rf_26_4, rf_26_5, rf_26_6, rf_31_0, rf_31_2, rf_31_5, rf_31_6, rf_36_0, rf_36_1, rf_36_2, rf_36_3, rf_39_0, rf_39_1, rf_39_2, rf_41_0, rf_41_1, rf_41_2, rf_41_3, rf_5000_1, rf_5000_2, rf_5000_3, rf_5000_4, rf_5000_5, rf_5000_15, rf_5000_16, rf_5000_18, rf_5000_19, rf_5000_20, rf_5000_21, rf_5000_22, rf_5000_23, rf_5000_24, rf_5000_25, rf_5000_26, rf_5000_27, rf_5000_36, rf_5000_37, rf_5000_40, rf_5000_41, rf_5000_42, rf_5000_43, rf_5000_44, rf_5000_45, rf_5000_47, rf_5000_52, rf_5000_54, rf_5000_55, rf_100_0, rf_100_1, rf_103_0, rf_103_1, rf_106_0, rf_106_1, rf_109_0, rf_109_1, al_2, al_4, al_5, al_7, al_8, al_10, al_11, al_12, al_14, al_15, al_17, al_18, al_19, al_20, al_22, al_23, al_24, al_25, al_27, al_28, al_29, al_30, al_32, al_33, al_34, al_35, al_37, al_38, al_40, al_42, al_5001, al_5002, al_5003, al_5004, al_5005, al_5006, al_5007, al_5008, al_5009, al_5010, al_5011, al_5012, al_5013, al_5014, al_5015, al_5016, al_5017, al_5018, al_5019, al_5020, al_5021, al_5022, al_5023, al_5024, al_5025, al_5026, al_9000, al_101, al_102, al_104, al_105, al_107, al_108, al_110, al_111, vcs_e, lg_c0, lg_cs, lg_nil, set_c0, set_cs, okst_0, okst_s, acok_n, acok_c, List.contains_nil, List.contains_cons, Bool.or_false, Bool.false_or, Bool.false_eq_true, if_false, if_true, ite_self, ne_eq, true_and, and_true, not_false_eq_true, not_true_eq_false, false_imp_iff, true_imp_iff, Nat.ble_eq, Bool.and_eq_true, reduceCtorEq, or_false, false_or, or_true, true_or, false_and, and_false, and_self, Int.reduceLE, Int.reduceAdd, Int.reduceSub, Int.reduceMul, Int.reduceNeg, Int.reduceLT, Int.reduceEq, Int.reduceNe, Nat.reduceBEq, Nat.reduceBNe, Nat.reduceEqDiff, amCmp_in, amCmp_lt, amCmp_le, amCmp_gt, amCmp_ge, amCmp_eq, amCmp_ne, Nat.reduceLeDiff, Nat.reduceSub, Bool.and_true, Bool.true_and, Bool.and_self, Bool.or_true, Bool.true_or, isRf_3, isRf_4, isRf_5, isRf_8, isRf_9, isRf_10, isRf_11, isRf_15, isRf_16, isRf_17, isRf_18, isRf_19, isRf_20, isRf_21, isRf_22, isRf_23, isRf_24, isRf_25, isRf_26, isRf_27, isRf_28, k_X12_remember_0, k_X12_remember_1, k_X12_remember_4, k_X12_remember_6, k_X12_remember_9, k_X12_remember_10, k_X12_remember_11, k_X12_remember_12, k_X12_remember_15, k_X12_remember_18, k_X12_remember_19, k_X12_remember_22, k_X12_remember_23, k_X12_remember_24, k_X12_remember_27, k_X12_remember_28, k_X12_remember_31, k_X12_remember_32, k_X12_remember_33, k_X12_remember_34, k_X12_remember_37, k_X12_remember_40, k_X12_remember_41, k_X12_remember_42, k_X12_remember_45, k_X12_remember_46, k_X12_remember_47, k_X12_remember_50, k_X12_remember_51, k_X12_remember_52, k_X12_remember_53, k_X12_remember_56, k_X12_remember_59, k_X12_remember_60, k_X12_remember_63, k_X12_remember_66, k_X12_remember_67, k_X12_remember_70, k_X12_remember_71, k_X12_remember_72, k_X12_remember_73, k_X12_remember_74, k_X12_remember_77, k_X12_remember_78, k_X12_remember_79, k_X12_remember_80, k_X12_remember_83, k_X12_remember_86, k_X12_remember_87, k_X12_remember_88, k_X12_remember_91, k_X12_remember_92, k_X12_remember_93, k_X12_remember_96, c50, c15]
        repeat' (first | assumption | apply And.intro | intro _)
        all_goals first | omega | exact absurd trivial (by assumption) | exact h
  · change vcs _ _ _ _ 60 0 [(28, 5000), (6, 0)] [] σ
    by_cases h40 : σ 5000 48 = 40
    · have i9 : ∃ k', inv_rmb σ k' 11 [(28, 5000), (0, 0)] [] σ := ⟨8412, rfl, Or.inl ⟨0, rfl, rfl, rfl, by omega, h40, by rw [show ((0 : Nat) : Int) = 0 from rfl, cpy_0]⟩⟩
      simp only [↓reduceIte, inR_0, inR_1, inR_m, vSw2_e, swP_n, swP_c, vI_e, vL_e, vNull_e, vIload_e, vLload_e, vAload_e, vIstore_e, vLstore_e, vAstore_e, vIinc_e, vIadd_e, vIsub_e, vImul_e, vIand_e, vIor_e, vIxor_e, vIshl_e, vIshr_e, vIushr_e, vIdiv_e, vIrem_e, vLadd_e, vLsub_e, vLmul_e, vLand_e, vLor_e, vLxor_e, vLdiv_e, vLrem_e, vLushr_e, vLshl_e, vLcmp_e, vIneg_e, vI2l_e, vL2i_e, vI2b_e, vI2c_e, vDup_e, vPop_e, vDup2_e, vGoto_e, vIcEq_e, vIfEq_e, vIcNe_e, vIfNe_e, vIcLt_e, vIfLt_e, vIcGe_e, vIfGe_e, vIcGt_e, vIfGt_e, vIcLe_e, vIfLe_e, vNonnull_e, vSw_e, vGetI_e, vGetL_e, vGetR_e, vPutI_e, vPutZ_e, vPutL_e, vPutR_e, vIald_e, vIald_s, vLald_e, vBald_e, vBald_s, vAald_e, vIast_e, vLast_e, vBast_e, vAast_e, vAlen_e8, vAlen_e9, vAlen_e10, vAlen_e11, vAlen_e5, vAlen_e3, vGets_e, vCompact_e, vLdcS_e, vIret_e, vZret_e, vCret_e, vBret_e, vLret_e, vVret_e, vAret_e, vCallM_e0, vCallMV_e0, vCallS_e0, vCallSV_e0, vCallM_e1, vCallMV_e1, vCallS_e1, vCallSV_e1, vCallM_e2, vCallMV_e2, vCallS_e2, vCallSV_e2, vCallM_e3, vCallMV_e3, vCallS_e3, vCallSV_e3, vCallM_e4, vCallMV_e4, vCallS_e4, vCallSV_e4, vCallM_e5, vCallMV_e5, vCallS_e5, vCallSV_e5, vCallM_e6, vCallMV_e6, vCallS_e6, vCallSV_e6, vCallM_e7, vCallMV_e7, vCallS_e7, vCallSV_e7, vBad_e, vStrVal_e, vStrCod_e, vForm_e, vCallT_e0, vCallT_e1, vCallT_e2, vCopy_e, rf_0_0, rf_0_1, rf_0_2, rf_0_3, rf_0_4, rf_0_7, rf_0_10, rf_0_11, rf_0_12, rf_0_13, rf_0_14, rf_0_15, rf_0_16, rf_1_0, rf_3_0, rf_3_1, rf_6_0, rf_6_1, rf_9_0, rf_9_1, rf_9_3, rf_13_0, rf_13_1, rf_13_2, rf_16_0, rf_16_1, rf_16_2, rf_16_3, rf_21_0, rf_21_1, rf_21_2, rf_21_3, rf_26_0, rf_26_1, rf_26_2, rf_26_3, rf_26_4, rf_26_5, rf_26_6, rf_31_0, rf_31_2, rf_31_5, rf_31_6, rf_36_0, rf_36_1, rf_36_2, rf_36_3, rf_39_0, rf_39_1, rf_39_2, rf_41_0, rf_41_1, rf_41_2, rf_41_3, rf_5000_1, rf_5000_2, rf_5000_3, rf_5000_4, rf_5000_5, rf_5000_15, rf_5000_16, rf_5000_18, rf_5000_19, rf_5000_20, rf_5000_21, rf_5000_22, rf_5000_23, rf_5000_24, rf_5000_25, rf_5000_26, rf_5000_27, rf_5000_36, rf_5000_37, rf_5000_40, rf_5000_41, rf_5000_42, rf_5000_43, rf_5000_44, rf_5000_45, rf_5000_47, rf_5000_52, rf_5000_54, rf_5000_55, rf_100_0, rf_100_1, rf_103_0, rf_103_1, rf_106_0, rf_106_1, rf_109_0, rf_109_1, al_2, al_4, al_5, al_7, al_8, al_10, al_11, al_12, al_14, al_15, al_17, al_18, al_19, al_20, al_22, al_23, al_24, al_25, al_27, al_28, al_29, al_30, al_32, al_33, al_34, al_35, al_37, al_38, al_40, al_42, al_5001, al_5002, al_5003, al_5004, al_5005, al_5006, al_5007, al_5008, al_5009, al_5010, al_5011, al_5012, al_5013, al_5014, al_5015, al_5016, al_5017, al_5018, al_5019, al_5020, al_5021, al_5022, al_5023, al_5024, al_5025, al_5026, al_9000, al_101, al_102, al_104, al_105, al_107, al_108, al_110, al_111, vcs_e, lg_c0, lg_cs, lg_nil, set_c0, set_cs, okst_0, okst_s, acok_n, acok_c, List.contains_nil, List.contains_cons, Bool.or_false, Bool.false_or, Bool.false_eq_true, if_false, if_true, ite_self, ne_eq, true_and, and_true, not_false_eq_true, not_true_eq_false, false_imp_iff, true_imp_iff, Nat.ble_eq, Bool.and_eq_true, reduceCtorEq, or_false, false_or, or_true, true_or, false_and, and_false, and_self, Int.reduceLE, Int.reduceAdd, Int.reduceSub, Int.reduceMul, Int.reduceNeg, Int.reduceLT, Int.reduceEq, Int.reduceNe, Nat.reduceBEq, Nat.reduceBNe, Nat.reduceEqDiff, amCmp_in, amCmp_lt, amCmp_le, amCmp_gt, amCmp_ge, amCmp_eq, amCmp_ne, Nat.reduceLeDiff, Nat.reduceSub, Bool.and_true, Bool.true_and, Bool.and_self, Bool.or_true, Bool.true_or, isRf_3, isRf_4, isRf_5, isRf_8, isRf_9, isRf_10, isRf_11, isRf_15, isRf_16, isRf_17, isRf_18, isRf_19, isRf_20, isRf_21, isRf_22, isRf_23, isRf_24, isRf_25, isRf_26, isRf_27, isRf_28, k_X12_remember_0, k_X12_remember_1, k_X12_remember_4, k_X12_remember_6, k_X12_remember_9, k_X12_remember_10, k_X12_remember_11, k_X12_remember_12, k_X12_remember_15, k_X12_remember_18, k_X12_remember_19, k_X12_remember_22, k_X12_remember_23, k_X12_remember_24, k_X12_remember_27, k_X12_remember_28, k_X12_remember_31, k_X12_remember_32, k_X12_remember_33, k_X12_remember_34, k_X12_remember_37, k_X12_remember_40, k_X12_remember_41, k_X12_remember_42, k_X12_remember_45, k_X12_remember_46, k_X12_remember_47, k_X12_remember_50, k_X12_remember_51, k_X12_remember_52, k_X12_remember_53, k_X12_remember_56, k_X12_remember_59, k_X12_remember_60, k_X12_remember_63, k_X12_remember_66, k_X12_remember_67, k_X12_remember_70, k_X12_remember_71, k_X12_remember_72, k_X12_remember_73, k_X12_remember_74, k_X12_remember_77, k_X12_remember_78, k_X12_remember_79, k_X12_remember_80, k_X12_remember_83, k_X12_remember_86, k_X12_remember_87, k_X12_remember_88, k_X12_remember_91, k_X12_remember_92, k_X12_remember_93, k_X12_remember_96]
      repeat' (first | assumption | apply And.intro | intro _)
      all_goals first | omega | exact absurd trivial (by assumption) | exact i9
    · have i9 : ∃ k', inv_rmb σ k' 52 [(28, 5000), (0, 0)] [] σ := ⟨208, rfl, Or.inr ⟨0, rfl, rfl, rfl, by rw [show ((0 : Nat) : Int) = 0 from rfl, cpy_0]; unfold rm1; rw [if_neg h40]⟩⟩
      simp only [↓reduceIte, inR_0, inR_1, inR_m, vSw2_e, swP_n, swP_c, vI_e, vL_e, vNull_e, vIload_e, vLload_e, vAload_e, vIstore_e, vLstore_e, vAstore_e, vIinc_e, vIadd_e, vIsub_e, vImul_e, vIand_e, vIor_e, vIxor_e, vIshl_e, vIshr_e, vIushr_e, vIdiv_e, vIrem_e, vLadd_e, vLsub_e, vLmul_e, vLand_e, vLor_e, vLxor_e, vLdiv_e, vLrem_e, vLushr_e, vLshl_e, vLcmp_e, vIneg_e, vI2l_e, vL2i_e, vI2b_e, vI2c_e, vDup_e, vPop_e, vDup2_e, vGoto_e, vIcEq_e, vIfEq_e, vIcNe_e, vIfNe_e, vIcLt_e, vIfLt_e, vIcGe_e, vIfGe_e, vIcGt_e, vIfGt_e, vIcLe_e, vIfLe_e, vNonnull_e, vSw_e, vGetI_e, vGetL_e, vGetR_e, vPutI_e, vPutZ_e, vPutL_e, vPutR_e, vIald_e, vIald_s, vLald_e, vBald_e, vBald_s, vAald_e, vIast_e, vLast_e, vBast_e, vAast_e, vAlen_e8, vAlen_e9, vAlen_e10, vAlen_e11, vAlen_e5, vAlen_e3, vGets_e, vCompact_e, vLdcS_e, vIret_e, vZret_e, vCret_e, vBret_e, vLret_e, vVret_e, vAret_e, vCallM_e0, vCallMV_e0, vCallS_e0, vCallSV_e0, vCallM_e1, vCallMV_e1, vCallS_e1, vCallSV_e1, vCallM_e2, vCallMV_e2, vCallS_e2, vCallSV_e2, vCallM_e3, vCallMV_e3, vCallS_e3, vCallSV_e3, vCallM_e4, vCallMV_e4, vCallS_e4, vCallSV_e4, vCallM_e5, vCallMV_e5, vCallS_e5, vCallSV_e5, vCallM_e6, vCallMV_e6, vCallS_e6, vCallSV_e6, vCallM_e7, vCallMV_e7, vCallS_e7, vCallSV_e7, vBad_e, vStrVal_e, vStrCod_e, vForm_e, vCallT_e0, vCallT_e1, vCallT_e2, vCopy_e, rf_0_0, rf_0_1, rf_0_2, rf_0_3, rf_0_4, rf_0_7, rf_0_10, rf_0_11, rf_0_12, rf_0_13, rf_0_14, rf_0_15, rf_0_16, rf_1_0, rf_3_0, rf_3_1, rf_6_0, rf_6_1, rf_9_0, rf_9_1, rf_9_3, rf_13_0, rf_13_1, rf_13_2, rf_16_0, rf_16_1, rf_16_2, rf_16_3, rf_21_0, rf_21_1, rf_21_2, rf_21_3, rf_26_0, rf_26_1, rf_26_2, rf_26_3, rf_26_4, rf_26_5, rf_26_6, rf_31_0, rf_31_2, rf_31_5, rf_31_6, rf_36_0, rf_36_1, rf_36_2, rf_36_3, rf_39_0, rf_39_1, rf_39_2, rf_41_0, rf_41_1, rf_41_2, rf_41_3, rf_5000_1, rf_5000_2, rf_5000_3, rf_5000_4, rf_5000_5, rf_5000_15, rf_5000_16, rf_5000_18, rf_5000_19, rf_5000_20, rf_5000_21, rf_5000_22, rf_5000_23, rf_5000_24, rf_5000_25, rf_5000_26, rf_5000_27, rf_5000_36, rf_5000_37, rf_5000_40, rf_5000_41, rf_5000_42, rf_5000_43, rf_5000_44, rf_5000_45, rf_5000_47, rf_5000_52, rf_5000_54, rf_5000_55, rf_100_0, rf_100_1, rf_103_0, rf_103_1, rf_106_0, rf_106_1, rf_109_0, rf_109_1, al_2, al_4, al_5, al_7, al_8, al_10, al_11, al_12, al_14, al_15, al_17, al_18, al_19, al_20, al_22, al_23, al_24, al_25, al_27, al_28, al_29, al_30, al_32, al_33, al_34, al_35, al_37, al_38, al_40, al_42, al_5001, al_5002, al_5003, al_5004, al_5005, al_5006, al_5007, al_5008, al_5009, al_5010, al_5011, al_5012, al_5013, al_5014, al_5015, al_5016, al_5017, al_5018, al_5019, al_5020, al_5021, al_5022, al_5023, al_5024, al_5025, al_5026, al_9000, al_101, al_102, al_104, al_105, al_107, al_108, al_110, al_111, vcs_e, lg_c0, lg_cs, lg_nil, set_c0, set_cs, okst_0, okst_s, acok_n, acok_c, List.contains_nil, List.contains_cons, Bool.or_false, Bool.false_or, Bool.false_eq_true, if_false, if_true, ite_self, ne_eq, true_and, and_true, not_false_eq_true, not_true_eq_false, false_imp_iff, true_imp_iff, Nat.ble_eq, Bool.and_eq_true, reduceCtorEq, or_false, false_or, or_true, true_or, false_and, and_false, and_self, Int.reduceLE, Int.reduceAdd, Int.reduceSub, Int.reduceMul, Int.reduceNeg, Int.reduceLT, Int.reduceEq, Int.reduceNe, Nat.reduceBEq, Nat.reduceBNe, Nat.reduceEqDiff, amCmp_in, amCmp_lt, amCmp_le, amCmp_gt, amCmp_ge, amCmp_eq, amCmp_ne, Nat.reduceLeDiff, Nat.reduceSub, Bool.and_true, Bool.true_and, Bool.and_self, Bool.or_true, Bool.true_or, isRf_3, isRf_4, isRf_5, isRf_8, isRf_9, isRf_10, isRf_11, isRf_15, isRf_16, isRf_17, isRf_18, isRf_19, isRf_20, isRf_21, isRf_22, isRf_23, isRf_24, isRf_25, isRf_26, isRf_27, isRf_28, k_X12_remember_0, k_X12_remember_1, k_X12_remember_4, k_X12_remember_6, k_X12_remember_9, k_X12_remember_10, k_X12_remember_11, k_X12_remember_12, k_X12_remember_15, k_X12_remember_18, k_X12_remember_19, k_X12_remember_22, k_X12_remember_23, k_X12_remember_24, k_X12_remember_27, k_X12_remember_28, k_X12_remember_31, k_X12_remember_32, k_X12_remember_33, k_X12_remember_34, k_X12_remember_37, k_X12_remember_40, k_X12_remember_41, k_X12_remember_42, k_X12_remember_45, k_X12_remember_46, k_X12_remember_47, k_X12_remember_50, k_X12_remember_51, k_X12_remember_52, k_X12_remember_53, k_X12_remember_56, k_X12_remember_59, k_X12_remember_60, k_X12_remember_63, k_X12_remember_66, k_X12_remember_67, k_X12_remember_70, k_X12_remember_71, k_X12_remember_72, k_X12_remember_73, k_X12_remember_74, k_X12_remember_77, k_X12_remember_78, k_X12_remember_79, k_X12_remember_80, k_X12_remember_83, k_X12_remember_86, k_X12_remember_87, k_X12_remember_88, k_X12_remember_91, k_X12_remember_92, k_X12_remember_93, k_X12_remember_96]
      repeat' (first | assumption | apply And.intro | intro _)
      all_goals first | omega | exact absurd trivial (by assumption) | exact i9
theorem rm1_o (σ : Mem) {b : Int} (h1 : b ≠ 5000) (h2 : b ≠ 5023) : rm1 σ b = σ b := by
  unfold rm1; split
  · rw [up_na _ h1, cpy_oo _ _ _ _ _ _ h2]
  · rfl
theorem rm1_k (σ : Mem) {k : Int} (h : k ≠ 48) : rm1 σ 5000 k = σ 5000 k := by
  unfold rm1; split
  · rw [up_nj _ h, cpy_oo _ _ _ _ _ _ (by decide)]
  · rfl
theorem rmb_o (σ : Mem) {b : Int} (h1 : b ≠ 5000) (h2 : b ≠ 5023) : rmb σ b = σ b := by
  unfold rmb; rw [up_na _ h1, cpy_oo _ _ _ _ _ _ h2, rm1_o σ h1 h2]
theorem rmb_k (σ : Mem) {k : Int} (h : k ≠ 48) : rmb σ 5000 k = σ 5000 k := by
  unfold rmb; rw [up_nj _ h, cpy_oo _ _ _ _ _ _ (by decide), rm1_k σ h]
theorem rmb_15 (σ : Mem) : rmb σ 5015 = σ 5015 := rmb_o σ (by decide) (by decide)
theorem th_o (σ : Mem) {b : Int} (h : b ≠ 5000) : th0 σ b = σ b := up_na _ h
theorem th_k (σ : Mem) {k : Int} (h : k ≠ 0) : th0 σ 5000 k = σ 5000 k := up_nj _ h
