/-! LAWS written: copyOf, Law, written, takeLaw, text -/
theorem oT_J9_min_7cf53 {X : amX} (hB : amB X RJ9 cJ9_min_7cf53 (some .int) 2) : ∀ pc, amOK X pc (look a_J9_min_7cf53 pc) := by
  refine look_ok ?_
  unfold a_J9_min_7cf53
  refine fc (ok_iload_n hB dJ9_min_7cf53_0) ?_
  refine fc (ok_iload_n hB dJ9_min_7cf53_1) ?_
  refine fc (ok_icmp_gt hB (t := 9) (by decide) dJ9_min_7cf53_2) ?_
  refine fc (ok_iload_n hB dJ9_min_7cf53_5) ?_
  refine fc (ok_goto hB (t := 10) (by decide) dJ9_min_7cf53_6) ?_
  refine fc (ok_iload_n hB dJ9_min_7cf53_9) ?_
  refine fc (ok_iret hB dJ9_min_7cf53_10) ?_
  exact fn
set_option maxRecDepth 100000 in
theorem sT_J9_min_7cf53 (T : Int → Kd) : ∀ av σ Q, w_J9_min_7cf53 av σ Q → amCall 0 0 0 T yJ9_min_7cf53 cJ9_min_7cf53 2 (some .int) av σ Q := by
  rintro av σ Q ⟨x, y, rfl, hx, hy, h⟩
  refine am_m0 (own := RJ9) (A := look a_J9_min_7cf53) (fun X e1 e2 hB => oT_J9_min_7cf53 hB) rfl (by decide +kernel) rfl rfl 30 (w := 2) ?_
  change vcs _ _ _ _ 30 0 [(0, x), (0, y)] [] σ
  simp only [↓reduceIte, inR_0, inR_1, inR_m, vI_e, vL_e, vNull_e, vIload_e, vLload_e, vAload_e, vIstore_e, vLstore_e, vAstore_e, vIinc_e, vIadd_e, vIsub_e, vImul_e, vIand_e, vIor_e, vIxor_e, vIshl_e, vIshr_e, vIushr_e, vIdiv_e, vIrem_e, vLadd_e, vLsub_e, vLmul_e, vLand_e, vLor_e, vLxor_e, vLdiv_e, vLrem_e, vLushr_e, vLshl_e, vLcmp_e, vIneg_e, vI2l_e, vL2i_e, vI2b_e, vI2c_e, vDup_e, vPop_e, vDup2_e, vGoto_e, vIcEq_e, vIfEq_e, vIcNe_e, vIfNe_e, vIcLt_e, vIfLt_e, vIcGe_e, vIfGe_e, vIcGt_e, vIfGt_e, vIcLe_e, vIfLe_e, vNonnull_e, vSw_e, vGetI_e, vGetL_e, vGetR_e, vPutI_e, vPutZ_e, vPutL_e, vPutR_e, vIald_e, vIald_s, vLald_e, vBald_e, vBald_s, vAald_e, vIast_e, vLast_e, vBast_e, vAast_e, vAlen_e8, vAlen_e9, vAlen_e10, vAlen_e11, vAlen_e5, vAlen_e3, vGets_e, vCompact_e, vLdcS_e, vIret_e, vZret_e, vCret_e, vBret_e, vLret_e, vVret_e, vAret_e, vCallM_e0, vCallMV_e0, vCallS_e0, vCallSV_e0, vCallM_e1, vCallMV_e1, vCallS_e1, vCallSV_e1, vCallM_e2, vCallMV_e2, vCallS_e2, vCallSV_e2, vCallM_e3, vCallMV_e3, vCallS_e3, vCallSV_e3, vCallM_e4, vCallMV_e4, vCallS_e4, vCallSV_e4, vCallM_e5, vCallMV_e5, vCallS_e5, vCallSV_e5, vCallM_e6, vCallMV_e6, vCallS_e6, vCallSV_e6, vCallM_e7, vCallMV_e7, vCallS_e7, vCallSV_e7, vBad_e, vStrVal_e, vStrCod_e, vForm_e, vCallT_e0, vCallT_e1, vCallT_e2, vCopy_e, rf_0_0, rf_0_1, rf_0_2, rf_0_3, rf_0_4, rf_0_7, rf_0_10, rf_0_11, rf_0_12, rf_0_13, rf_0_14, rf_0_15, rf_0_16, rf_1_0, rf_3_0, rf_3_1, rf_6_0, rf_6_1, rf_9_0, rf_9_1, rf_9_3, rf_13_0, rf_13_1, rf_13_2, rf_16_0, rf_16_1, rf_16_2, rf_16_3, rf_21_0, rf_21_1, rf_21_2, rf_21_3, rf_26_0, rf_26_1, rf_26_2, rf_26_3, rf_26_4, rf_26_5, rf_26_6, rf_31_0, rf_31_2, rf_31_5, rf_31_6, rf_36_0, rf_36_1, rf_36_2, rf_36_3, rf_39_0, rf_39_1, rf_39_2, rf_41_0, rf_41_1, rf_41_2, rf_41_3, rf_5000_1, rf_5000_2, rf_5000_3, rf_5000_4, rf_5000_5, rf_5000_15, rf_5000_16, rf_5000_18, rf_5000_19, rf_5000_20, rf_5000_21, rf_5000_22, rf_5000_23, rf_5000_24, rf_5000_25, rf_5000_26, rf_5000_27, rf_5000_36, rf_5000_37, rf_5000_40, rf_5000_41, rf_5000_42, rf_5000_43, rf_5000_44, rf_5000_45, rf_5000_47, rf_5000_52, rf_5000_54, rf_5000_55, rf_100_0, rf_100_1, rf_103_0, rf_103_1, rf_106_0, rf_106_1, rf_109_0, rf_109_1, al_2, al_4, al_5, al_7, al_8, al_10, al_11, al_12, al_14, al_15, al_17, al_18, al_19, al_20, al_22, al_23, al_24, al_25, al_27, al_28, al_29, al_30, al_32, al_33, al_34, al_35, al_37, al_38, al_40, al_42, al_5001, al_5002, al_5003, al_5004, al_5005, al_5006, al_5007, al_5008, al_5009, al_5010, al_5011, al_5012, al_5013, al_5014, al_5015, al_5016, al_5017, al_5018, al_5019, al_5020, al_5021, al_5022, al_5023, al_5024, al_5025, al_5026, al_9000, al_101, al_102, al_104, al_105, al_107, al_108, al_110, al_111, vcs_e, lg_c0, lg_cs, lg_nil, set_c0, set_cs, okst_0, okst_s, acok_n, acok_c, List.contains_nil, List.contains_cons, Bool.or_false, Bool.false_or, Bool.false_eq_true, if_false, if_true, ite_self, ne_eq, true_and, and_true, not_false_eq_true, not_true_eq_false, false_imp_iff, true_imp_iff, Nat.ble_eq, Bool.and_eq_true, reduceCtorEq, or_false, false_or, or_true, true_or, false_and, and_false, and_self, Int.reduceLE, Int.reduceAdd, Int.reduceSub, Int.reduceMul, Int.reduceNeg, Int.reduceLT, Int.reduceEq, Int.reduceNe, Nat.reduceBEq, Nat.reduceBNe, Nat.reduceEqDiff, amCmp_in, amCmp_lt, amCmp_le, amCmp_gt, amCmp_ge, amCmp_eq, amCmp_ne, Nat.reduceLeDiff, Nat.reduceSub, Bool.and_true, Bool.true_and, Bool.and_self, Bool.or_true, Bool.true_or, isRf_3, isRf_4, isRf_5, isRf_8, isRf_9, isRf_10, isRf_11, isRf_15, isRf_16, isRf_17, isRf_18, isRf_19, isRf_20, isRf_21, isRf_22, isRf_23, isRf_24, isRf_25, isRf_26, isRf_27, isRf_28, k_J9_min_7cf53_0, k_J9_min_7cf53_1, k_J9_min_7cf53_2, k_J9_min_7cf53_5, k_J9_min_7cf53_6, k_J9_min_7cf53_9, k_J9_min_7cf53_10]
  refine ⟨hx, hy, fun c => ?_, fun c => ?_⟩
  · rwa [if_pos c] at h
  · rwa [if_neg c] at h
theorem oT_J9_max_7cf53 {X : amX} (hB : amB X RJ9 cJ9_max_7cf53 (some .int) 2) : ∀ pc, amOK X pc (look a_J9_max_7cf53 pc) := by
  refine look_ok ?_
  unfold a_J9_max_7cf53
  refine fc (ok_iload_n hB dJ9_max_7cf53_0) ?_
  refine fc (ok_iload_n hB dJ9_max_7cf53_1) ?_
  refine fc (ok_icmp_lt hB (t := 9) (by decide) dJ9_max_7cf53_2) ?_
  refine fc (ok_iload_n hB dJ9_max_7cf53_5) ?_
  refine fc (ok_goto hB (t := 10) (by decide) dJ9_max_7cf53_6) ?_
  refine fc (ok_iload_n hB dJ9_max_7cf53_9) ?_
  refine fc (ok_iret hB dJ9_max_7cf53_10) ?_
  exact fn
set_option maxRecDepth 100000 in
theorem sT_J9_max_7cf53 (T : Int → Kd) : ∀ av σ Q, w_J9_max_7cf53 av σ Q → amCall 0 0 0 T yJ9_max_7cf53 cJ9_max_7cf53 2 (some .int) av σ Q := by
  rintro av σ Q ⟨x, y, rfl, hx, hy, h⟩
  refine am_m0 (own := RJ9) (A := look a_J9_max_7cf53) (fun X e1 e2 hB => oT_J9_max_7cf53 hB) rfl (by decide +kernel) rfl rfl 30 (w := 2) ?_
  change vcs _ _ _ _ 30 0 [(0, x), (0, y)] [] σ
  simp only [↓reduceIte, inR_0, inR_1, inR_m, vI_e, vL_e, vNull_e, vIload_e, vLload_e, vAload_e, vIstore_e, vLstore_e, vAstore_e, vIinc_e, vIadd_e, vIsub_e, vImul_e, vIand_e, vIor_e, vIxor_e, vIshl_e, vIshr_e, vIushr_e, vIdiv_e, vIrem_e, vLadd_e, vLsub_e, vLmul_e, vLand_e, vLor_e, vLxor_e, vLdiv_e, vLrem_e, vLushr_e, vLshl_e, vLcmp_e, vIneg_e, vI2l_e, vL2i_e, vI2b_e, vI2c_e, vDup_e, vPop_e, vDup2_e, vGoto_e, vIcEq_e, vIfEq_e, vIcNe_e, vIfNe_e, vIcLt_e, vIfLt_e, vIcGe_e, vIfGe_e, vIcGt_e, vIfGt_e, vIcLe_e, vIfLe_e, vNonnull_e, vSw_e, vGetI_e, vGetL_e, vGetR_e, vPutI_e, vPutZ_e, vPutL_e, vPutR_e, vIald_e, vIald_s, vLald_e, vBald_e, vBald_s, vAald_e, vIast_e, vLast_e, vBast_e, vAast_e, vAlen_e8, vAlen_e9, vAlen_e10, vAlen_e11, vAlen_e5, vAlen_e3, vGets_e, vCompact_e, vLdcS_e, vIret_e, vZret_e, vCret_e, vBret_e, vLret_e, vVret_e, vAret_e, vCallM_e0, vCallMV_e0, vCallS_e0, vCallSV_e0, vCallM_e1, vCallMV_e1, vCallS_e1, vCallSV_e1, vCallM_e2, vCallMV_e2, vCallS_e2, vCallSV_e2, vCallM_e3, vCallMV_e3, vCallS_e3, vCallSV_e3, vCallM_e4, vCallMV_e4, vCallS_e4, vCallSV_e4, vCallM_e5, vCallMV_e5, vCallS_e5, vCallSV_e5, vCallM_e6, vCallMV_e6, vCallS_e6, vCallSV_e6, vCallM_e7, vCallMV_e7, vCallS_e7, vCallSV_e7, vBad_e, vStrVal_e, vStrCod_e, vForm_e, vCallT_e0, vCallT_e1, vCallT_e2, vCopy_e, rf_0_0, rf_0_1, rf_0_2, rf_0_3, rf_0_4, rf_0_7, rf_0_10, rf_0_11, rf_0_12, rf_0_13, rf_0_14, rf_0_15, rf_0_16, rf_1_0, rf_3_0, rf_3_1, rf_6_0, rf_6_1, rf_9_0, rf_9_1, rf_9_3, rf_13_0, rf_13_1, rf_13_2, rf_16_0, rf_16_1, rf_16_2, rf_16_3, rf_21_0, rf_21_1, rf_21_2, rf_21_3, rf_26_0, rf_26_1, rf_26_2, rf_26_3, rf_26_4, rf_26_5, rf_26_6, rf_31_0, rf_31_2, rf_31_5, rf_31_6, rf_36_0, rf_36_1, rf_36_2, rf_36_3, rf_39_0, rf_39_1, rf_39_2, rf_41_0, rf_41_1, rf_41_2, rf_41_3, rf_5000_1, rf_5000_2, rf_5000_3, rf_5000_4, rf_5000_5, rf_5000_15, rf_5000_16, rf_5000_18, rf_5000_19, rf_5000_20, rf_5000_21, rf_5000_22, rf_5000_23, rf_5000_24, rf_5000_25, rf_5000_26, rf_5000_27, rf_5000_36, rf_5000_37, rf_5000_40, rf_5000_41, rf_5000_42, rf_5000_43, rf_5000_44, rf_5000_45, rf_5000_47, rf_5000_52, rf_5000_54, rf_5000_55, rf_100_0, rf_100_1, rf_103_0, rf_103_1, rf_106_0, rf_106_1, rf_109_0, rf_109_1, al_2, al_4, al_5, al_7, al_8, al_10, al_11, al_12, al_14, al_15, al_17, al_18, al_19, al_20, al_22, al_23, al_24, al_25, al_27, al_28, al_29, al_30, al_32, al_33, al_34, al_35, al_37, al_38, al_40, al_42, al_5001, al_5002, al_5003, al_5004, al_5005, al_5006, al_5007, al_5008, al_5009, al_5010, al_5011, al_5012, al_5013, al_5014, al_5015, al_5016, al_5017, al_5018, al_5019, al_5020, al_5021, al_5022, al_5023, al_5024, al_5025, al_5026, al_9000, al_101, al_102, al_104, al_105, al_107, al_108, al_110, al_111, vcs_e, lg_c0, lg_cs, lg_nil, set_c0, set_cs, okst_0, okst_s, acok_n, acok_c, List.contains_nil, List.contains_cons, Bool.or_false, Bool.false_or, Bool.false_eq_true, if_false, if_true, ite_self, ne_eq, true_and, and_true, not_false_eq_true, not_true_eq_false, false_imp_iff, true_imp_iff, Nat.ble_eq, Bool.and_eq_true, reduceCtorEq, or_false, false_or, or_true, true_or, false_and, and_false, and_self, Int.reduceLE, Int.reduceAdd, Int.reduceSub, Int.reduceMul, Int.reduceNeg, Int.reduceLT, Int.reduceEq, Int.reduceNe, Nat.reduceBEq, Nat.reduceBNe, Nat.reduceEqDiff, amCmp_in, amCmp_lt, amCmp_le, amCmp_gt, amCmp_ge, amCmp_eq, amCmp_ne, Nat.reduceLeDiff, Nat.reduceSub, Bool.and_true, Bool.true_and, Bool.and_self, Bool.or_true, Bool.true_or, isRf_3, isRf_4, isRf_5, isRf_8, isRf_9, isRf_10, isRf_11, isRf_15, isRf_16, isRf_17, isRf_18, isRf_19, isRf_20, isRf_21, isRf_22, isRf_23, isRf_24, isRf_25, isRf_26, isRf_27, isRf_28, k_J9_max_7cf53_0, k_J9_max_7cf53_1, k_J9_max_7cf53_2, k_J9_max_7cf53_5, k_J9_max_7cf53_6, k_J9_max_7cf53_9, k_J9_max_7cf53_10]
  refine ⟨hx, hy, fun c => ?_, fun c => ?_⟩
  · rwa [if_pos c] at h
  · rwa [if_neg c] at h
theorem alen_nm {T : Int → Kd} {σ : Mem} {a b : Int} {f : Int → Int} (h : a ≠ b) (h2 : a ≠ -2) : alen T (newm σ b f) a = alen T σ a := by
  unfold alen
  cases T a with
  | inl x => rfl
  | inr x => show am_len _ a x.2 = am_len _ a x.2; unfold am_len; rw [newm_o σ h h2]
theorem alen_nw {T : Int → Kd} {σ : Mem} {b z : Int} (z0 : 0 ≤ z) (h : isNA T b 8 z) : alen T (newm σ b (dfa z)) b = z := by
  obtain ⟨N, hT, hN⟩ := h
  unfold alen
  rw [hT]
  show am_len _ b N = z
  unfold am_len
  rcases hN with hN | hN
  · rw [if_neg (by omega)]; exact hN
  · rw [if_pos hN, newm_s]; rfl
theorem nl_cpy {σ : Mem} {a sp b dp n c : Int} (hb : 0 ≤ b) : nl (cpy σ a sp b dp n) c = nl σ c := by unfold nl; rw [cpy_o σ (by omega)]
theorem wd_695 : Cond.methodLink RJ7 304 yJ9_min_7cf53 ∈ TBL := tb_tab (List.mem_of_getElem? (i := 695) (by decide +kernel)) rfl
theorem lk_J7_304 : amLk RJ7 304 yJ9_min_7cf53 cJ9_min_7cf53 2 (some .int) 2 := ⟨wd_695, wd_16, wd_453, by decide +kernel, by decide +kernel, by decide⟩
theorem wd_696 : Cond.methodLink RJ7 150 arraycopyName ∈ TBL := tb_tab (List.mem_of_getElem? (i := 696) (by decide +kernel)) rfl
def a_J7_copyOf_59c91 (T : Int → Kd) (b : Int) : AC := [(0, vIload 1 1), (1, vAload 0 2), (2, vAlen T 3), (3, vIcNe 14 6), (6, vAload 0 7), (7, vBad), (10, vBad), (13, vAret), (14, vIload 1 15), (15, vNewA T 8 dfa (fun ls σ => b) 1 240 3 17), (17, vAstore 2 18), (18, vAload 0 19), (19, vI 0 20), (20, vAload 2 21), (21, vI 0 22), (22, vAload 0 23), (23, vAlen T 24), (24, vIload 1 25), (25, vCallS (w_J9_min_7cf53) 2 28), (28, vCopy T 31), (31, vAload 2 32), (32, vAret)]
theorem k_J7_copyOf_59c91_0 (T : Int → Kd) (b : Int) : look (a_J7_copyOf_59c91 T b) 0 = vIload 1 1 := rfl
theorem k_J7_copyOf_59c91_1 (T : Int → Kd) (b : Int) : look (a_J7_copyOf_59c91 T b) 1 = vAload 0 2 := rfl
theorem k_J7_copyOf_59c91_2 (T : Int → Kd) (b : Int) : look (a_J7_copyOf_59c91 T b) 2 = vAlen T 3 := rfl
theorem k_J7_copyOf_59c91_3 (T : Int → Kd) (b : Int) : look (a_J7_copyOf_59c91 T b) 3 = vIcNe 14 6 := rfl
theorem k_J7_copyOf_59c91_6 (T : Int → Kd) (b : Int) : look (a_J7_copyOf_59c91 T b) 6 = vAload 0 7 := rfl
theorem k_J7_copyOf_59c91_7 (T : Int → Kd) (b : Int) : look (a_J7_copyOf_59c91 T b) 7 = vBad := rfl
theorem k_J7_copyOf_59c91_10 (T : Int → Kd) (b : Int) : look (a_J7_copyOf_59c91 T b) 10 = vBad := rfl
theorem k_J7_copyOf_59c91_13 (T : Int → Kd) (b : Int) : look (a_J7_copyOf_59c91 T b) 13 = vAret := rfl
theorem k_J7_copyOf_59c91_14 (T : Int → Kd) (b : Int) : look (a_J7_copyOf_59c91 T b) 14 = vIload 1 15 := rfl
theorem k_J7_copyOf_59c91_15 (T : Int → Kd) (b : Int) : look (a_J7_copyOf_59c91 T b) 15 = vNewA T 8 dfa (fun ls σ => b) 1 240 3 17 := rfl
theorem k_J7_copyOf_59c91_17 (T : Int → Kd) (b : Int) : look (a_J7_copyOf_59c91 T b) 17 = vAstore 2 18 := rfl
theorem k_J7_copyOf_59c91_18 (T : Int → Kd) (b : Int) : look (a_J7_copyOf_59c91 T b) 18 = vAload 0 19 := rfl
theorem k_J7_copyOf_59c91_19 (T : Int → Kd) (b : Int) : look (a_J7_copyOf_59c91 T b) 19 = vI 0 20 := rfl
theorem k_J7_copyOf_59c91_20 (T : Int → Kd) (b : Int) : look (a_J7_copyOf_59c91 T b) 20 = vAload 2 21 := rfl
theorem k_J7_copyOf_59c91_21 (T : Int → Kd) (b : Int) : look (a_J7_copyOf_59c91 T b) 21 = vI 0 22 := rfl
theorem k_J7_copyOf_59c91_22 (T : Int → Kd) (b : Int) : look (a_J7_copyOf_59c91 T b) 22 = vAload 0 23 := rfl
theorem k_J7_copyOf_59c91_23 (T : Int → Kd) (b : Int) : look (a_J7_copyOf_59c91 T b) 23 = vAlen T 24 := rfl
theorem k_J7_copyOf_59c91_24 (T : Int → Kd) (b : Int) : look (a_J7_copyOf_59c91 T b) 24 = vIload 1 25 := rfl
theorem k_J7_copyOf_59c91_25 (T : Int → Kd) (b : Int) : look (a_J7_copyOf_59c91 T b) 25 = vCallS (w_J9_min_7cf53) 2 28 := rfl
theorem k_J7_copyOf_59c91_28 (T : Int → Kd) (b : Int) : look (a_J7_copyOf_59c91 T b) 28 = vCopy T 31 := rfl
theorem k_J7_copyOf_59c91_31 (T : Int → Kd) (b : Int) : look (a_J7_copyOf_59c91 T b) 31 = vAload 2 32 := rfl
theorem k_J7_copyOf_59c91_32 (T : Int → Kd) (b : Int) : look (a_J7_copyOf_59c91 T b) 32 = vAret := rfl
theorem o_J7_copyOf_59c91 {X : amX} (T : Int → Kd) (b : Int) (e1 : XT X = T) (e2 : XD X = 1) (e3 : XC X = 1) (e4 : XS X = 240) (hin : (XM X).name = "copyOf") (hE : Eno (Xn X) (Xst X)) (hB : amB X RJ7 cJ7_copyOf_59c91 (some (.array .int)) 3) : ∀ pc, amOK X pc (look (a_J7_copyOf_59c91 T b) pc) := by
  refine look_ok ?_
  unfold a_J7_copyOf_59c91
  refine fc (ok_iload_n hB dJ7_copyOf_59c91_0) ?_
  refine fc (ok_aload_n hB dJ7_copyOf_59c91_1) ?_
  refine fc (okt_arraylength e1 hB dJ7_copyOf_59c91_2) ?_
  refine fc (ok_icmp_ne hB (t := 14) (by decide) dJ7_copyOf_59c91_3) ?_
  refine fc (ok_aload_n hB dJ7_copyOf_59c91_6) ?_
  refine fc (ok_bad) ?_
  refine fc (ok_bad) ?_
  refine fc (ok_aret hB (Or.inr ⟨_, rfl⟩) dJ7_copyOf_59c91_13) ?_
  refine fc (ok_iload_n hB dJ7_copyOf_59c91_14) ?_
  refine fc (ok_newA8 hB e1 e3 e4 wd_57 _ dJ7_copyOf_59c91_15) ?_
  refine fc (ok_astore_n hB (by decide) dJ7_copyOf_59c91_17) ?_
  refine fc (ok_aload_n hB dJ7_copyOf_59c91_18) ?_
  refine fc (ok_iconst hB dJ7_copyOf_59c91_19) ?_
  refine fc (ok_aload_n hB dJ7_copyOf_59c91_20) ?_
  refine fc (ok_iconst hB dJ7_copyOf_59c91_21) ?_
  refine fc (ok_aload_n hB dJ7_copyOf_59c91_22) ?_
  refine fc (okt_arraylength e1 hB dJ7_copyOf_59c91_23) ?_
  refine fc (ok_iload_n hB dJ7_copyOf_59c91_24) ?_
  refine fc (ok_callS hB (fun av9 σ9 Q9 h9 => e1 ▸ (sT_J9_min_7cf53 T) av9 σ9 Q9 h9) lk_J7_304 (by rw [e2]; omega) wd_452 dJ7_copyOf_59c91_25) ?_
  refine fc (okt_copy e1 hB (by rw [e2]; decide) wd_696 wd_663 wd_662 wd_20 dJ7_copyOf_59c91_28) ?_
  refine fc (ok_aload_n hB dJ7_copyOf_59c91_31) ?_
  refine fc (ok_aret hB (Or.inr ⟨_, rfl⟩) dJ7_copyOf_59c91_32) ?_
  exact fn


def w_J7_copyOf_59c91 (T : Int → Kd) (b : Int) : WP := fun av σ Q => ∃ (s : Int) (z : Int), av = [(8, s), (0, z)] ∧ (0 ≤ s ∧ s ≠ b ∧ nl σ b ∧ isNA T b 8 z ∧ 0 ≤ z ∧ z < alen T σ s ∧ alen T σ s ≤ 241 ∧ z ≤ 240 ∧ Q (8, b) (cpy (newm σ b (dfa z)) s 0 b 0 z))
theorem w_J7_copyOf_59c91_e (T : Int → Kd) (b : Int) (s : Int) (z : Int) (σ : Mem) (Q : AV → Mem → Prop) : w_J7_copyOf_59c91 T b [(8, s), (0, z)] σ Q = (0 ≤ s ∧ s ≠ b ∧ nl σ b ∧ isNA T b 8 z ∧ 0 ≤ z ∧ z < alen T σ s ∧ alen T σ s ≤ 241 ∧ z ≤ 240 ∧ Q (8, b) (cpy (newm σ b (dfa z)) s 0 b 0 z)) := by
  apply propext; constructor
  · rintro ⟨s', z', h9, hb9⟩; cases h9; exact hb9
  · intro hb9; exact ⟨s, z, rfl, hb9⟩

set_option maxRecDepth 100000 in
set_option maxHeartbeats 4000000 in
theorem s_J7_copyOf_59c91 (T : Int → Kd) (b : Int) : ∀ av σ Q, w_J7_copyOf_59c91 T b av σ Q → amCallE Eno 1 1 240 T yJ7_copyOf_59c91 cJ7_copyOf_59c91 3 (some (.array .int)) av σ Q := by
  rintro av σ Q ⟨s, z, rfl, s0, sb, hn, hna, z0, zl, l1, z1, h⟩
  have eL : alen T (newm σ b (dfa z)) s = alen T σ s := alen_nm sb (by omega)
  have eB : alen T (newm σ b (dfa z)) b = z := alen_nw z0 hna
  have em : (if z < alen T σ s then z else alen T σ s) = z := if_pos zl
  have b0 := hn.1
  refine am_methodE (own := RJ7) (A := look (a_J7_copyOf_59c91 T b)) (fun X e1 e2 e3 e4 h5 hE hB => o_J7_copyOf_59c91 T b e1 e2 e3 e4 h5 hE hB) rfl (by decide +kernel) rfl rfl 86 (w := 5) ?_
  change vcs _ _ _ _ 86 0 [(8, s), (0, z), (6, 0), (6, 0), (6, 0)] [] σ
  simp only [vNew_e, vNewA_e, vCallI_e0, vCallI_e1, vCallI_e2, vCallI_e3, vCallMA_e0, vCallMA_e1, vCallSA_e2, vObj_e, cnt_e, List.length_cons, List.length_nil, Nat.zero_add, Nat.reduceAdd, Nat.reduceLT, Int.reduceAdd, Nat.reduceLeDiff, ↓reduceIte, vSw2_e, swP_n, swP_c, vI_e, vL_e, vNull_e, vIload_e, vLload_e, vAload_e, vIstore_e, vLstore_e, vAstore_e, vIinc_e, vIadd_e, vIsub_e, vImul_e, vIand_e, vIor_e, vIxor_e, vIshl_e, vIshr_e, vIushr_e, vIdiv_e, vIrem_e, vLadd_e, vLsub_e, vLmul_e, vLand_e, vLor_e, vLxor_e, vLdiv_e, vLrem_e, vLushr_e, vLshl_e, vLcmp_e, vIneg_e, vI2l_e, vL2i_e, vI2b_e, vI2c_e, vDup_e, vPop_e, vDup2_e, vGoto_e, vIcEq_e, vIfEq_e, vIcNe_e, vIfNe_e, vIcLt_e, vIfLt_e, vIcGe_e, vIfGe_e, vIcGt_e, vIfGt_e, vIcLe_e, vIfLe_e, vNonnull_e, vSw_e, vGetI_e, vGetL_e, vGetR_e, vPutI_e, vPutZ_e, vPutL_e, vPutR_e, vIald_e, vIald_s, vLald_e, vBald_e, vBald_s, vAald_e, vIast_e, vLast_e, vBast_e, vAast_e, vAlen_e8, vAlen_e9, vAlen_e10, vAlen_e11, vAlen_e5, vAlen_e3, vGets_e, vCompact_e, vLdcS_e, vIret_e, vZret_e, vCret_e, vBret_e, vLret_e, vVret_e, vAret_e, vCallM_e0, vCallMV_e0, vCallS_e0, vCallSV_e0, vCallM_e1, vCallMV_e1, vCallS_e1, vCallSV_e1, vCallM_e2, vCallMV_e2, vCallS_e2, vCallSV_e2, vCallM_e3, vCallMV_e3, vCallS_e3, vCallSV_e3, vCallM_e4, vCallMV_e4, vCallS_e4, vCallSV_e4, vCallM_e5, vCallMV_e5, vCallS_e5, vCallSV_e5, vCallM_e6, vCallMV_e6, vCallS_e6, vCallSV_e6, vCallM_e7, vCallMV_e7, vCallS_e7, vCallSV_e7, vBad_e, vStrVal_e, vStrCod_e, vForm_e, vCallT_e0, vCallT_e1, vCallT_e2, vCopy_e, rf_0_0, rf_0_1, rf_0_2, rf_0_3, rf_0_4, rf_0_7, rf_0_10, rf_0_11, rf_0_12, rf_0_13, rf_0_14, rf_0_15, rf_0_16, rf_1_0, rf_3_0, rf_3_1, rf_6_0, rf_6_1, rf_9_0, rf_9_1, rf_9_3, rf_13_0, rf_13_1, rf_13_2, rf_16_0, rf_16_1, rf_16_2, rf_16_3, rf_21_0, rf_21_1, rf_21_2, rf_21_3, rf_26_0, rf_26_1, rf_26_2, rf_26_3, rf_26_4, rf_26_5, rf_26_6, rf_31_0, rf_31_2, rf_31_5, rf_31_6, rf_36_0, rf_36_1, rf_36_2, rf_36_3, rf_39_0, rf_39_1, rf_39_2, rf_41_0, rf_41_1, rf_41_2, rf_41_3, rf_5000_1, rf_5000_2, rf_5000_3, rf_5000_4, rf_5000_5, rf_5000_15, rf_5000_16, rf_5000_18, rf_5000_19, rf_5000_20, rf_5000_21, rf_5000_22, rf_5000_23, rf_5000_24, rf_5000_25, rf_5000_26, rf_5000_27, rf_5000_36, rf_5000_37, rf_5000_40, rf_5000_41, rf_5000_42, rf_5000_43, rf_5000_44, rf_5000_45, rf_5000_47, rf_5000_52, rf_5000_54, rf_5000_55, rf_100_0, rf_100_1, rf_103_0, rf_103_1, rf_106_0, rf_106_1, rf_109_0, rf_109_1, al_2, al_4, al_5, al_7, al_8, al_10, al_11, al_12, al_14, al_15, al_17, al_18, al_19, al_20, al_22, al_23, al_24, al_25, al_27, al_28, al_29, al_30, al_32, al_33, al_34, al_35, al_37, al_38, al_40, al_42, al_5001, al_5002, al_5003, al_5004, al_5005, al_5006, al_5007, al_5008, al_5009, al_5010, al_5011, al_5012, al_5013, al_5014, al_5015, al_5016, al_5017, al_5018, al_5019, al_5020, al_5021, al_5022, al_5023, al_5024, al_5025, al_5026, al_9000, al_101, al_102, al_104, al_105, al_107, al_108, al_110, al_111, vcs_e, lg_c0, lg_cs, lg_nil, set_c0, set_cs, okst_0, okst_s, acok_n, acok_c, List.contains_nil, List.contains_cons, Bool.or_false, Bool.false_or, Bool.false_eq_true, if_false, if_true, ite_self, ne_eq, true_and, and_true, not_false_eq_true, not_true_eq_false, false_imp_iff, true_imp_iff, Nat.ble_eq, Bool.and_eq_true, reduceCtorEq, or_false, false_or, or_true, true_or, false_and, and_false, and_self, Int.reduceLE, Int.reduceAdd, Int.reduceSub, Int.reduceMul, Int.reduceNeg, Int.reduceLT, Int.reduceEq, Int.reduceNe, Nat.reduceBEq, Nat.reduceBNe, Nat.reduceEqDiff, amCmp_in, amCmp_lt, amCmp_le, amCmp_gt, amCmp_ge, amCmp_eq, amCmp_ne, Nat.reduceLeDiff, Nat.reduceSub, Bool.and_true, Bool.true_and, Bool.and_self, Bool.or_true, Bool.true_or, isRf_3, isRf_4, isRf_5, isRf_8, isRf_9, isRf_10, isRf_11, isRf_15, isRf_16, isRf_17, isRf_18, isRf_19, isRf_20, isRf_21, isRf_22, isRf_23, isRf_24, isRf_25, isRf_26, isRf_27, isRf_28, k_J7_copyOf_59c91_0, k_J7_copyOf_59c91_1, k_J7_copyOf_59c91_2, k_J7_copyOf_59c91_3, k_J7_copyOf_59c91_6, k_J7_copyOf_59c91_7, k_J7_copyOf_59c91_10, k_J7_copyOf_59c91_13, k_J7_copyOf_59c91_14, k_J7_copyOf_59c91_15, k_J7_copyOf_59c91_17, k_J7_copyOf_59c91_18, k_J7_copyOf_59c91_19, k_J7_copyOf_59c91_20, k_J7_copyOf_59c91_21, k_J7_copyOf_59c91_22, k_J7_copyOf_59c91_23, k_J7_copyOf_59c91_24, k_J7_copyOf_59c91_25, k_J7_copyOf_59c91_28, k_J7_copyOf_59c91_31, k_J7_copyOf_59c91_32, w_J9_min_7cf53_e, up_s, up_nj, up_na, up_up, savR_o, cpy_o, fillm_o, setAud_o, setv_o, setv_s, Int.reduceNe, Int.reduceEq, Int.reduceLT, Int.reduceAdd, not_false_eq_true, ne_eq, or_true, true_or, eL, eB, em]
  repeat' (first | assumption | apply And.intro | intro _)
  all_goals first | omega | exact absurd trivial (by assumption) | decide
def TL (i : Int) (a : Int) : Kd := if a = 100 + 3 * i then .inl (2, fun _ => none) else TT a
theorem TL_ok (i : Int) : amTok (TL i) := by
  intro a x h
  unfold TL at h
  split at h
  · cases h
  · exact TT_ok a x h
theorem TL_tg {i : Int} (hi : 0 ≤ i ∧ i < 4) (a : Int) : tg (TL i a) = tg (TT a) := by
  unfold TL
  split
  · rename_i h
    have : i = 0 ∨ i = 1 ∨ i = 2 ∨ i = 3 := by omega
    rcases this with rfl | rfl | rfl | rfl <;> subst h <;> rfl
  · rfl
theorem noL_0 : isNO (TL 0) 100 2 = True := eq_true ⟨_, rfl, fun _ => rfl⟩
theorem naL_0 : isNA (TL 0) 102 8 48 = True := eq_true ⟨48, rfl, Or.inl rfl⟩
theorem naC_0 (z : Int) : isNA (TL 0) 101 8 z = True := eq_true ⟨-1, rfl, Or.inr (by decide)⟩
theorem alL_0 (σ : Mem) : alen (TL 0) σ 10 = 241 := rfl
theorem rfL_0 (σ : Mem) : rfv (TL 0) σ 9 1 = 10 := rfl
theorem noL_1 : isNO (TL 1) 103 2 = True := eq_true ⟨_, rfl, fun _ => rfl⟩
theorem naL_1 : isNA (TL 1) 105 8 48 = True := eq_true ⟨48, rfl, Or.inl rfl⟩
theorem naC_1 (z : Int) : isNA (TL 1) 104 8 z = True := eq_true ⟨-1, rfl, Or.inr (by decide)⟩
theorem alL_1 (σ : Mem) : alen (TL 1) σ 10 = 241 := rfl
theorem rfL_1 (σ : Mem) : rfv (TL 1) σ 9 1 = 10 := rfl
theorem noL_2 : isNO (TL 2) 106 2 = True := eq_true ⟨_, rfl, fun _ => rfl⟩
theorem naL_2 : isNA (TL 2) 108 8 48 = True := eq_true ⟨48, rfl, Or.inl rfl⟩
theorem naC_2 (z : Int) : isNA (TL 2) 107 8 z = True := eq_true ⟨-1, rfl, Or.inr (by decide)⟩
theorem alL_2 (σ : Mem) : alen (TL 2) σ 10 = 241 := rfl
theorem rfL_2 (σ : Mem) : rfv (TL 2) σ 9 1 = 10 := rfl
theorem noL_3 : isNO (TL 3) 109 2 = True := eq_true ⟨_, rfl, fun _ => rfl⟩
theorem naL_3 : isNA (TL 3) 111 8 48 = True := eq_true ⟨48, rfl, Or.inl rfl⟩
theorem naC_3 (z : Int) : isNA (TL 3) 110 8 z = True := eq_true ⟨-1, rfl, Or.inr (by decide)⟩
theorem alL_3 (σ : Mem) : alen (TL 3) σ 10 = 241 := rfl
theorem rfL_3 (σ : Mem) : rfv (TL 3) σ 9 1 = 10 := rfl
theorem wd_700 : Cond.methodLink RX2 1 Lib.objectInit ∈ TBL := tb_tab (List.mem_of_getElem? (i := 700) (by decide +kernel)) rfl
theorem fp_X2_7 : amFp RX2 2 1 7 RX2 TX2 2 tyX2 (.array .int) := ⟨fl_X2_7, tyX2_ok, nmX2, by decide +kernel⟩
theorem fp_X2_13 : amFp RX2 2 0 13 RX2 TX2 2 tyX2 (.array .int) := ⟨fl_X2_13, tyX2_ok, nmX2, by decide +kernel⟩
def a_X2_init (i : Int) : AC := [(0, vAload 0 1), (1, vObj 4), (4, vAload 0 5), (5, vI 48 7), (7, vNewA (TL i) 8 dfa (fun ls σ => (lg ls 0).2 + 2) 1 48 2 9), (9, vPutR (TL i) 18 1 8 1 12), (12, vAload 0 13), (13, vAload 1 14), (14, vPutR (TL i) 18 0 8 0 17), (17, vVret)]
theorem k_X2_init_0 (i : Int) : look (a_X2_init i) 0 = vAload 0 1 := rfl
theorem k_X2_init_1 (i : Int) : look (a_X2_init i) 1 = vObj 4 := rfl
theorem k_X2_init_4 (i : Int) : look (a_X2_init i) 4 = vAload 0 5 := rfl
theorem k_X2_init_5 (i : Int) : look (a_X2_init i) 5 = vI 48 7 := rfl
theorem k_X2_init_7 (i : Int) : look (a_X2_init i) 7 = vNewA (TL i) 8 dfa (fun ls σ => (lg ls 0).2 + 2) 1 48 2 9 := rfl
theorem k_X2_init_9 (i : Int) : look (a_X2_init i) 9 = vPutR (TL i) 18 1 8 1 12 := rfl
theorem k_X2_init_12 (i : Int) : look (a_X2_init i) 12 = vAload 0 13 := rfl
theorem k_X2_init_13 (i : Int) : look (a_X2_init i) 13 = vAload 1 14 := rfl
theorem k_X2_init_14 (i : Int) : look (a_X2_init i) 14 = vPutR (TL i) 18 0 8 0 17 := rfl
theorem k_X2_init_17 (i : Int) : look (a_X2_init i) 17 = vVret := rfl
theorem o_X2_init {X : amX} (i : Int) (e1 : XT X = (TL i)) (e2 : XD X = 1) (e3 : XC X = 1) (e4 : XS X = 48) (hin : (XM X).name = "<init>") (hE : Eno (Xn X) (Xst X)) (hB : amB X RX2 cX2_init (none) 2) : ∀ pc, amOK X pc (look (a_X2_init i) pc) := by
  have hT : amTok (XT X) := e1 ▸ (TL_ok i)
  refine look_ok ?_
  unfold a_X2_init
  refine fc (ok_aload_n hB dX2_init_0) ?_
  refine fc (ok_obj hB (by rw [e2]; decide) wd_700 wd_33 wd_34 dX2_init_1) ?_
  refine fc (ok_aload_n hB dX2_init_4) ?_
  refine fc (ok_bipush hB dX2_init_5 (by decide)) ?_
  refine fc (ok_newA8 hB e1 e3 e4 wd_57 _ dX2_init_7) ?_
  refine fc (okt_putRF e1 hB hT fp_X2_7 (rt_arr _) rfl hin rfl rfl rfl af_2_1 at_2_1 (by decide) (by decide) dX2_init_9) ?_
  refine fc (ok_aload_n hB dX2_init_12) ?_
  refine fc (ok_aload_n hB dX2_init_13) ?_
  refine fc (okt_putRF e1 hB hT fp_X2_13 (rt_arr _) rfl hin rfl rfl rfl af_2_0 at_2_0 (by decide) (by decide) dX2_init_14) ?_
  refine fc (ok_vret hB dX2_init_17) ?_
  exact fn


def w_X2_init (i : Int) : WP := fun av σ Q => ∃ (a : Int) (b : Int), av = [(18, a), (8, b)] ∧ ((0 ≤ i ∧ i < 4) ∧ a = 100 + 3 * i ∧ 0 ≤ b ∧ nl σ (a + 2) ∧ Q (6, 0) (up (up (newm σ (a + 2) (dfa 48)) a 1 (a + 2)) a 0 b))
theorem w_X2_init_e (i : Int) (a : Int) (b : Int) (σ : Mem) (Q : AV → Mem → Prop) : w_X2_init i [(18, a), (8, b)] σ Q = ((0 ≤ i ∧ i < 4) ∧ a = 100 + 3 * i ∧ 0 ≤ b ∧ nl σ (a + 2) ∧ Q (6, 0) (up (up (newm σ (a + 2) (dfa 48)) a 1 (a + 2)) a 0 b)) := by
  apply propext; constructor
  · rintro ⟨a', b', h9, hb9⟩; cases h9; exact hb9
  · intro hb9; exact ⟨a, b, rfl, hb9⟩

set_option maxRecDepth 100000 in
set_option maxHeartbeats 4000000 in
theorem s_X2_init (i : Int) : ∀ av σ Q, w_X2_init i av σ Q → amCallE Eno 1 1 48 ((TL i)) yX2_init cX2_init 2 (none) av σ Q := by
  rintro av σ Q ⟨a, b, rfl, hi, ha, hb, hn, h⟩
  have h4 : i = 0 ∨ i = 1 ∨ i = 2 ∨ i = 3 := by omega
  rcases h4 with rfl | rfl | rfl | rfl
  · simp only [Int.reduceMul, Int.reduceAdd] at ha
    subst ha
    simp only [Int.reduceAdd] at h hn
    refine am_methodE (own := RX2) (A := look (a_X2_init 0)) (fun X e1 e2 e3 e4 h5 hE hB => o_X2_init 0 e1 e2 e3 e4 h5 hE hB) rfl (by decide +kernel) rfl rfl 50 (w := 4) ?_
    change vcs _ _ _ _ 50 0 [(18, 100), (8, b), (6, 0), (6, 0)] [] σ
    simp only [vNew_e, vNewA_e, vCallI_e0, vCallI_e1, vCallI_e2, vCallI_e3, vCallMA_e0, vCallMA_e1, vCallSA_e2, vObj_e, cnt_e, List.length_cons, List.length_nil, Nat.zero_add, Nat.reduceAdd, Nat.reduceLT, Int.reduceAdd, Nat.reduceLeDiff, ↓reduceIte, vSw2_e, swP_n, swP_c, vI_e, vL_e, vNull_e, vIload_e, vLload_e, vAload_e, vIstore_e, vLstore_e, vAstore_e, vIinc_e, vIadd_e, vIsub_e, vImul_e, vIand_e, vIor_e, vIxor_e, vIshl_e, vIshr_e, vIushr_e, vIdiv_e, vIrem_e, vLadd_e, vLsub_e, vLmul_e, vLand_e, vLor_e, vLxor_e, vLdiv_e, vLrem_e, vLushr_e, vLshl_e, vLcmp_e, vIneg_e, vI2l_e, vL2i_e, vI2b_e, vI2c_e, vDup_e, vPop_e, vDup2_e, vGoto_e, vIcEq_e, vIfEq_e, vIcNe_e, vIfNe_e, vIcLt_e, vIfLt_e, vIcGe_e, vIfGe_e, vIcGt_e, vIfGt_e, vIcLe_e, vIfLe_e, vNonnull_e, vSw_e, vGetI_e, vGetL_e, vGetR_e, vPutI_e, vPutZ_e, vPutL_e, vPutR_e, vIald_e, vIald_s, vLald_e, vBald_e, vBald_s, vAald_e, vIast_e, vLast_e, vBast_e, vAast_e, vAlen_e8, vAlen_e9, vAlen_e10, vAlen_e11, vAlen_e5, vAlen_e3, vGets_e, vCompact_e, vLdcS_e, vIret_e, vZret_e, vCret_e, vBret_e, vLret_e, vVret_e, vAret_e, vCallM_e0, vCallMV_e0, vCallS_e0, vCallSV_e0, vCallM_e1, vCallMV_e1, vCallS_e1, vCallSV_e1, vCallM_e2, vCallMV_e2, vCallS_e2, vCallSV_e2, vCallM_e3, vCallMV_e3, vCallS_e3, vCallSV_e3, vCallM_e4, vCallMV_e4, vCallS_e4, vCallSV_e4, vCallM_e5, vCallMV_e5, vCallS_e5, vCallSV_e5, vCallM_e6, vCallMV_e6, vCallS_e6, vCallSV_e6, vCallM_e7, vCallMV_e7, vCallS_e7, vCallSV_e7, vBad_e, vStrVal_e, vStrCod_e, vForm_e, vCallT_e0, vCallT_e1, vCallT_e2, vCopy_e, rf_0_0, rf_0_1, rf_0_2, rf_0_3, rf_0_4, rf_0_7, rf_0_10, rf_0_11, rf_0_12, rf_0_13, rf_0_14, rf_0_15, rf_0_16, rf_1_0, rf_3_0, rf_3_1, rf_6_0, rf_6_1, rf_9_0, rf_9_1, rf_9_3, rf_13_0, rf_13_1, rf_13_2, rf_16_0, rf_16_1, rf_16_2, rf_16_3, rf_21_0, rf_21_1, rf_21_2, rf_21_3, rf_26_0, rf_26_1, rf_26_2, rf_26_3, rf_26_4, rf_26_5, rf_26_6, rf_31_0, rf_31_2, rf_31_5, rf_31_6, rf_36_0, rf_36_1, rf_36_2, rf_36_3, rf_39_0, rf_39_1, rf_39_2, rf_41_0, rf_41_1, rf_41_2, rf_41_3, rf_5000_1, rf_5000_2, rf_5000_3, rf_5000_4, rf_5000_5, rf_5000_15, rf_5000_16, rf_5000_18, rf_5000_19, rf_5000_20, rf_5000_21, rf_5000_22, rf_5000_23, rf_5000_24, rf_5000_25, rf_5000_26, rf_5000_27, rf_5000_36, rf_5000_37, rf_5000_40, rf_5000_41, rf_5000_42, rf_5000_43, rf_5000_44, rf_5000_45, rf_5000_47, rf_5000_52, rf_5000_54, rf_5000_55, rf_100_0, rf_100_1, rf_103_0, rf_103_1, rf_106_0, rf_106_1, rf_109_0, rf_109_1, al_2, al_4, al_5, al_7, al_8, al_10, al_11, al_12, al_14, al_15, al_17, al_18, al_19, al_20, al_22, al_23, al_24, al_25, al_27, al_28, al_29, al_30, al_32, al_33, al_34, al_35, al_37, al_38, al_40, al_42, al_5001, al_5002, al_5003, al_5004, al_5005, al_5006, al_5007, al_5008, al_5009, al_5010, al_5011, al_5012, al_5013, al_5014, al_5015, al_5016, al_5017, al_5018, al_5019, al_5020, al_5021, al_5022, al_5023, al_5024, al_5025, al_5026, al_9000, al_101, al_102, al_104, al_105, al_107, al_108, al_110, al_111, vcs_e, lg_c0, lg_cs, lg_nil, set_c0, set_cs, okst_0, okst_s, acok_n, acok_c, List.contains_nil, List.contains_cons, Bool.or_false, Bool.false_or, Bool.false_eq_true, if_false, if_true, ite_self, ne_eq, true_and, and_true, not_false_eq_true, not_true_eq_false, false_imp_iff, true_imp_iff, Nat.ble_eq, Bool.and_eq_true, reduceCtorEq, or_false, false_or, or_true, true_or, false_and, and_false, and_self, Int.reduceLE, Int.reduceAdd, Int.reduceSub, Int.reduceMul, Int.reduceNeg, Int.reduceLT, Int.reduceEq, Int.reduceNe, Nat.reduceBEq, Nat.reduceBNe, Nat.reduceEqDiff, amCmp_in, amCmp_lt, amCmp_le, amCmp_gt, amCmp_ge, amCmp_eq, amCmp_ne, Nat.reduceLeDiff, Nat.reduceSub, Bool.and_true, Bool.true_and, Bool.and_self, Bool.or_true, Bool.true_or, isRf_3, isRf_4, isRf_5, isRf_8, isRf_9, isRf_10, isRf_11, isRf_15, isRf_16, isRf_17, isRf_18, isRf_19, isRf_20, isRf_21, isRf_22, isRf_23, isRf_24, isRf_25, isRf_26, isRf_27, isRf_28, k_X2_init_0, k_X2_init_1, k_X2_init_4, k_X2_init_5, k_X2_init_7, k_X2_init_9, k_X2_init_12, k_X2_init_13, k_X2_init_14, k_X2_init_17, up_s, up_nj, up_na, up_up, savR_o, cpy_o, fillm_o, setAud_o, setv_o, setv_s, Int.reduceNe, Int.reduceEq, Int.reduceLT, Int.reduceAdd, not_false_eq_true, ne_eq, or_true, true_or, nl_newm, nl_up, naL_0, newm_k, newm_s]
    repeat' (first | assumption | apply And.intro | intro _)
    all_goals first | omega | exact rfl | exact Or.inl rfl | exact Or.inr rfl | decide
  · simp only [Int.reduceMul, Int.reduceAdd] at ha
    subst ha
    simp only [Int.reduceAdd] at h hn
    refine am_methodE (own := RX2) (A := look (a_X2_init 1)) (fun X e1 e2 e3 e4 h5 hE hB => o_X2_init 1 e1 e2 e3 e4 h5 hE hB) rfl (by decide +kernel) rfl rfl 50 (w := 4) ?_
    change vcs _ _ _ _ 50 0 [(18, 103), (8, b), (6, 0), (6, 0)] [] σ
    simp only [vNew_e, vNewA_e, vCallI_e0, vCallI_e1, vCallI_e2, vCallI_e3, vCallMA_e0, vCallMA_e1, vCallSA_e2, vObj_e, cnt_e, List.length_cons, List.length_nil, Nat.zero_add, Nat.reduceAdd, Nat.reduceLT, Int.reduceAdd, Nat.reduceLeDiff, ↓reduceIte, vSw2_e, swP_n, swP_c, vI_e, vL_e, vNull_e, vIload_e, vLload_e, vAload_e, vIstore_e, vLstore_e, vAstore_e, vIinc_e, vIadd_e, vIsub_e, vImul_e, vIand_e, vIor_e, vIxor_e, vIshl_e, vIshr_e, vIushr_e, vIdiv_e, vIrem_e, vLadd_e, vLsub_e, vLmul_e, vLand_e, vLor_e, vLxor_e, vLdiv_e, vLrem_e, vLushr_e, vLshl_e, vLcmp_e, vIneg_e, vI2l_e, vL2i_e, vI2b_e, vI2c_e, vDup_e, vPop_e, vDup2_e, vGoto_e, vIcEq_e, vIfEq_e, vIcNe_e, vIfNe_e, vIcLt_e, vIfLt_e, vIcGe_e, vIfGe_e, vIcGt_e, vIfGt_e, vIcLe_e, vIfLe_e, vNonnull_e, vSw_e, vGetI_e, vGetL_e, vGetR_e, vPutI_e, vPutZ_e, vPutL_e, vPutR_e, vIald_e, vIald_s, vLald_e, vBald_e, vBald_s, vAald_e, vIast_e, vLast_e, vBast_e, vAast_e, vAlen_e8, vAlen_e9, vAlen_e10, vAlen_e11, vAlen_e5, vAlen_e3, vGets_e, vCompact_e, vLdcS_e, vIret_e, vZret_e, vCret_e, vBret_e, vLret_e, vVret_e, vAret_e, vCallM_e0, vCallMV_e0, vCallS_e0, vCallSV_e0, vCallM_e1, vCallMV_e1, vCallS_e1, vCallSV_e1, vCallM_e2, vCallMV_e2, vCallS_e2, vCallSV_e2, vCallM_e3, vCallMV_e3, vCallS_e3, vCallSV_e3, vCallM_e4, vCallMV_e4, vCallS_e4, vCallSV_e4, vCallM_e5, vCallMV_e5, vCallS_e5, vCallSV_e5, vCallM_e6, vCallMV_e6, vCallS_e6, vCallSV_e6, vCallM_e7, vCallMV_e7, vCallS_e7, vCallSV_e7, vBad_e, vStrVal_e, vStrCod_e, vForm_e, vCallT_e0, vCallT_e1, vCallT_e2, vCopy_e, rf_0_0, rf_0_1, rf_0_2, rf_0_3, rf_0_4, rf_0_7, rf_0_10, rf_0_11, rf_0_12, rf_0_13, rf_0_14, rf_0_15, rf_0_16, rf_1_0, rf_3_0, rf_3_1, rf_6_0, rf_6_1, rf_9_0, rf_9_1, rf_9_3, rf_13_0, rf_13_1, rf_13_2, rf_16_0, rf_16_1, rf_16_2, rf_16_3, rf_21_0, rf_21_1, rf_21_2, rf_21_3, rf_26_0, rf_26_1, rf_26_2, rf_26_3, rf_26_4, rf_26_5, rf_26_6, rf_31_0, rf_31_2, rf_31_5, rf_31_6, rf_36_0, rf_36_1, rf_36_2, rf_36_3, rf_39_0, rf_39_1, rf_39_2, rf_41_0, rf_41_1, rf_41_2, rf_41_3, rf_5000_1, rf_5000_2, rf_5000_3, rf_5000_4, rf_5000_5, rf_5000_15, rf_5000_16, rf_5000_18, rf_5000_19, rf_5000_20, rf_5000_21, rf_5000_22, rf_5000_23, rf_5000_24, rf_5000_25, rf_5000_26, rf_5000_27, rf_5000_36, rf_5000_37, rf_5000_40, rf_5000_41, rf_5000_42, rf_5000_43, rf_5000_44, rf_5000_45, rf_5000_47, rf_5000_52, rf_5000_54, rf_5000_55, rf_100_0, rf_100_1, rf_103_0, rf_103_1, rf_106_0, rf_106_1, rf_109_0, rf_109_1, al_2, al_4, al_5, al_7, al_8, al_10, al_11, al_12, al_14, al_15, al_17, al_18, al_19, al_20, al_22, al_23, al_24, al_25, al_27, al_28, al_29, al_30, al_32, al_33, al_34, al_35, al_37, al_38, al_40, al_42, al_5001, al_5002, al_5003, al_5004, al_5005, al_5006, al_5007, al_5008, al_5009, al_5010, al_5011, al_5012, al_5013, al_5014, al_5015, al_5016, al_5017, al_5018, al_5019, al_5020, al_5021, al_5022, al_5023, al_5024, al_5025, al_5026, al_9000, al_101, al_102, al_104, al_105, al_107, al_108, al_110, al_111, vcs_e, lg_c0, lg_cs, lg_nil, set_c0, set_cs, okst_0, okst_s, acok_n, acok_c, List.contains_nil, List.contains_cons, Bool.or_false, Bool.false_or, Bool.false_eq_true, if_false, if_true, ite_self, ne_eq, true_and, and_true, not_false_eq_true, not_true_eq_false, false_imp_iff, true_imp_iff, Nat.ble_eq, Bool.and_eq_true, reduceCtorEq, or_false, false_or, or_true, true_or, false_and, and_false, and_self, Int.reduceLE, Int.reduceAdd, Int.reduceSub, Int.reduceMul, Int.reduceNeg, Int.reduceLT, Int.reduceEq, Int.reduceNe, Nat.reduceBEq, Nat.reduceBNe, Nat.reduceEqDiff, amCmp_in, amCmp_lt, amCmp_le, amCmp_gt, amCmp_ge, amCmp_eq, amCmp_ne, Nat.reduceLeDiff, Nat.reduceSub, Bool.and_true, Bool.true_and, Bool.and_self, Bool.or_true, Bool.true_or, isRf_3, isRf_4, isRf_5, isRf_8, isRf_9, isRf_10, isRf_11, isRf_15, isRf_16, isRf_17, isRf_18, isRf_19, isRf_20, isRf_21, isRf_22, isRf_23, isRf_24, isRf_25, isRf_26, isRf_27, isRf_28, k_X2_init_0, k_X2_init_1, k_X2_init_4, k_X2_init_5, k_X2_init_7, k_X2_init_9, k_X2_init_12, k_X2_init_13, k_X2_init_14, k_X2_init_17, up_s, up_nj, up_na, up_up, savR_o, cpy_o, fillm_o, setAud_o, setv_o, setv_s, Int.reduceNe, Int.reduceEq, Int.reduceLT, Int.reduceAdd, not_false_eq_true, ne_eq, or_true, true_or, nl_newm, nl_up, naL_1, newm_k, newm_s]
    repeat' (first | assumption | apply And.intro | intro _)
    all_goals first | omega | exact rfl | exact Or.inl rfl | exact Or.inr rfl | decide
  · simp only [Int.reduceMul, Int.reduceAdd] at ha
    subst ha
    simp only [Int.reduceAdd] at h hn
    refine am_methodE (own := RX2) (A := look (a_X2_init 2)) (fun X e1 e2 e3 e4 h5 hE hB => o_X2_init 2 e1 e2 e3 e4 h5 hE hB) rfl (by decide +kernel) rfl rfl 50 (w := 4) ?_
    change vcs _ _ _ _ 50 0 [(18, 106), (8, b), (6, 0), (6, 0)] [] σ
    simp only [vNew_e, vNewA_e, vCallI_e0, vCallI_e1, vCallI_e2, vCallI_e3, vCallMA_e0, vCallMA_e1, vCallSA_e2, vObj_e, cnt_e, List.length_cons, List.length_nil, Nat.zero_add, Nat.reduceAdd, Nat.reduceLT, Int.reduceAdd, Nat.reduceLeDiff, ↓reduceIte, vSw2_e, swP_n, swP_c, vI_e, vL_e, vNull_e, vIload_e, vLload_e, vAload_e, vIstore_e, vLstore_e, vAstore_e, vIinc_e, vIadd_e, vIsub_e, vImul_e, vIand_e, vIor_e, vIxor_e, vIshl_e, vIshr_e, vIushr_e, vIdiv_e, vIrem_e, vLadd_e, vLsub_e, vLmul_e, vLand_e, vLor_e, vLxor_e, vLdiv_e, vLrem_e, vLushr_e, vLshl_e, vLcmp_e, vIneg_e, vI2l_e, vL2i_e, vI2b_e, vI2c_e, vDup_e, vPop_e, vDup2_e, vGoto_e, vIcEq_e, vIfEq_e, vIcNe_e, vIfNe_e, vIcLt_e, vIfLt_e, vIcGe_e, vIfGe_e, vIcGt_e, vIfGt_e, vIcLe_e, vIfLe_e, vNonnull_e, vSw_e, vGetI_e, vGetL_e, vGetR_e, vPutI_e, vPutZ_e, vPutL_e, vPutR_e, vIald_e, vIald_s, vLald_e, vBald_e, vBald_s, vAald_e, vIast_e, vLast_e, vBast_e, vAast_e, vAlen_e8, vAlen_e9, vAlen_e10, vAlen_e11, vAlen_e5, vAlen_e3, vGets_e, vCompact_e, vLdcS_e, vIret_e, vZret_e, vCret_e, vBret_e, vLret_e, vVret_e, vAret_e, vCallM_e0, vCallMV_e0, vCallS_e0, vCallSV_e0, vCallM_e1, vCallMV_e1, vCallS_e1, vCallSV_e1, vCallM_e2, vCallMV_e2, vCallS_e2, vCallSV_e2, vCallM_e3, vCallMV_e3, vCallS_e3, vCallSV_e3, vCallM_e4, vCallMV_e4, vCallS_e4, vCallSV_e4, vCallM_e5, vCallMV_e5, vCallS_e5, vCallSV_e5, vCallM_e6, vCallMV_e6, vCallS_e6, vCallSV_e6, vCallM_e7, vCallMV_e7, vCallS_e7, vCallSV_e7, vBad_e, vStrVal_e, vStrCod_e, vForm_e, vCallT_e0, vCallT_e1, vCallT_e2, vCopy_e, rf_0_0, rf_0_1, rf_0_2, rf_0_3, rf_0_4, rf_0_7, rf_0_10, rf_0_11, rf_0_12, rf_0_13, rf_0_14, rf_0_15, rf_0_16, rf_1_0, rf_3_0, rf_3_1, rf_6_0, rf_6_1, rf_9_0, rf_9_1, rf_9_3, rf_13_0, rf_13_1, rf_13_2, rf_16_0, rf_16_1, rf_16_2, rf_16_3, rf_21_0, rf_21_1, rf_21_2, rf_21_3, rf_26_0, rf_26_1, rf_26_2, rf_26_3, rf_26_4, rf_26_5, rf_26_6, rf_31_0, rf_31_2, rf_31_5, rf_31_6, rf_36_0, rf_36_1, rf_36_2, rf_36_3, rf_39_0, rf_39_1, rf_39_2, rf_41_0, rf_41_1, rf_41_2, rf_41_3, rf_5000_1, rf_5000_2, rf_5000_3, rf_5000_4, rf_5000_5, rf_5000_15, rf_5000_16, rf_5000_18, rf_5000_19, rf_5000_20, rf_5000_21, rf_5000_22, rf_5000_23, rf_5000_24, rf_5000_25, rf_5000_26, rf_5000_27, rf_5000_36, rf_5000_37, rf_5000_40, rf_5000_41, rf_5000_42, rf_5000_43, rf_5000_44, rf_5000_45, rf_5000_47, rf_5000_52, rf_5000_54, rf_5000_55, rf_100_0, rf_100_1, rf_103_0, rf_103_1, rf_106_0, rf_106_1, rf_109_0, rf_109_1, al_2, al_4, al_5, al_7, al_8, al_10, al_11, al_12, al_14, al_15, al_17, al_18, al_19, al_20, al_22, al_23, al_24, al_25, al_27, al_28, al_29, al_30, al_32, al_33, al_34, al_35, al_37, al_38, al_40, al_42, al_5001, al_5002, al_5003, al_5004, al_5005, al_5006, al_5007, al_5008, al_5009, al_5010, al_5011, al_5012, al_5013, al_5014, al_5015, al_5016, al_5017, al_5018, al_5019, al_5020, al_5021, al_5022, al_5023, al_5024, al_5025, al_5026, al_9000, al_101, al_102, al_104, al_105, al_107, al_108, al_110, al_111, vcs_e, lg_c0, lg_cs, lg_nil, set_c0, set_cs, okst_0, okst_s, acok_n, acok_c, List.contains_nil, List.contains_cons, Bool.or_false, Bool.false_or, Bool.false_eq_true, if_false, if_true, ite_self, ne_eq, true_and, and_true, not_false_eq_true, not_true_eq_false, false_imp_iff, true_imp_iff, Nat.ble_eq, Bool.and_eq_true, reduceCtorEq, or_false, false_or, or_true, true_or, false_and, and_false, and_self, Int.reduceLE, Int.reduceAdd, Int.reduceSub, Int.reduceMul, Int.reduceNeg, Int.reduceLT, Int.reduceEq, Int.reduceNe, Nat.reduceBEq, Nat.reduceBNe, Nat.reduceEqDiff, amCmp_in, amCmp_lt, amCmp_le, amCmp_gt, amCmp_ge, amCmp_eq, amCmp_ne, Nat.reduceLeDiff, Nat.reduceSub, Bool.and_true, Bool.true_and, Bool.and_self, Bool.or_true, Bool.true_or, isRf_3, isRf_4, isRf_5, isRf_8, isRf_9, isRf_10, isRf_11, isRf_15, isRf_16, isRf_17, isRf_18, isRf_19, isRf_20, isRf_21, isRf_22, isRf_23, isRf_24, isRf_25, isRf_26, isRf_27, isRf_28, k_X2_init_0, k_X2_init_1, k_X2_init_4, k_X2_init_5, k_X2_init_7, k_X2_init_9, k_X2_init_12, k_X2_init_13, k_X2_init_14, k_X2_init_17, up_s, up_nj, up_na, up_up, savR_o, cpy_o, fillm_o, setAud_o, setv_o, setv_s, Int.reduceNe, Int.reduceEq, Int.reduceLT, Int.reduceAdd, not_false_eq_true, ne_eq, or_true, true_or, nl_newm, nl_up, naL_2, newm_k, newm_s]
    repeat' (first | assumption | apply And.intro | intro _)
    all_goals first | omega | exact rfl | exact Or.inl rfl | exact Or.inr rfl | decide
  · simp only [Int.reduceMul, Int.reduceAdd] at ha
    subst ha
    simp only [Int.reduceAdd] at h hn
    refine am_methodE (own := RX2) (A := look (a_X2_init 3)) (fun X e1 e2 e3 e4 h5 hE hB => o_X2_init 3 e1 e2 e3 e4 h5 hE hB) rfl (by decide +kernel) rfl rfl 50 (w := 4) ?_
    change vcs _ _ _ _ 50 0 [(18, 109), (8, b), (6, 0), (6, 0)] [] σ
    simp only [vNew_e, vNewA_e, vCallI_e0, vCallI_e1, vCallI_e2, vCallI_e3, vCallMA_e0, vCallMA_e1, vCallSA_e2, vObj_e, cnt_e, List.length_cons, List.length_nil, Nat.zero_add, Nat.reduceAdd, Nat.reduceLT, Int.reduceAdd, Nat.reduceLeDiff, ↓reduceIte, vSw2_e, swP_n, swP_c, vI_e, vL_e, vNull_e, vIload_e, vLload_e, vAload_e, vIstore_e, vLstore_e, vAstore_e, vIinc_e, vIadd_e, vIsub_e, vImul_e, vIand_e, vIor_e, vIxor_e, vIshl_e, vIshr_e, vIushr_e, vIdiv_e, vIrem_e, vLadd_e, vLsub_e, vLmul_e, vLand_e, vLor_e, vLxor_e, vLdiv_e, vLrem_e, vLushr_e, vLshl_e, vLcmp_e, vIneg_e, vI2l_e, vL2i_e, vI2b_e, vI2c_e, vDup_e, vPop_e, vDup2_e, vGoto_e, vIcEq_e, vIfEq_e, vIcNe_e, vIfNe_e, vIcLt_e, vIfLt_e, vIcGe_e, vIfGe_e, vIcGt_e, vIfGt_e, vIcLe_e, vIfLe_e, vNonnull_e, vSw_e, vGetI_e, vGetL_e, vGetR_e, vPutI_e, vPutZ_e, vPutL_e, vPutR_e, vIald_e, vIald_s, vLald_e, vBald_e, vBald_s, vAald_e, vIast_e, vLast_e, vBast_e, vAast_e, vAlen_e8, vAlen_e9, vAlen_e10, vAlen_e11, vAlen_e5, vAlen_e3, vGets_e, vCompact_e, vLdcS_e, vIret_e, vZret_e, vCret_e, vBret_e, vLret_e, vVret_e, vAret_e, vCallM_e0, vCallMV_e0, vCallS_e0, vCallSV_e0, vCallM_e1, vCallMV_e1, vCallS_e1, vCallSV_e1, vCallM_e2, vCallMV_e2, vCallS_e2, vCallSV_e2, vCallM_e3, vCallMV_e3, vCallS_e3, vCallSV_e3, vCallM_e4, vCallMV_e4, vCallS_e4, vCallSV_e4, vCallM_e5, vCallMV_e5, vCallS_e5, vCallSV_e5, vCallM_e6, vCallMV_e6, vCallS_e6, vCallSV_e6, vCallM_e7, vCallMV_e7, vCallS_e7, vCallSV_e7, vBad_e, vStrVal_e, vStrCod_e, vForm_e, vCallT_e0, vCallT_e1, vCallT_e2, vCopy_e, rf_0_0, rf_0_1, rf_0_2, rf_0_3, rf_0_4, rf_0_7, rf_0_10, rf_0_11, rf_0_12, rf_0_13, rf_0_14, rf_0_15, rf_0_16, rf_1_0, rf_3_0, rf_3_1, rf_6_0, rf_6_1, rf_9_0, rf_9_1, rf_9_3, rf_13_0, rf_13_1, rf_13_2, rf_16_0, rf_16_1, rf_16_2, rf_16_3, rf_21_0, rf_21_1, rf_21_2, rf_21_3, rf_26_0, rf_26_1, rf_26_2, rf_26_3, rf_26_4, rf_26_5, rf_26_6, rf_31_0, rf_31_2, rf_31_5, rf_31_6, rf_36_0, rf_36_1, rf_36_2, rf_36_3, rf_39_0, rf_39_1, rf_39_2, rf_41_0, rf_41_1, rf_41_2, rf_41_3, rf_5000_1, rf_5000_2, rf_5000_3, rf_5000_4, rf_5000_5, rf_5000_15, rf_5000_16, rf_5000_18, rf_5000_19, rf_5000_20, rf_5000_21, rf_5000_22, rf_5000_23, rf_5000_24, rf_5000_25, rf_5000_26, rf_5000_27, rf_5000_36, rf_5000_37, rf_5000_40, rf_5000_41, rf_5000_42, rf_5000_43, rf_5000_44, rf_5000_45, rf_5000_47, rf_5000_52, rf_5000_54, rf_5000_55, rf_100_0, rf_100_1, rf_103_0, rf_103_1, rf_106_0, rf_106_1, rf_109_0, rf_109_1, al_2, al_4, al_5, al_7, al_8, al_10, al_11, al_12, al_14, al_15, al_17, al_18, al_19, al_20, al_22, al_23, al_24, al_25, al_27, al_28, al_29, al_30, al_32, al_33, al_34, al_35, al_37, al_38, al_40, al_42, al_5001, al_5002, al_5003, al_5004, al_5005, al_5006, al_5007, al_5008, al_5009, al_5010, al_5011, al_5012, al_5013, al_5014, al_5015, al_5016, al_5017, al_5018, al_5019, al_5020, al_5021, al_5022, al_5023, al_5024, al_5025, al_5026, al_9000, al_101, al_102, al_104, al_105, al_107, al_108, al_110, al_111, vcs_e, lg_c0, lg_cs, lg_nil, set_c0, set_cs, okst_0, okst_s, acok_n, acok_c, List.contains_nil, List.contains_cons, Bool.or_false, Bool.false_or, Bool.false_eq_true, if_false, if_true, ite_self, ne_eq, true_and, and_true, not_false_eq_true, not_true_eq_false, false_imp_iff, true_imp_iff, Nat.ble_eq, Bool.and_eq_true, reduceCtorEq, or_false, false_or, or_true, true_or, false_and, and_false, and_self, Int.reduceLE, Int.reduceAdd, Int.reduceSub, Int.reduceMul, Int.reduceNeg, Int.reduceLT, Int.reduceEq, Int.reduceNe, Nat.reduceBEq, Nat.reduceBNe, Nat.reduceEqDiff, amCmp_in, amCmp_lt, amCmp_le, amCmp_gt, amCmp_ge, amCmp_eq, amCmp_ne, Nat.reduceLeDiff, Nat.reduceSub, Bool.and_true, Bool.true_and, Bool.and_self, Bool.or_true, Bool.true_or, isRf_3, isRf_4, isRf_5, isRf_8, isRf_9, isRf_10, isRf_11, isRf_15, isRf_16, isRf_17, isRf_18, isRf_19, isRf_20, isRf_21, isRf_22, isRf_23, isRf_24, isRf_25, isRf_26, isRf_27, isRf_28, k_X2_init_0, k_X2_init_1, k_X2_init_4, k_X2_init_5, k_X2_init_7, k_X2_init_9, k_X2_init_12, k_X2_init_13, k_X2_init_14, k_X2_init_17, up_s, up_nj, up_na, up_up, savR_o, cpy_o, fillm_o, setAud_o, setv_o, setv_s, Int.reduceNe, Int.reduceEq, Int.reduceLT, Int.reduceAdd, not_false_eq_true, ne_eq, or_true, true_or, nl_newm, nl_up, naL_3, newm_k, newm_s]
    repeat' (first | assumption | apply And.intro | intro _)
    all_goals first | omega | exact rfl | exact Or.inl rfl | exact Or.inr rfl | decide
def wnM (σ : Mem) (i : Int) : Mem := up (up (newm (cpy (newm (newm σ (100 + 3 * i) (dfv 2)) (101 + 3 * i) (dfa (σ 9 2))) 10 0 (101 + 3 * i) 0 (σ 9 2)) (102 + 3 * i) (dfa 48)) (100 + 3 * i) 1 (102 + 3 * i)) (100 + 3 * i) 0 (101 + 3 * i)
theorem wd_682 : Cond.classLink RX3 70 RX2 ∈ TBL := tb_tab (List.mem_of_getElem? (i := 682) (by decide +kernel)) rfl
theorem wd_683 : Cond.instantiable RX2 2 ∈ TBL := tb_tab (List.mem_of_getElem? (i := 683) (by decide +kernel)) rfl
theorem wd_684 : Cond.methodLink RX3 72 yJ9_max_7cf53 ∈ TBL := tb_tab (List.mem_of_getElem? (i := 684) (by decide +kernel)) rfl
theorem lk_X3_72 : amLk RX3 72 yJ9_max_7cf53 cJ9_max_7cf53 2 (some .int) 2 := ⟨wd_684, wd_16, wd_450, by decide +kernel, by decide +kernel, by decide⟩
theorem wd_685 : Cond.methodLink RX3 78 yJ7_copyOf_59c91 ∈ TBL := tb_tab (List.mem_of_getElem? (i := 685) (by decide +kernel)) rfl
theorem wd_687 : Cond.code yJ7_copyOf_59c91 cJ7_copyOf_59c91 3 (some (.array .int)) ∈ TBL := tb_tab (List.mem_of_getElem? (i := 687) (by decide +kernel)) rfl
theorem lk_X3_78 : amLk RX3 78 yJ7_copyOf_59c91 cJ7_copyOf_59c91 3 (some (.array .int)) 2 := ⟨wd_685, wd_13, wd_687, by decide +kernel, by decide +kernel, by decide⟩
theorem wd_686 : Cond.static yJ7_copyOf_59c91 ∈ TBL := tb_tab (List.mem_of_getElem? (i := 686) (by decide +kernel)) rfl
theorem wd_698 : Cond.instanceMethod yX2_init ∈ TBL := tb_tab (List.mem_of_getElem? (i := 698) (by decide +kernel)) rfl
theorem wd_697 : Cond.methodLink RX3 84 yX2_init ∈ TBL := tb_tab (List.mem_of_getElem? (i := 697) (by decide +kernel)) rfl
theorem wd_699 : Cond.code yX2_init cX2_init 2 (none) ∈ TBL := tb_tab (List.mem_of_getElem? (i := 699) (by decide +kernel)) rfl
theorem lk_X3_84 : amLk RX3 84 yX2_init cX2_init 2 (none) 1 := ⟨wd_697, wd_21, wd_699, by decide +kernel, by decide +kernel, by decide⟩
def a_X3_written (i : Int) : AC := [(0, vNew (TL i) 2 2 (fun ls σ => 100 + 3 * i) 3 290 1 3), (3, vDup 4), (4, vAload 0 5), (5, vGetR (TL i) 19 1 8 8), (8, vI 0 9), (9, vAload 0 10), (10, vGetI 19 2 13), (13, vCallS (w_J9_max_7cf53) 2 16), (16, vCallSA (w_J7_copyOf_59c91 (TL i) (101 + 3 * i)) 2 1 240 3 290 1 19), (19, vCallI (w_X2_init i) 18 1 1 48 3 290 1 22), (22, vAret)]
theorem k_X3_written_0 (i : Int) : look (a_X3_written i) 0 = vNew (TL i) 2 2 (fun ls σ => 100 + 3 * i) 3 290 1 3 := rfl
theorem k_X3_written_3 (i : Int) : look (a_X3_written i) 3 = vDup 4 := rfl
theorem k_X3_written_4 (i : Int) : look (a_X3_written i) 4 = vAload 0 5 := rfl
theorem k_X3_written_5 (i : Int) : look (a_X3_written i) 5 = vGetR (TL i) 19 1 8 8 := rfl
theorem k_X3_written_8 (i : Int) : look (a_X3_written i) 8 = vI 0 9 := rfl
theorem k_X3_written_9 (i : Int) : look (a_X3_written i) 9 = vAload 0 10 := rfl
theorem k_X3_written_10 (i : Int) : look (a_X3_written i) 10 = vGetI 19 2 13 := rfl
theorem k_X3_written_13 (i : Int) : look (a_X3_written i) 13 = vCallS (w_J9_max_7cf53) 2 16 := rfl
theorem k_X3_written_16 (i : Int) : look (a_X3_written i) 16 = vCallSA (w_J7_copyOf_59c91 (TL i) (101 + 3 * i)) 2 1 240 3 290 1 19 := rfl
theorem k_X3_written_19 (i : Int) : look (a_X3_written i) 19 = vCallI (w_X2_init i) 18 1 1 48 3 290 1 22 := rfl
theorem k_X3_written_22 (i : Int) : look (a_X3_written i) 22 = vAret := rfl
theorem o_X3_written {X : amX} (i : Int) (e1 : XT X = (TL i)) (e2 : XD X = 2) (e3 : XC X = 3) (e4 : XS X = 290) (hin : (XM X).name = "written") (hE : Eno (Xn X) (Xst X)) (hB : amB X RX3 cX3_written (some (.object "ArmchairHouse$Law")) 1) : ∀ pc, amOK X pc (look (a_X3_written i) pc) := by
  have hT : amTok (XT X) := e1 ▸ (TL_ok i)
  refine look_ok ?_
  unfold a_X3_written
  refine fc (ok_new hB e1 e3 e4 (c := 2) (C := RX2) (Tt := TX2) (N := 2) (ty := tyX2) rfl inT_2 tyX2_ok (by decide +kernel) wd_682 wd_683 wd_21 _ dX3_written_0) ?_
  refine fc (ok_dup hB dX3_written_3) ?_
  refine fc (ok_aload_n hB dX3_written_4) ?_
  refine fc (okt_getR e1 hB hT fl_X3_11 rfl af_3_1 at_3_1 (by decide) dX3_written_5) ?_
  refine fc (ok_iconst hB dX3_written_8) ?_
  refine fc (ok_aload_n hB dX3_written_9) ?_
  refine fc (ok_getI hB hT fl_X3_17 rfl rfl (Or.inl af_3_2) dX3_written_10) ?_
  refine fc (ok_callS hB (fun av9 σ9 Q9 h9 => e1 ▸ (sT_J9_max_7cf53 (TL i)) av9 σ9 Q9 h9) lk_X3_72 (by rw [e2]; omega) wd_449 dX3_written_13) ?_
  refine fc (ok_callSA hB e3 e4 Eno_m trivial (fun av9 σ9 Q9 h9 => e1 ▸ s_J7_copyOf_59c91 (TL i) (101 + 3 * i) av9 σ9 Q9 h9) lk_X3_78 (by rw [e2]; decide) wd_686 dX3_written_16) ?_
  refine fc (ok_callI hB e3 e4 Eno_m trivial (fun av9 σ9 Q9 h9 => e1 ▸ s_X2_init i av9 σ9 Q9 h9) lk_X3_84 (by rw [e2]; decide) rfl (by decide) wd_698 dX3_written_19) ?_
  refine fc (ok_aret hB (Or.inl ⟨_, rfl⟩) dX3_written_22) ?_
  exact fn


def w_X3_written (i : Int) : WP := fun av σ Q => av = [(19, 9)] ∧ ((0 ≤ i ∧ i < 4) ∧ nl σ (100 + 3 * i) ∧ nl σ (101 + 3 * i) ∧ nl σ (102 + 3 * i) ∧ 0 ≤ σ 9 2 ∧ σ 9 2 ≤ 240 ∧ Q (18, 100 + 3 * i) (wnM σ i))
theorem w_X3_written_e (i : Int)  (σ : Mem) (Q : AV → Mem → Prop) : w_X3_written i [(19, 9)] σ Q = ((0 ≤ i ∧ i < 4) ∧ nl σ (100 + 3 * i) ∧ nl σ (101 + 3 * i) ∧ nl σ (102 + 3 * i) ∧ 0 ≤ σ 9 2 ∧ σ 9 2 ≤ 240 ∧ Q (18, 100 + 3 * i) (wnM σ i)) := by
  apply propext; constructor
  · rintro ⟨h9, hb9⟩; cases h9; exact hb9
  · intro hb9; exact ⟨rfl, hb9⟩

set_option maxRecDepth 100000 in
set_option maxHeartbeats 4000000 in
theorem s_X3_written (i : Int) : ∀ av σ Q, w_X3_written i av σ Q → amCallE Eno 2 3 290 ((TL i)) yX3_written cX3_written 1 (some (.object "ArmchairHouse$Law")) av σ Q := by
  rintro av σ Q ⟨rfl, hi, n0, n1, n2, z0, z1, h⟩
  have em : (if 0 < σ 9 2 then σ 9 2 else 0) = σ 9 2 := by split <;> omega
  unfold wnM at h
  have h4 : i = 0 ∨ i = 1 ∨ i = 2 ∨ i = 3 := by omega
  rcases h4 with rfl | rfl | rfl | rfl
  · simp only [Int.reduceMul, Int.reduceAdd] at h n0 n1 n2
    refine am_methodE (own := RX3) (A := look (a_X3_written 0)) (fun X e1 e2 e3 e4 h5 hE hB => o_X3_written 0 e1 e2 e3 e4 h5 hE hB) rfl (by decide +kernel) rfl rfl 53 (w := 3) ?_
    change vcs _ _ _ _ 53 0 [(19, 9), (6, 0), (6, 0)] [] σ
    simp only [vNew_e, vNewA_e, vCallI_e0, vCallI_e1, vCallI_e2, vCallI_e3, vCallMA_e0, vCallMA_e1, vCallSA_e2, vObj_e, cnt_e, List.length_cons, List.length_nil, Nat.zero_add, Nat.reduceAdd, Nat.reduceLT, Int.reduceAdd, Nat.reduceLeDiff, ↓reduceIte, vSw2_e, swP_n, swP_c, vI_e, vL_e, vNull_e, vIload_e, vLload_e, vAload_e, vIstore_e, vLstore_e, vAstore_e, vIinc_e, vIadd_e, vIsub_e, vImul_e, vIand_e, vIor_e, vIxor_e, vIshl_e, vIshr_e, vIushr_e, vIdiv_e, vIrem_e, vLadd_e, vLsub_e, vLmul_e, vLand_e, vLor_e, vLxor_e, vLdiv_e, vLrem_e, vLushr_e, vLshl_e, vLcmp_e, vIneg_e, vI2l_e, vL2i_e, vI2b_e, vI2c_e, vDup_e, vPop_e, vDup2_e, vGoto_e, vIcEq_e, vIfEq_e, vIcNe_e, vIfNe_e, vIcLt_e, vIfLt_e, vIcGe_e, vIfGe_e, vIcGt_e, vIfGt_e, vIcLe_e, vIfLe_e, vNonnull_e, vSw_e, vGetI_e, vGetL_e, vGetR_e, vPutI_e, vPutZ_e, vPutL_e, vPutR_e, vIald_e, vIald_s, vLald_e, vBald_e, vBald_s, vAald_e, vIast_e, vLast_e, vBast_e, vAast_e, vAlen_e8, vAlen_e9, vAlen_e10, vAlen_e11, vAlen_e5, vAlen_e3, vGets_e, vCompact_e, vLdcS_e, vIret_e, vZret_e, vCret_e, vBret_e, vLret_e, vVret_e, vAret_e, vCallM_e0, vCallMV_e0, vCallS_e0, vCallSV_e0, vCallM_e1, vCallMV_e1, vCallS_e1, vCallSV_e1, vCallM_e2, vCallMV_e2, vCallS_e2, vCallSV_e2, vCallM_e3, vCallMV_e3, vCallS_e3, vCallSV_e3, vCallM_e4, vCallMV_e4, vCallS_e4, vCallSV_e4, vCallM_e5, vCallMV_e5, vCallS_e5, vCallSV_e5, vCallM_e6, vCallMV_e6, vCallS_e6, vCallSV_e6, vCallM_e7, vCallMV_e7, vCallS_e7, vCallSV_e7, vBad_e, vStrVal_e, vStrCod_e, vForm_e, vCallT_e0, vCallT_e1, vCallT_e2, vCopy_e, rf_0_0, rf_0_1, rf_0_2, rf_0_3, rf_0_4, rf_0_7, rf_0_10, rf_0_11, rf_0_12, rf_0_13, rf_0_14, rf_0_15, rf_0_16, rf_1_0, rf_3_0, rf_3_1, rf_6_0, rf_6_1, rf_9_0, rf_9_1, rf_9_3, rf_13_0, rf_13_1, rf_13_2, rf_16_0, rf_16_1, rf_16_2, rf_16_3, rf_21_0, rf_21_1, rf_21_2, rf_21_3, rf_26_0, rf_26_1, rf_26_2, rf_26_3, rf_26_4, rf_26_5, rf_26_6, rf_31_0, rf_31_2, rf_31_5, rf_31_6, rf_36_0, rf_36_1, rf_36_2, rf_36_3, rf_39_0, rf_39_1, rf_39_2, rf_41_0, rf_41_1, rf_41_2, rf_41_3, rf_5000_1, rf_5000_2, rf_5000_3, rf_5000_4, rf_5000_5, rf_5000_15, rf_5000_16, rf_5000_18, rf_5000_19, rf_5000_20, rf_5000_21, rf_5000_22, rf_5000_23, rf_5000_24, rf_5000_25, rf_5000_26, rf_5000_27, rf_5000_36, rf_5000_37, rf_5000_40, rf_5000_41, rf_5000_42, rf_5000_43, rf_5000_44, rf_5000_45, rf_5000_47, rf_5000_52, rf_5000_54, rf_5000_55, rf_100_0, rf_100_1, rf_103_0, rf_103_1, rf_106_0, rf_106_1, rf_109_0, rf_109_1, al_2, al_4, al_5, al_7, al_8, al_10, al_11, al_12, al_14, al_15, al_17, al_18, al_19, al_20, al_22, al_23, al_24, al_25, al_27, al_28, al_29, al_30, al_32, al_33, al_34, al_35, al_37, al_38, al_40, al_42, al_5001, al_5002, al_5003, al_5004, al_5005, al_5006, al_5007, al_5008, al_5009, al_5010, al_5011, al_5012, al_5013, al_5014, al_5015, al_5016, al_5017, al_5018, al_5019, al_5020, al_5021, al_5022, al_5023, al_5024, al_5025, al_5026, al_9000, al_101, al_102, al_104, al_105, al_107, al_108, al_110, al_111, vcs_e, lg_c0, lg_cs, lg_nil, set_c0, set_cs, okst_0, okst_s, acok_n, acok_c, List.contains_nil, List.contains_cons, Bool.or_false, Bool.false_or, Bool.false_eq_true, if_false, if_true, ite_self, ne_eq, true_and, and_true, not_false_eq_true, not_true_eq_false, false_imp_iff, true_imp_iff, Nat.ble_eq, Bool.and_eq_true, reduceCtorEq, or_false, false_or, or_true, true_or, false_and, and_false, and_self, Int.reduceLE, Int.reduceAdd, Int.reduceSub, Int.reduceMul, Int.reduceNeg, Int.reduceLT, Int.reduceEq, Int.reduceNe, Nat.reduceBEq, Nat.reduceBNe, Nat.reduceEqDiff, amCmp_in, amCmp_lt, amCmp_le, amCmp_gt, amCmp_ge, amCmp_eq, amCmp_ne, Nat.reduceLeDiff, Nat.reduceSub, Bool.and_true, Bool.true_and, Bool.and_self, Bool.or_true, Bool.true_or, isRf_3, isRf_4, isRf_5, isRf_8, isRf_9, isRf_10, isRf_11, isRf_15, isRf_16, isRf_17, isRf_18, isRf_19, isRf_20, isRf_21, isRf_22, isRf_23, isRf_24, isRf_25, isRf_26, isRf_27, isRf_28, k_X3_written_0, k_X3_written_3, k_X3_written_4, k_X3_written_5, k_X3_written_8, k_X3_written_9, k_X3_written_10, k_X3_written_13, k_X3_written_16, k_X3_written_19, k_X3_written_22, w_J7_copyOf_59c91_e, w_J9_max_7cf53_e, w_X2_init_e, up_s, up_nj, up_na, up_up, savR_o, cpy_o, fillm_o, setAud_o, setv_o, setv_s, Int.reduceNe, Int.reduceEq, Int.reduceLT, Int.reduceAdd, not_false_eq_true, ne_eq, or_true, true_or, em, Int.reduceMul, nl_newm, nl_up, nl_cpy, noL_0, naC_0, alL_0, rfL_0, newm_k, newm_s, Int.reduceLE]
    repeat' (first | assumption | apply And.intro | intro _)
    all_goals first | omega | exact rfl | exact Or.inl rfl | exact Or.inr rfl | decide
  · simp only [Int.reduceMul, Int.reduceAdd] at h n0 n1 n2
    refine am_methodE (own := RX3) (A := look (a_X3_written 1)) (fun X e1 e2 e3 e4 h5 hE hB => o_X3_written 1 e1 e2 e3 e4 h5 hE hB) rfl (by decide +kernel) rfl rfl 53 (w := 3) ?_
    change vcs _ _ _ _ 53 0 [(19, 9), (6, 0), (6, 0)] [] σ
    simp only [vNew_e, vNewA_e, vCallI_e0, vCallI_e1, vCallI_e2, vCallI_e3, vCallMA_e0, vCallMA_e1, vCallSA_e2, vObj_e, cnt_e, List.length_cons, List.length_nil, Nat.zero_add, Nat.reduceAdd, Nat.reduceLT, Int.reduceAdd, Nat.reduceLeDiff, ↓reduceIte, vSw2_e, swP_n, swP_c, vI_e, vL_e, vNull_e, vIload_e, vLload_e, vAload_e, vIstore_e, vLstore_e, vAstore_e, vIinc_e, vIadd_e, vIsub_e, vImul_e, vIand_e, vIor_e, vIxor_e, vIshl_e, vIshr_e, vIushr_e, vIdiv_e, vIrem_e, vLadd_e, vLsub_e, vLmul_e, vLand_e, vLor_e, vLxor_e, vLdiv_e, vLrem_e, vLushr_e, vLshl_e, vLcmp_e, vIneg_e, vI2l_e, vL2i_e, vI2b_e, vI2c_e, vDup_e, vPop_e, vDup2_e, vGoto_e, vIcEq_e, vIfEq_e, vIcNe_e, vIfNe_e, vIcLt_e, vIfLt_e, vIcGe_e, vIfGe_e, vIcGt_e, vIfGt_e, vIcLe_e, vIfLe_e, vNonnull_e, vSw_e, vGetI_e, vGetL_e, vGetR_e, vPutI_e, vPutZ_e, vPutL_e, vPutR_e, vIald_e, vIald_s, vLald_e, vBald_e, vBald_s, vAald_e, vIast_e, vLast_e, vBast_e, vAast_e, vAlen_e8, vAlen_e9, vAlen_e10, vAlen_e11, vAlen_e5, vAlen_e3, vGets_e, vCompact_e, vLdcS_e, vIret_e, vZret_e, vCret_e, vBret_e, vLret_e, vVret_e, vAret_e, vCallM_e0, vCallMV_e0, vCallS_e0, vCallSV_e0, vCallM_e1, vCallMV_e1, vCallS_e1, vCallSV_e1, vCallM_e2, vCallMV_e2, vCallS_e2, vCallSV_e2, vCallM_e3, vCallMV_e3, vCallS_e3, vCallSV_e3, vCallM_e4, vCallMV_e4, vCallS_e4, vCallSV_e4, vCallM_e5, vCallMV_e5, vCallS_e5, vCallSV_e5, vCallM_e6, vCallMV_e6, vCallS_e6, vCallSV_e6, vCallM_e7, vCallMV_e7, vCallS_e7, vCallSV_e7, vBad_e, vStrVal_e, vStrCod_e, vForm_e, vCallT_e0, vCallT_e1, vCallT_e2, vCopy_e, rf_0_0, rf_0_1, rf_0_2, rf_0_3, rf_0_4, rf_0_7, rf_0_10, rf_0_11, rf_0_12, rf_0_13, rf_0_14, rf_0_15, rf_0_16, rf_1_0, rf_3_0, rf_3_1, rf_6_0, rf_6_1, rf_9_0, rf_9_1, rf_9_3, rf_13_0, rf_13_1, rf_13_2, rf_16_0, rf_16_1, rf_16_2, rf_16_3, rf_21_0, rf_21_1, rf_21_2, rf_21_3, rf_26_0, rf_26_1, rf_26_2, rf_26_3, rf_26_4, rf_26_5, rf_26_6, rf_31_0, rf_31_2, rf_31_5, rf_31_6, rf_36_0, rf_36_1, rf_36_2, rf_36_3, rf_39_0, rf_39_1, rf_39_2, rf_41_0, rf_41_1, rf_41_2, rf_41_3, rf_5000_1, rf_5000_2, rf_5000_3, rf_5000_4, rf_5000_5, rf_5000_15, rf_5000_16, rf_5000_18, rf_5000_19, rf_5000_20, rf_5000_21, rf_5000_22, rf_5000_23, rf_5000_24, rf_5000_25, rf_5000_26, rf_5000_27, rf_5000_36, rf_5000_37, rf_5000_40, rf_5000_41, rf_5000_42, rf_5000_43, rf_5000_44, rf_5000_45, rf_5000_47, rf_5000_52, rf_5000_54, rf_5000_55, rf_100_0, rf_100_1, rf_103_0, rf_103_1, rf_106_0, rf_106_1, rf_109_0, rf_109_1, al_2, al_4, al_5, al_7, al_8, al_10, al_11, al_12, al_14, al_15, al_17, al_18, al_19, al_20, al_22, al_23, al_24, al_25, al_27, al_28, al_29, al_30, al_32, al_33, al_34, al_35, al_37, al_38, al_40, al_42, al_5001, al_5002, al_5003, al_5004, al_5005, al_5006, al_5007, al_5008, al_5009, al_5010, al_5011, al_5012, al_5013, al_5014, al_5015, al_5016, al_5017, al_5018, al_5019, al_5020, al_5021, al_5022, al_5023, al_5024, al_5025, al_5026, al_9000, al_101, al_102, al_104, al_105, al_107, al_108, al_110, al_111, vcs_e, lg_c0, lg_cs, lg_nil, set_c0, set_cs, okst_0, okst_s, acok_n, acok_c, List.contains_nil, List.contains_cons, Bool.or_false, Bool.false_or, Bool.false_eq_true, if_false, if_true, ite_self, ne_eq, true_and, and_true, not_false_eq_true, not_true_eq_false, false_imp_iff, true_imp_iff, Nat.ble_eq, Bool.and_eq_true, reduceCtorEq, or_false, false_or, or_true, true_or, false_and, and_false, and_self, Int.reduceLE, Int.reduceAdd, Int.reduceSub, Int.reduceMul, Int.reduceNeg, Int.reduceLT, Int.reduceEq, Int.reduceNe, Nat.reduceBEq, Nat.reduceBNe, Nat.reduceEqDiff, amCmp_in, amCmp_lt, amCmp_le, amCmp_gt, amCmp_ge, amCmp_eq, amCmp_ne, Nat.reduceLeDiff, Nat.reduceSub, Bool.and_true, Bool.true_and, Bool.and_self, Bool.or_true, Bool.true_or, isRf_3, isRf_4, isRf_5, isRf_8, isRf_9, isRf_10, isRf_11, isRf_15, isRf_16, isRf_17, isRf_18, isRf_19, isRf_20, isRf_21, isRf_22, isRf_23, isRf_24, isRf_25, isRf_26, isRf_27, isRf_28, k_X3_written_0, k_X3_written_3, k_X3_written_4, k_X3_written_5, k_X3_written_8, k_X3_written_9, k_X3_written_10, k_X3_written_13, k_X3_written_16, k_X3_written_19, k_X3_written_22, w_J7_copyOf_59c91_e, w_J9_max_7cf53_e, w_X2_init_e, up_s, up_nj, up_na, up_up, savR_o, cpy_o, fillm_o, setAud_o, setv_o, setv_s, Int.reduceNe, Int.reduceEq, Int.reduceLT, Int.reduceAdd, not_false_eq_true, ne_eq, or_true, true_or, em, Int.reduceMul, nl_newm, nl_up, nl_cpy, noL_1, naC_1, alL_1, rfL_1, newm_k, newm_s, Int.reduceLE]
    repeat' (first | assumption | apply And.intro | intro _)
    all_goals first | omega | exact rfl | exact Or.inl rfl | exact Or.inr rfl | decide
  · simp only [Int.reduceMul, Int.reduceAdd] at h n0 n1 n2
    refine am_methodE (own := RX3) (A := look (a_X3_written 2)) (fun X e1 e2 e3 e4 h5 hE hB => o_X3_written 2 e1 e2 e3 e4 h5 hE hB) rfl (by decide +kernel) rfl rfl 53 (w := 3) ?_
    change vcs _ _ _ _ 53 0 [(19, 9), (6, 0), (6, 0)] [] σ
    simp only [vNew_e, vNewA_e, vCallI_e0, vCallI_e1, vCallI_e2, vCallI_e3, vCallMA_e0, vCallMA_e1, vCallSA_e2, vObj_e, cnt_e, List.length_cons, List.length_nil, Nat.zero_add, Nat.reduceAdd, Nat.reduceLT, Int.reduceAdd, Nat.reduceLeDiff, ↓reduceIte, vSw2_e, swP_n, swP_c, vI_e, vL_e, vNull_e, vIload_e, vLload_e, vAload_e, vIstore_e, vLstore_e, vAstore_e, vIinc_e, vIadd_e, vIsub_e, vImul_e, vIand_e, vIor_e, vIxor_e, vIshl_e, vIshr_e, vIushr_e, vIdiv_e, vIrem_e, vLadd_e, vLsub_e, vLmul_e, vLand_e, vLor_e, vLxor_e, vLdiv_e, vLrem_e, vLushr_e, vLshl_e, vLcmp_e, vIneg_e, vI2l_e, vL2i_e, vI2b_e, vI2c_e, vDup_e, vPop_e, vDup2_e, vGoto_e, vIcEq_e, vIfEq_e, vIcNe_e, vIfNe_e, vIcLt_e, vIfLt_e, vIcGe_e, vIfGe_e, vIcGt_e, vIfGt_e, vIcLe_e, vIfLe_e, vNonnull_e, vSw_e, vGetI_e, vGetL_e, vGetR_e, vPutI_e, vPutZ_e, vPutL_e, vPutR_e, vIald_e, vIald_s, vLald_e, vBald_e, vBald_s, vAald_e, vIast_e, vLast_e, vBast_e, vAast_e, vAlen_e8, vAlen_e9, vAlen_e10, vAlen_e11, vAlen_e5, vAlen_e3, vGets_e, vCompact_e, vLdcS_e, vIret_e, vZret_e, vCret_e, vBret_e, vLret_e, vVret_e, vAret_e, vCallM_e0, vCallMV_e0, vCallS_e0, vCallSV_e0, vCallM_e1, vCallMV_e1, vCallS_e1, vCallSV_e1, vCallM_e2, vCallMV_e2, vCallS_e2, vCallSV_e2, vCallM_e3, vCallMV_e3, vCallS_e3, vCallSV_e3, vCallM_e4, vCallMV_e4, vCallS_e4, vCallSV_e4, vCallM_e5, vCallMV_e5, vCallS_e5, vCallSV_e5, vCallM_e6, vCallMV_e6, vCallS_e6, vCallSV_e6, vCallM_e7, vCallMV_e7, vCallS_e7, vCallSV_e7, vBad_e, vStrVal_e, vStrCod_e, vForm_e, vCallT_e0, vCallT_e1, vCallT_e2, vCopy_e, rf_0_0, rf_0_1, rf_0_2, rf_0_3, rf_0_4, rf_0_7, rf_0_10, rf_0_11, rf_0_12, rf_0_13, rf_0_14, rf_0_15, rf_0_16, rf_1_0, rf_3_0, rf_3_1, rf_6_0, rf_6_1, rf_9_0, rf_9_1, rf_9_3, rf_13_0, rf_13_1, rf_13_2, rf_16_0, rf_16_1, rf_16_2, rf_16_3, rf_21_0, rf_21_1, rf_21_2, rf_21_3, rf_26_0, rf_26_1, rf_26_2, rf_26_3, rf_26_4, rf_26_5, rf_26_6, rf_31_0, rf_31_2, rf_31_5, rf_31_6, rf_36_0, rf_36_1, rf_36_2, rf_36_3, rf_39_0, rf_39_1, rf_39_2, rf_41_0, rf_41_1, rf_41_2, rf_41_3, rf_5000_1, rf_5000_2, rf_5000_3, rf_5000_4, rf_5000_5, rf_5000_15, rf_5000_16, rf_5000_18, rf_5000_19, rf_5000_20, rf_5000_21, rf_5000_22, rf_5000_23, rf_5000_24, rf_5000_25, rf_5000_26, rf_5000_27, rf_5000_36, rf_5000_37, rf_5000_40, rf_5000_41, rf_5000_42, rf_5000_43, rf_5000_44, rf_5000_45, rf_5000_47, rf_5000_52, rf_5000_54, rf_5000_55, rf_100_0, rf_100_1, rf_103_0, rf_103_1, rf_106_0, rf_106_1, rf_109_0, rf_109_1, al_2, al_4, al_5, al_7, al_8, al_10, al_11, al_12, al_14, al_15, al_17, al_18, al_19, al_20, al_22, al_23, al_24, al_25, al_27, al_28, al_29, al_30, al_32, al_33, al_34, al_35, al_37, al_38, al_40, al_42, al_5001, al_5002, al_5003, al_5004, al_5005, al_5006, al_5007, al_5008, al_5009, al_5010, al_5011, al_5012, al_5013, al_5014, al_5015, al_5016, al_5017, al_5018, al_5019, al_5020, al_5021, al_5022, al_5023, al_5024, al_5025, al_5026, al_9000, al_101, al_102, al_104, al_105, al_107, al_108, al_110, al_111, vcs_e, lg_c0, lg_cs, lg_nil, set_c0, set_cs, okst_0, okst_s, acok_n, acok_c, List.contains_nil, List.contains_cons, Bool.or_false, Bool.false_or, Bool.false_eq_true, if_false, if_true, ite_self, ne_eq, true_and, and_true, not_false_eq_true, not_true_eq_false, false_imp_iff, true_imp_iff, Nat.ble_eq, Bool.and_eq_true, reduceCtorEq, or_false, false_or, or_true, true_or, false_and, and_false, and_self, Int.reduceLE, Int.reduceAdd, Int.reduceSub, Int.reduceMul, Int.reduceNeg, Int.reduceLT, Int.reduceEq, Int.reduceNe, Nat.reduceBEq, Nat.reduceBNe, Nat.reduceEqDiff, amCmp_in, amCmp_lt, amCmp_le, amCmp_gt, amCmp_ge, amCmp_eq, amCmp_ne, Nat.reduceLeDiff, Nat.reduceSub, Bool.and_true, Bool.true_and, Bool.and_self, Bool.or_true, Bool.true_or, isRf_3, isRf_4, isRf_5, isRf_8, isRf_9, isRf_10, isRf_11, isRf_15, isRf_16, isRf_17, isRf_18, isRf_19, isRf_20, isRf_21, isRf_22, isRf_23, isRf_24, isRf_25, isRf_26, isRf_27, isRf_28, k_X3_written_0, k_X3_written_3, k_X3_written_4, k_X3_written_5, k_X3_written_8, k_X3_written_9, k_X3_written_10, k_X3_written_13, k_X3_written_16, k_X3_written_19, k_X3_written_22, w_J7_copyOf_59c91_e, w_J9_max_7cf53_e, w_X2_init_e, up_s, up_nj, up_na, up_up, savR_o, cpy_o, fillm_o, setAud_o, setv_o, setv_s, Int.reduceNe, Int.reduceEq, Int.reduceLT, Int.reduceAdd, not_false_eq_true, ne_eq, or_true, true_or, em, Int.reduceMul, nl_newm, nl_up, nl_cpy, noL_2, naC_2, alL_2, rfL_2, newm_k, newm_s, Int.reduceLE]
    repeat' (first | assumption | apply And.intro | intro _)
    all_goals first | omega | exact rfl | exact Or.inl rfl | exact Or.inr rfl | decide
  · simp only [Int.reduceMul, Int.reduceAdd] at h n0 n1 n2
    refine am_methodE (own := RX3) (A := look (a_X3_written 3)) (fun X e1 e2 e3 e4 h5 hE hB => o_X3_written 3 e1 e2 e3 e4 h5 hE hB) rfl (by decide +kernel) rfl rfl 53 (w := 3) ?_
    change vcs _ _ _ _ 53 0 [(19, 9), (6, 0), (6, 0)] [] σ
    simp only [vNew_e, vNewA_e, vCallI_e0, vCallI_e1, vCallI_e2, vCallI_e3, vCallMA_e0, vCallMA_e1, vCallSA_e2, vObj_e, cnt_e, List.length_cons, List.length_nil, Nat.zero_add, Nat.reduceAdd, Nat.reduceLT, Int.reduceAdd, Nat.reduceLeDiff, ↓reduceIte, vSw2_e, swP_n, swP_c, vI_e, vL_e, vNull_e, vIload_e, vLload_e, vAload_e, vIstore_e, vLstore_e, vAstore_e, vIinc_e, vIadd_e, vIsub_e, vImul_e, vIand_e, vIor_e, vIxor_e, vIshl_e, vIshr_e, vIushr_e, vIdiv_e, vIrem_e, vLadd_e, vLsub_e, vLmul_e, vLand_e, vLor_e, vLxor_e, vLdiv_e, vLrem_e, vLushr_e, vLshl_e, vLcmp_e, vIneg_e, vI2l_e, vL2i_e, vI2b_e, vI2c_e, vDup_e, vPop_e, vDup2_e, vGoto_e, vIcEq_e, vIfEq_e, vIcNe_e, vIfNe_e, vIcLt_e, vIfLt_e, vIcGe_e, vIfGe_e, vIcGt_e, vIfGt_e, vIcLe_e, vIfLe_e, vNonnull_e, vSw_e, vGetI_e, vGetL_e, vGetR_e, vPutI_e, vPutZ_e, vPutL_e, vPutR_e, vIald_e, vIald_s, vLald_e, vBald_e, vBald_s, vAald_e, vIast_e, vLast_e, vBast_e, vAast_e, vAlen_e8, vAlen_e9, vAlen_e10, vAlen_e11, vAlen_e5, vAlen_e3, vGets_e, vCompact_e, vLdcS_e, vIret_e, vZret_e, vCret_e, vBret_e, vLret_e, vVret_e, vAret_e, vCallM_e0, vCallMV_e0, vCallS_e0, vCallSV_e0, vCallM_e1, vCallMV_e1, vCallS_e1, vCallSV_e1, vCallM_e2, vCallMV_e2, vCallS_e2, vCallSV_e2, vCallM_e3, vCallMV_e3, vCallS_e3, vCallSV_e3, vCallM_e4, vCallMV_e4, vCallS_e4, vCallSV_e4, vCallM_e5, vCallMV_e5, vCallS_e5, vCallSV_e5, vCallM_e6, vCallMV_e6, vCallS_e6, vCallSV_e6, vCallM_e7, vCallMV_e7, vCallS_e7, vCallSV_e7, vBad_e, vStrVal_e, vStrCod_e, vForm_e, vCallT_e0, vCallT_e1, vCallT_e2, vCopy_e, rf_0_0, rf_0_1, rf_0_2, rf_0_3, rf_0_4, rf_0_7, rf_0_10, rf_0_11, rf_0_12, rf_0_13, rf_0_14, rf_0_15, rf_0_16, rf_1_0, rf_3_0, rf_3_1, rf_6_0, rf_6_1, rf_9_0, rf_9_1, rf_9_3, rf_13_0, rf_13_1, rf_13_2, rf_16_0, rf_16_1, rf_16_2, rf_16_3, rf_21_0, rf_21_1, rf_21_2, rf_21_3, rf_26_0, rf_26_1, rf_26_2, rf_26_3, rf_26_4, rf_26_5, rf_26_6, rf_31_0, rf_31_2, rf_31_5, rf_31_6, rf_36_0, rf_36_1, rf_36_2, rf_36_3, rf_39_0, rf_39_1, rf_39_2, rf_41_0, rf_41_1, rf_41_2, rf_41_3, rf_5000_1, rf_5000_2, rf_5000_3, rf_5000_4, rf_5000_5, rf_5000_15, rf_5000_16, rf_5000_18, rf_5000_19, rf_5000_20, rf_5000_21, rf_5000_22, rf_5000_23, rf_5000_24, rf_5000_25, rf_5000_26, rf_5000_27, rf_5000_36, rf_5000_37, rf_5000_40, rf_5000_41, rf_5000_42, rf_5000_43, rf_5000_44, rf_5000_45, rf_5000_47, rf_5000_52, rf_5000_54, rf_5000_55, rf_100_0, rf_100_1, rf_103_0, rf_103_1, rf_106_0, rf_106_1, rf_109_0, rf_109_1, al_2, al_4, al_5, al_7, al_8, al_10, al_11, al_12, al_14, al_15, al_17, al_18, al_19, al_20, al_22, al_23, al_24, al_25, al_27, al_28, al_29, al_30, al_32, al_33, al_34, al_35, al_37, al_38, al_40, al_42, al_5001, al_5002, al_5003, al_5004, al_5005, al_5006, al_5007, al_5008, al_5009, al_5010, al_5011, al_5012, al_5013, al_5014, al_5015, al_5016, al_5017, al_5018, al_5019, al_5020, al_5021, al_5022, al_5023, al_5024, al_5025, al_5026, al_9000, al_101, al_102, al_104, al_105, al_107, al_108, al_110, al_111, vcs_e, lg_c0, lg_cs, lg_nil, set_c0, set_cs, okst_0, okst_s, acok_n, acok_c, List.contains_nil, List.contains_cons, Bool.or_false, Bool.false_or, Bool.false_eq_true, if_false, if_true, ite_self, ne_eq, true_and, and_true, not_false_eq_true, not_true_eq_false, false_imp_iff, true_imp_iff, Nat.ble_eq, Bool.and_eq_true, reduceCtorEq, or_false, false_or, or_true, true_or, false_and, and_false, and_self, Int.reduceLE, Int.reduceAdd, Int.reduceSub, Int.reduceMul, Int.reduceNeg, Int.reduceLT, Int.reduceEq, Int.reduceNe, Nat.reduceBEq, Nat.reduceBNe, Nat.reduceEqDiff, amCmp_in, amCmp_lt, amCmp_le, amCmp_gt, amCmp_ge, amCmp_eq, amCmp_ne, Nat.reduceLeDiff, Nat.reduceSub, Bool.and_true, Bool.true_and, Bool.and_self, Bool.or_true, Bool.true_or, isRf_3, isRf_4, isRf_5, isRf_8, isRf_9, isRf_10, isRf_11, isRf_15, isRf_16, isRf_17, isRf_18, isRf_19, isRf_20, isRf_21, isRf_22, isRf_23, isRf_24, isRf_25, isRf_26, isRf_27, isRf_28, k_X3_written_0, k_X3_written_3, k_X3_written_4, k_X3_written_5, k_X3_written_8, k_X3_written_9, k_X3_written_10, k_X3_written_13, k_X3_written_16, k_X3_written_19, k_X3_written_22, w_J7_copyOf_59c91_e, w_J9_max_7cf53_e, w_X2_init_e, up_s, up_nj, up_na, up_up, savR_o, cpy_o, fillm_o, setAud_o, setv_o, setv_s, Int.reduceNe, Int.reduceEq, Int.reduceLT, Int.reduceAdd, not_false_eq_true, ne_eq, or_true, true_or, em, Int.reduceMul, nl_newm, nl_up, nl_cpy, noL_3, naC_3, alL_3, rfL_3, newm_k, newm_s, Int.reduceLE]
    repeat' (first | assumption | apply And.intro | intro _)
    all_goals first | omega | exact rfl | exact Or.inl rfl | exact Or.inr rfl | decide
/-! kinds may be changed where the cells are the same -/
def skd (T T' : Int → Kd) (σ : Mem) (a : Int) : Prop := T a = T' a ∨ ∃ (c : Nat) (cr cr' : Nat → Option Int), T a = .inl (c, cr) ∧ T' a = .inl (c, cr') ∧ ∀ k : Nat, amF c k = 2 → (cr k).getD (σ a k) = (cr' k).getD (σ a k)
theorem okv_sw {T T' : Int → Kd} {σ : Mem} {v : AV} (ht : ∀ a, tg (T a) = tg (T' a)) (h : okv T σ v) : okv T' σ v :=
  ⟨fun h8 => (h.1 h8).elim Or.inl (fun q => Or.inr ⟨q.1, by rw [← ht]; exact q.2⟩), h.2⟩
theorem fv_cr {ρ : Int → Nat} {σ : Mem} {a : Int} {c k : Nat} {cr cr' : Nat → Option Int} (h : amF c k ≠ 2) : am_fv ρ σ a c cr k = am_fv ρ σ a c cr' k := by
  unfold am_fv
  generalize amF c k = m at h ⊢
  match m, h with
  | 0, _ => rfl
  | 1, _ => rfl
  | 2, h => exact absurd rfl h
  | m + 3, _ => rfl
theorem amW_sw {D : va_G} {ca : Nat → ClassId} {T T' : Int → Kd} {n0 : Nat} {ρ : Int → Nat} {σ : Mem} {H : Heap} (ht : ∀ a, tg (T a) = tg (T' a)) (hs : ∀ a, σ (-2) a = 1 → skd T T' σ a) (h : amW D ca T n0 ρ σ H) : amW D ca T' n0 ρ σ H := by
  obtain ⟨V, hnd, hV, hV0, hP, hD, hcl⟩ := h
  have e : am_ws ρ ca T σ V = am_ws ρ ca T' σ V := by
    unfold am_ws
    apply List.map_congr_left
    intro a ha
    have e1 : am_cell ρ ca σ a (T a) = am_cell ρ ca σ a (T' a) := by
      rcases hs a ((hV a).mp ha) with h | ⟨c, cr, cr', h1, h2, h3⟩
      · rw [h]
      · rw [h1, h2]
        show Sum.inr (c, (List.range (amN c)).map (am_fv ρ σ a c cr)) = Sum.inr (c, (List.range (amN c)).map (am_fv ρ σ a c cr'))
        congr 2
        apply List.map_congr_left
        intro k _
        by_cases hf : amF c k = 2
        · unfold am_fv
          rw [hf]
          show am_val ρ (8, _) = am_val ρ (8, _)
          rw [h3 k hf]
        · exact fv_cr hf
    rw [e1]
  refine ⟨V, hnd, hV, hV0, by rw [← e]; exact hP, by rw [← e]; exact hD, fun a ha => ?_⟩
  have hc := hcl a ha
  unfold am_closed at hc ⊢
  rcases hs a ((hV a).mp ha) with h | ⟨c, cr, cr', h1, h2, h3⟩
  · rw [← h]
    cases hT : T a with
    | inl x =>
      rw [hT] at hc
      intro k hk hf
      exact okv_sw ht (hc k hk hf)
    | inr x =>
      rw [hT] at hc
      intro h11 j hj
      exact okv_sw ht (hc h11 j hj)
  · rw [h1] at hc
    rw [h2]
    intro k hk hf
    have := hc k hk hf
    have h9 : okv T σ (amTag c k, (cr k).getD (σ a k)) := this
    rw [h3 k hf] at h9
    exact okv_sw ht h9
theorem call_sw {E : Nat → State → Prop} {d mc ms : Nat} {T T' : Int → Kd} {y : MethodName} {cc : ByteArray} {maxL : Nat} {ret : Option FieldType} {av : List AV} {σ0 : Mem} {Q Q' : AV → Mem → Prop} (ht : ∀ a, tg (T a) = tg (T' a)) (h0 : ∀ a, σ0 (-2) a = 1 → skd T' T σ0 a) (h1 : ∀ r τ, Q r τ → Q' r τ ∧ ∀ a, τ (-2) a = 1 → skd T T' τ a) (h : amCallE E d mc ms T y cc maxL ret av σ0 Q) : amCallE E d mc ms T' y cc maxL ret av σ0 Q' := by
  intro l D ca n0 ρ0
  refine Jvm.Free.MetFree.mono (h l D ca n0 ρ0) ?_ (fun _ _ _ _ _ h => h) ?_
  · rintro a s ⟨⟨e1, e2, hW, hK, hst, hok⟩, hE⟩
    exact ⟨⟨e1, e2, amW_sw (fun a => (ht a).symm) h0 hW, hK, hst, fun v hv => okv_sw (fun a => (ht a).symm) (hok v hv)⟩, hE⟩
  · rintro a s o t _ ⟨⟨⟨r, σ, ρ, e1, hq, hW, hok, hag⟩, hF⟩, hL⟩
    obtain ⟨hq', hs⟩ := h1 r σ hq
    exact ⟨⟨⟨r, σ, ρ, e1, hq', amW_sw ht hs hW, okv_sw ht hok, hag⟩, hF⟩, hL⟩
theorem wnM_0 (σ : Mem) (i : Int) : wnM σ i (100 + 3 * i) 0 = 101 + 3 * i := by unfold wnM; rw [up_s]
theorem wnM_1 (σ : Mem) (i : Int) : wnM σ i (100 + 3 * i) 1 = 102 + 3 * i := by unfold wnM; rw [up_nj _ (by decide), up_s]
theorem wnM_o (σ : Mem) {i b : Int} (h0 : b ≠ 100 + 3 * i) (h1 : b ≠ 101 + 3 * i) (h2 : b ≠ 102 + 3 * i) (hm : b ≠ -2) : wnM σ i b = σ b := by
  unfold wnM; rw [up_na _ h0, up_na _ h0, newm_o _ h2 hm, cpy_o _ h1, newm_o _ h1 hm, newm_o _ h0 hm]
def wWr : WP := fun av σ Q => av = [(19, 9)] ∧ ∃ i, (0 ≤ i ∧ i < 4) ∧ nl σ (100 + 3 * i) ∧ nl σ (101 + 3 * i) ∧ nl σ (102 + 3 * i) ∧ 0 ≤ σ 9 2 ∧ σ 9 2 ≤ 240 ∧ Q (18, 100 + 3 * i) (wnM σ i)
theorem wWr_e (σ : Mem) (Q : AV → Mem → Prop) : wWr [(19, 9)] σ Q = ∃ i, (0 ≤ i ∧ i < 4) ∧ nl σ (100 + 3 * i) ∧ nl σ (101 + 3 * i) ∧ nl σ (102 + 3 * i) ∧ 0 ≤ σ 9 2 ∧ σ 9 2 ≤ 240 ∧ Q (18, 100 + 3 * i) (wnM σ i) := by
  apply propext; constructor
  · rintro ⟨-, h⟩; exact h
  · intro h; exact ⟨rfl, h⟩
theorem s_Wr : ∀ av σ Q, wWr av σ Q → amCallE Eno 2 3 290 TT yX3_written cX3_written 1 (some (.object "ArmchairHouse$Law")) av σ Q := by
  rintro av σ Q ⟨rfl, i, hi, n0, n1, n2, z0, z1, h⟩
  refine call_sw (T := TL i) (Q := fun r τ => r = (18, 100 + 3 * i) ∧ τ = wnM σ i) (TL_tg hi) (fun a ha => Or.inl ?_) ?_ (s_X3_written i _ _ _ ?_)
  · unfold TL
    rw [if_neg (fun e : a = 100 + 3 * i => n0.2.2 (e ▸ ha))]
  · rintro r τ ⟨rfl, rfl⟩
    refine ⟨h, fun a ha => ?_⟩
    by_cases e : a = 100 + 3 * i
    · subst e
      refine Or.inr ⟨2, fun _ => none, fun k => if k = 0 then some (100 + 3 * i + 1) else if k = 1 then some (100 + 3 * i + 2) else none, by unfold TL; rw [if_pos rfl], ?_, fun k hf => ?_⟩
      · have h4 : i = 0 ∨ i = 1 ∨ i = 2 ∨ i = 3 := by omega
        rcases h4 with rfl | rfl | rfl | rfl <;> rfl
      · by_cases k0 : k = 0
        · subst k0
          show wnM σ i (100 + 3 * i) 0 = 100 + 3 * i + 1
          rw [wnM_0]; omega
        · by_cases k1 : k = 1
          · subst k1
            show wnM σ i (100 + 3 * i) 1 = 100 + 3 * i + 2
            rw [wnM_1]; omega
          · show _ = (if k = 0 then some (100 + 3 * i + 1) else if k = 1 then some (100 + 3 * i + 2) else none).getD _
            rw [if_neg k0, if_neg k1]
    · exact Or.inl (by unfold TL; rw [if_neg e])
  · rw [w_X3_written_e]
    exact ⟨hi, n0, n1, n2, z0, z1, rfl, rfl⟩
def tlM (τ : Mem) (i : Int) : Mem := up (up (up (wnM τ i) 12 i (100 + 3 * i)) 0 5 (i + 1)) 1 1 0
theorem wd_678 : Cond.methodLink RX11 157 yX3_written ∈ TBL := tb_tab (List.mem_of_getElem? (i := 678) (by decide +kernel)) rfl
theorem wd_681 : Cond.code yX3_written cX3_written 1 (some (.object "ArmchairHouse$Law")) ∈ TBL := tb_tab (List.mem_of_getElem? (i := 681) (by decide +kernel)) rfl
theorem lk_X11_157 : amLk RX11 157 yX3_written cX3_written 1 (some (.object "ArmchairHouse$Law")) 0 := ⟨wd_678, wd_4, wd_681, by decide +kernel, by decide +kernel, by decide⟩
theorem wd_679 : Cond.instanceMethod yX3_written ∈ TBL := tb_tab (List.mem_of_getElem? (i := 679) (by decide +kernel)) rfl
theorem wd_680 : Cond.selects RX3 yX3_written yX3_written ∈ TBL := tb_tab (List.mem_of_getElem? (i := 680) (by decide +kernel)) rfl
def a_X11_takeLaw  : AC := [(0, vAload 0 1), (1, vGetI 27 5 4), (4, vAload 0 5), (5, vGetR TT 27 4 11 8), (8, vAlen TT 9), (9, vIcGe 23 12), (12, vAload 0 13), (13, vGetR TT 27 3 19 16), (16, vCallM w_X3_read 19 0 19), (19, vI (-1) 20), (20, vIcEq 25 23), (23, vI (-1) 24), (24, vIret), (25, vAload 0 26), (26, vGetR TT 27 4 11 29), (29, vAload 0 30), (30, vGetI 27 5 33), (33, vAload 0 34), (34, vGetR TT 27 3 19 37), (37, vCallMA (wWr) 19 0 3 290 3 290 1 40), (40, vAast TT 41), (41, vAload 0 42), (42, vDup 43), (43, vGetI 27 5 46), (46, vI 1 47), (47, vIadd 48), (48, vPutI 27 5 51), (51, vAload 0 52), (52, vGetR TT 27 0 26 55), (55, vI 0 56), (56, vPutI 26 1 59), (59, vAload 0 60), (60, vGetI 27 5 63), (63, vI 1 64), (64, vIsub 65), (65, vIret)]
theorem k_X11_takeLaw_0  : look a_X11_takeLaw 0 = vAload 0 1 := rfl
theorem k_X11_takeLaw_1  : look a_X11_takeLaw 1 = vGetI 27 5 4 := rfl
theorem k_X11_takeLaw_4  : look a_X11_takeLaw 4 = vAload 0 5 := rfl
theorem k_X11_takeLaw_5  : look a_X11_takeLaw 5 = vGetR TT 27 4 11 8 := rfl
theorem k_X11_takeLaw_8  : look a_X11_takeLaw 8 = vAlen TT 9 := rfl
theorem k_X11_takeLaw_9  : look a_X11_takeLaw 9 = vIcGe 23 12 := rfl
theorem k_X11_takeLaw_12  : look a_X11_takeLaw 12 = vAload 0 13 := rfl
theorem k_X11_takeLaw_13  : look a_X11_takeLaw 13 = vGetR TT 27 3 19 16 := rfl
theorem k_X11_takeLaw_16  : look a_X11_takeLaw 16 = vCallM w_X3_read 19 0 19 := rfl
theorem k_X11_takeLaw_19  : look a_X11_takeLaw 19 = vI (-1) 20 := rfl
theorem k_X11_takeLaw_20  : look a_X11_takeLaw 20 = vIcEq 25 23 := rfl
theorem k_X11_takeLaw_23  : look a_X11_takeLaw 23 = vI (-1) 24 := rfl
theorem k_X11_takeLaw_24  : look a_X11_takeLaw 24 = vIret := rfl
theorem k_X11_takeLaw_25  : look a_X11_takeLaw 25 = vAload 0 26 := rfl
theorem k_X11_takeLaw_26  : look a_X11_takeLaw 26 = vGetR TT 27 4 11 29 := rfl
theorem k_X11_takeLaw_29  : look a_X11_takeLaw 29 = vAload 0 30 := rfl
theorem k_X11_takeLaw_30  : look a_X11_takeLaw 30 = vGetI 27 5 33 := rfl
theorem k_X11_takeLaw_33  : look a_X11_takeLaw 33 = vAload 0 34 := rfl
theorem k_X11_takeLaw_34  : look a_X11_takeLaw 34 = vGetR TT 27 3 19 37 := rfl
theorem k_X11_takeLaw_37  : look a_X11_takeLaw 37 = vCallMA (wWr) 19 0 3 290 3 290 1 40 := rfl
theorem k_X11_takeLaw_40  : look a_X11_takeLaw 40 = vAast TT 41 := rfl
theorem k_X11_takeLaw_41  : look a_X11_takeLaw 41 = vAload 0 42 := rfl
theorem k_X11_takeLaw_42  : look a_X11_takeLaw 42 = vDup 43 := rfl
theorem k_X11_takeLaw_43  : look a_X11_takeLaw 43 = vGetI 27 5 46 := rfl
theorem k_X11_takeLaw_46  : look a_X11_takeLaw 46 = vI 1 47 := rfl
theorem k_X11_takeLaw_47  : look a_X11_takeLaw 47 = vIadd 48 := rfl
theorem k_X11_takeLaw_48  : look a_X11_takeLaw 48 = vPutI 27 5 51 := rfl
theorem k_X11_takeLaw_51  : look a_X11_takeLaw 51 = vAload 0 52 := rfl
theorem k_X11_takeLaw_52  : look a_X11_takeLaw 52 = vGetR TT 27 0 26 55 := rfl
theorem k_X11_takeLaw_55  : look a_X11_takeLaw 55 = vI 0 56 := rfl
theorem k_X11_takeLaw_56  : look a_X11_takeLaw 56 = vPutI 26 1 59 := rfl
theorem k_X11_takeLaw_59  : look a_X11_takeLaw 59 = vAload 0 60 := rfl
theorem k_X11_takeLaw_60  : look a_X11_takeLaw 60 = vGetI 27 5 63 := rfl
theorem k_X11_takeLaw_63  : look a_X11_takeLaw 63 = vI 1 64 := rfl
theorem k_X11_takeLaw_64  : look a_X11_takeLaw 64 = vIsub 65 := rfl
theorem k_X11_takeLaw_65  : look a_X11_takeLaw 65 = vIret := rfl
theorem o_X11_takeLaw {X : amX}  (e1 : XT X = TT) (e2 : XD X = 8) (e3 : XC X = 3) (e4 : XS X = 290) (hin : (XM X).name = "takeLaw") (hE : Eno (Xn X) (Xst X)) (hB : amB X RX11 cX11_takeLaw (some .int) 1) : ∀ pc, amOK X pc (look a_X11_takeLaw pc) := by
  have hT : amTok (XT X) := e1 ▸ TT_ok
  refine look_ok ?_
  unfold a_X11_takeLaw
  refine fc (ok_aload_n hB dX11_takeLaw_0) ?_
  refine fc (ok_getI hB hT fl_X11_41 rfl rfl (Or.inl af_11_5) dX11_takeLaw_1) ?_
  refine fc (ok_aload_n hB dX11_takeLaw_4) ?_
  refine fc (okt_getR e1 hB hT fl_X11_37 rfl af_11_4 at_11_4 (by decide) dX11_takeLaw_5) ?_
  refine fc (okt_arraylength e1 hB dX11_takeLaw_8) ?_
  refine fc (ok_icmp_ge hB (t := 23) (by decide) dX11_takeLaw_9) ?_
  refine fc (ok_aload_n hB dX11_takeLaw_12) ?_
  refine fc (okt_getR e1 hB hT fl_X11_31 rfl af_11_3 at_11_3 (by decide) dX11_takeLaw_13) ?_
  refine fc (ok_callM hB hT (e1 ▸ s_X3_read) lk_X11_128 (by rw [e2]; decide) (c := 3) rfl rfl rfl wd_569 wd_570 dX11_takeLaw_16) ?_
  refine fc (ok_iconst hB dX11_takeLaw_19) ?_
  refine fc (ok_icmp_eq hB (t := 25) (by decide) dX11_takeLaw_20) ?_
  refine fc (ok_iconst hB dX11_takeLaw_23) ?_
  refine fc (ok_iret hB dX11_takeLaw_24) ?_
  refine fc (ok_aload_n hB dX11_takeLaw_25) ?_
  refine fc (okt_getR e1 hB hT fl_X11_37 rfl af_11_4 at_11_4 (by decide) dX11_takeLaw_26) ?_
  refine fc (ok_aload_n hB dX11_takeLaw_29) ?_
  refine fc (ok_getI hB hT fl_X11_41 rfl rfl (Or.inl af_11_5) dX11_takeLaw_30) ?_
  refine fc (ok_aload_n hB dX11_takeLaw_33) ?_
  refine fc (okt_getR e1 hB hT fl_X11_31 rfl af_11_3 at_11_3 (by decide) dX11_takeLaw_34) ?_
  refine fc (ok_callMA hB e3 e4 Eno_m trivial (fun av9 σ9 Q9 h9 => e1 ▸ s_Wr av9 σ9 Q9 h9) hT lk_X11_157 (by rw [e2]; decide) (c := 3) rfl rfl rfl wd_679 wd_680 dX11_takeLaw_37) ?_
  refine fc (okt_aastore e1 hB hT dX11_takeLaw_40) ?_
  refine fc (ok_aload_n hB dX11_takeLaw_41) ?_
  refine fc (ok_dup hB dX11_takeLaw_42) ?_
  refine fc (ok_getI hB hT fl_X11_41 rfl rfl (Or.inl af_11_5) dX11_takeLaw_43) ?_
  refine fc (ok_iconst hB dX11_takeLaw_46) ?_
  refine fc (ok_iadd hB dX11_takeLaw_47) ?_
  refine fc (ok_putI hB hT fp_X11_41 rfl rfl rfl af_11_5 dX11_takeLaw_48) ?_
  refine fc (ok_aload_n hB dX11_takeLaw_51) ?_
  refine fc (okt_getR e1 hB hT fl_X11_10 rfl af_11_0 at_11_0 (by decide) dX11_takeLaw_52) ?_
  refine fc (ok_iconst hB dX11_takeLaw_55) ?_
  refine fc (ok_putI hB hT fp_X11_117 rfl rfl rfl af_10_1 dX11_takeLaw_56) ?_
  refine fc (ok_aload_n hB dX11_takeLaw_59) ?_
  refine fc (ok_getI hB hT fl_X11_41 rfl rfl (Or.inl af_11_5) dX11_takeLaw_60) ?_
  refine fc (ok_iconst hB dX11_takeLaw_63) ?_
  refine fc (ok_isub hB dX11_takeLaw_64) ?_
  refine fc (ok_iret hB dX11_takeLaw_65) ?_
  exact fn


def w_X11_takeLaw : WP := fun av σ Q => av = [(27, 0)] ∧ (tapeOk σ ∧ 0 ≤ σ 0 5 ∧ σ 0 5 ≤ 4 ∧ (σ 0 5 = 4 → Q (0, -1) σ) ∧ (σ 0 5 < 4 → (∀ τ q, RdX σ τ q → gLw (tsg σ) (σ 1 1) 241 0 = .inl q → InR q ∧ q ≠ -1 ∧ Q (0, -1) τ) ∧ (∀ τ q K, RdX σ τ q → gLw (tsg σ) (σ 1 1) 241 0 = .inr K → τ 9 2 = (kcd K []).length → (kcd K []).length ≤ 240 → lst (τ 10) 0 (kcd K []) → nl τ (100 + 3 * σ 0 5) ∧ nl τ (101 + 3 * σ 0 5) ∧ nl τ (102 + 3 * σ 0 5) ∧ Q (0, σ 0 5) (tlM τ (σ 0 5)))))
theorem w_X11_takeLaw_e  (σ : Mem) (Q : AV → Mem → Prop) : w_X11_takeLaw [(27, 0)] σ Q = (tapeOk σ ∧ 0 ≤ σ 0 5 ∧ σ 0 5 ≤ 4 ∧ (σ 0 5 = 4 → Q (0, -1) σ) ∧ (σ 0 5 < 4 → (∀ τ q, RdX σ τ q → gLw (tsg σ) (σ 1 1) 241 0 = .inl q → InR q ∧ q ≠ -1 ∧ Q (0, -1) τ) ∧ (∀ τ q K, RdX σ τ q → gLw (tsg σ) (σ 1 1) 241 0 = .inr K → τ 9 2 = (kcd K []).length → (kcd K []).length ≤ 240 → lst (τ 10) 0 (kcd K []) → nl τ (100 + 3 * σ 0 5) ∧ nl τ (101 + 3 * σ 0 5) ∧ nl τ (102 + 3 * σ 0 5) ∧ Q (0, σ 0 5) (tlM τ (σ 0 5))))) := by
  apply propext; constructor
  · rintro ⟨h9, hb9⟩; cases h9; exact hb9
  · intro hb9; exact ⟨rfl, hb9⟩

set_option maxRecDepth 100000 in
set_option maxHeartbeats 4000000 in
theorem s_X11_takeLaw  : ∀ av σ Q, w_X11_takeLaw  av σ Q → amCallE Eno 8 3 290 TT yX11_takeLaw cX11_takeLaw 1 (some .int) av σ Q := by
  rintro av σ Q ⟨rfl, ht, l0, l4, h1, h2⟩
  have rx : ∀ τ q, RdX σ τ q → τ 0 = σ 0 := fun τ q a => a.1 0 (by decide) (by decide) (by decide) (by decide)
  have w0 : ∀ τ, wnM τ (σ 0 5) 0 = τ 0 := fun τ => wnM_o τ (by omega) (by omega) (by omega) (by decide)
  have w12 : ∀ τ, wnM τ (σ 0 5) 12 = τ 12 := fun τ => wnM_o τ (by omega) (by omega) (by omega) (by decide)
  refine am_methodE (own := RX11) (A := look a_X11_takeLaw) (fun X e1 e2 e3 e4 h5 hE hB => o_X11_takeLaw  e1 e2 e3 e4 h5 hE hB) rfl (by decide +kernel) rfl rfl 128 (w := 3) ?_
  change vcs _ _ _ _ 128 0 [(27, 0), (6, 0), (6, 0)] [] σ
  simp only [vNew_e, vNewA_e, vCallI_e0, vCallI_e1, vCallI_e2, vCallI_e3, vCallMA_e0, vCallMA_e1, vCallSA_e2, vObj_e, cnt_e, List.length_cons, List.length_nil, Nat.zero_add, Nat.reduceAdd, Nat.reduceLT, Int.reduceAdd, Nat.reduceLeDiff, ↓reduceIte, vSw2_e, swP_n, swP_c, vI_e, vL_e, vNull_e, vIload_e, vLload_e, vAload_e, vIstore_e, vLstore_e, vAstore_e, vIinc_e, vIadd_e, vIsub_e, vImul_e, vIand_e, vIor_e, vIxor_e, vIshl_e, vIshr_e, vIushr_e, vIdiv_e, vIrem_e, vLadd_e, vLsub_e, vLmul_e, vLand_e, vLor_e, vLxor_e, vLdiv_e, vLrem_e, vLushr_e, vLshl_e, vLcmp_e, vIneg_e, vI2l_e, vL2i_e, vI2b_e, vI2c_e, vDup_e, vPop_e, vDup2_e, vGoto_e, vIcEq_e, vIfEq_e, vIcNe_e, vIfNe_e, vIcLt_e, vIfLt_e, vIcGe_e, vIfGe_e, vIcGt_e, vIfGt_e, vIcLe_e, vIfLe_e, vNonnull_e, vSw_e, vGetI_e, vGetL_e, vGetR_e, vPutI_e, vPutZ_e, vPutL_e, vPutR_e, vIald_e, vIald_s, vLald_e, vBald_e, vBald_s, vAald_e, vIast_e, vLast_e, vBast_e, vAast_e, vAlen_e8, vAlen_e9, vAlen_e10, vAlen_e11, vAlen_e5, vAlen_e3, vGets_e, vCompact_e, vLdcS_e, vIret_e, vZret_e, vCret_e, vBret_e, vLret_e, vVret_e, vAret_e, vCallM_e0, vCallMV_e0, vCallS_e0, vCallSV_e0, vCallM_e1, vCallMV_e1, vCallS_e1, vCallSV_e1, vCallM_e2, vCallMV_e2, vCallS_e2, vCallSV_e2, vCallM_e3, vCallMV_e3, vCallS_e3, vCallSV_e3, vCallM_e4, vCallMV_e4, vCallS_e4, vCallSV_e4, vCallM_e5, vCallMV_e5, vCallS_e5, vCallSV_e5, vCallM_e6, vCallMV_e6, vCallS_e6, vCallSV_e6, vCallM_e7, vCallMV_e7, vCallS_e7, vCallSV_e7, vBad_e, vStrVal_e, vStrCod_e, vForm_e, vCallT_e0, vCallT_e1, vCallT_e2, vCopy_e, rf_0_0, rf_0_1, rf_0_2, rf_0_3, rf_0_4, rf_0_7, rf_0_10, rf_0_11, rf_0_12, rf_0_13, rf_0_14, rf_0_15, rf_0_16, rf_1_0, rf_3_0, rf_3_1, rf_6_0, rf_6_1, rf_9_0, rf_9_1, rf_9_3, rf_13_0, rf_13_1, rf_13_2, rf_16_0, rf_16_1, rf_16_2, rf_16_3, rf_21_0, rf_21_1, rf_21_2, rf_21_3, rf_26_0, rf_26_1, rf_26_2, rf_26_3, rf_26_4, rf_26_5, rf_26_6, rf_31_0, rf_31_2, rf_31_5, rf_31_6, rf_36_0, rf_36_1, rf_36_2, rf_36_3, rf_39_0, rf_39_1, rf_39_2, rf_41_0, rf_41_1, rf_41_2, rf_41_3, rf_5000_1, rf_5000_2, rf_5000_3, rf_5000_4, rf_5000_5, rf_5000_15, rf_5000_16, rf_5000_18, rf_5000_19, rf_5000_20, rf_5000_21, rf_5000_22, rf_5000_23, rf_5000_24, rf_5000_25, rf_5000_26, rf_5000_27, rf_5000_36, rf_5000_37, rf_5000_40, rf_5000_41, rf_5000_42, rf_5000_43, rf_5000_44, rf_5000_45, rf_5000_47, rf_5000_52, rf_5000_54, rf_5000_55, rf_100_0, rf_100_1, rf_103_0, rf_103_1, rf_106_0, rf_106_1, rf_109_0, rf_109_1, al_2, al_4, al_5, al_7, al_8, al_10, al_11, al_12, al_14, al_15, al_17, al_18, al_19, al_20, al_22, al_23, al_24, al_25, al_27, al_28, al_29, al_30, al_32, al_33, al_34, al_35, al_37, al_38, al_40, al_42, al_5001, al_5002, al_5003, al_5004, al_5005, al_5006, al_5007, al_5008, al_5009, al_5010, al_5011, al_5012, al_5013, al_5014, al_5015, al_5016, al_5017, al_5018, al_5019, al_5020, al_5021, al_5022, al_5023, al_5024, al_5025, al_5026, al_9000, al_101, al_102, al_104, al_105, al_107, al_108, al_110, al_111, vcs_e, lg_c0, lg_cs, lg_nil, set_c0, set_cs, okst_0, okst_s, acok_n, acok_c, List.contains_nil, List.contains_cons, Bool.or_false, Bool.false_or, Bool.false_eq_true, if_false, if_true, ite_self, ne_eq, true_and, and_true, not_false_eq_true, not_true_eq_false, false_imp_iff, true_imp_iff, Nat.ble_eq, Bool.and_eq_true, reduceCtorEq, or_false, false_or, or_true, true_or, false_and, and_false, and_self, Int.reduceLE, Int.reduceAdd, Int.reduceSub, Int.reduceMul, Int.reduceNeg, Int.reduceLT, Int.reduceEq, Int.reduceNe, Nat.reduceBEq, Nat.reduceBNe, Nat.reduceEqDiff, amCmp_in, amCmp_lt, amCmp_le, amCmp_gt, amCmp_ge, amCmp_eq, amCmp_ne, Nat.reduceLeDiff, Nat.reduceSub, Bool.and_true, Bool.true_and, Bool.and_self, Bool.or_true, Bool.true_or, isRf_3, isRf_4, isRf_5, isRf_8, isRf_9, isRf_10, isRf_11, isRf_15, isRf_16, isRf_17, isRf_18, isRf_19, isRf_20, isRf_21, isRf_22, isRf_23, isRf_24, isRf_25, isRf_26, isRf_27, isRf_28, k_X11_takeLaw_0, k_X11_takeLaw_1, k_X11_takeLaw_4, k_X11_takeLaw_5, k_X11_takeLaw_8, k_X11_takeLaw_9, k_X11_takeLaw_12, k_X11_takeLaw_13, k_X11_takeLaw_16, k_X11_takeLaw_19, k_X11_takeLaw_20, k_X11_takeLaw_23, k_X11_takeLaw_24, k_X11_takeLaw_25, k_X11_takeLaw_26, k_X11_takeLaw_29, k_X11_takeLaw_30, k_X11_takeLaw_33, k_X11_takeLaw_34, k_X11_takeLaw_37, k_X11_takeLaw_40, k_X11_takeLaw_41, k_X11_takeLaw_42, k_X11_takeLaw_43, k_X11_takeLaw_46, k_X11_takeLaw_47, k_X11_takeLaw_48, k_X11_takeLaw_51, k_X11_takeLaw_52, k_X11_takeLaw_55, k_X11_takeLaw_56, k_X11_takeLaw_59, k_X11_takeLaw_60, k_X11_takeLaw_63, k_X11_takeLaw_64, k_X11_takeLaw_65, w_X3_read_e, w_X3_written_e, up_s, up_nj, up_na, up_up, savR_o, cpy_o, fillm_o, setAud_o, setv_o, setv_s, Int.reduceNe, Int.reduceEq, Int.reduceLT, Int.reduceAdd, not_false_eq_true, ne_eq, or_true, true_or, wWr_e]
  by_cases c4 : σ 0 5 = 4
  · have q8 := h1 c4
    repeat' (first | assumption | apply And.intro | intro _)
    all_goals first | omega | exact absurd trivial (by assumption) | decide
  · obtain ⟨h3, h5⟩ := h2 (by omega)
    have fin : ∀ τ q K, RdX σ τ q → gLw (tsg σ) (σ 1 1) 241 0 = .inr K → τ 9 2 = (kcd K []).length → (kcd K []).length ≤ 240 → lst (τ 10) 0 (kcd K []) → Q (0, σ 0 5) (up (up (up (wnM τ (σ 0 5)) 12 (σ 0 5) (100 + 3 * σ 0 5)) 0 5 (σ 0 5 + 1)) 1 1 0) ∧ nl τ (100 + 3 * σ 0 5) ∧ nl τ (101 + 3 * σ 0 5) ∧ nl τ (102 + 3 * σ 0 5) := fun τ q K a b c d e => by
      have := h5 τ q K a b c d e
      exact ⟨this.2.2.2, this.1, this.2.1, this.2.2.1⟩
    repeat' (first | assumption | apply And.intro | intro _)
    all_goals first | omega | exact absurd trivial (by assumption) | exact (h3 _ _ (by assumption) (by assumption)).1.1 | exact (h3 _ _ (by assumption) (by assumption)).1.2 | exact (h3 _ _ (by assumption) (by assumption)).2.2 | exact absurd (by assumption) (h3 _ _ (by assumption) (by assumption)).2.1 | skip
    all_goals (refine ⟨σ 0 5, ?_⟩)
    all_goals (have f9 := fin _ _ _ (by assumption) (by assumption) (by assumption) (by assumption) (by assumption); have r9 := rx _ _ (by assumption); simp only [w0, w12, r9, Int.add_sub_cancel] at f9 ⊢)
    all_goals (obtain ⟨fq, fn0, fn1, fn2⟩ := f9)
    all_goals repeat' (first | assumption | apply And.intro | intro _)
    all_goals first | omega | exact fq | decide
theorem wd_653 : Cond.methodLink RX11 132 yX11_takeHouse ∈ TBL := tb_tab (List.mem_of_getElem? (i := 653) (by decide +kernel)) rfl
theorem wd_656 : Cond.code yX11_takeHouse cX11_takeHouse 1 (some .int) ∈ TBL := tb_tab (List.mem_of_getElem? (i := 656) (by decide +kernel)) rfl
theorem lk_X11_132 : amLk RX11 132 yX11_takeHouse cX11_takeHouse 1 (some .int) 0 := ⟨wd_653, wd_1, wd_656, by decide +kernel, by decide +kernel, by decide⟩
theorem wd_655 : Cond.instanceMethod yX11_takeHouse ∈ TBL := tb_tab (List.mem_of_getElem? (i := 655) (by decide +kernel)) rfl
theorem sl_X11_takeHouse : Cond.selects RX11 yX11_takeHouse yX11_takeHouse ∈ TBL := tb_sel (List.mem_of_getElem? (i := 19) (by decide +kernel)) rfl
theorem wd_674 : Cond.methodLink RX11 135 yX11_takeLaw ∈ TBL := tb_tab (List.mem_of_getElem? (i := 674) (by decide +kernel)) rfl
theorem wd_677 : Cond.code yX11_takeLaw cX11_takeLaw 1 (some .int) ∈ TBL := tb_tab (List.mem_of_getElem? (i := 677) (by decide +kernel)) rfl
theorem lk_X11_135 : amLk RX11 135 yX11_takeLaw cX11_takeLaw 1 (some .int) 0 := ⟨wd_674, wd_1, wd_677, by decide +kernel, by decide +kernel, by decide⟩
theorem wd_676 : Cond.instanceMethod yX11_takeLaw ∈ TBL := tb_tab (List.mem_of_getElem? (i := 676) (by decide +kernel)) rfl
theorem sl_X11_takeLaw : Cond.selects RX11 yX11_takeLaw yX11_takeLaw ∈ TBL := tb_sel (List.mem_of_getElem? (i := 20) (by decide +kernel)) rfl
theorem wd_708 : Cond.methodLink RX11 138 yX11_takeSeason ∈ TBL := tb_tab (List.mem_of_getElem? (i := 708) (by decide +kernel)) rfl
theorem wd_711 : Cond.code yX11_takeSeason cX11_takeSeason 1 (some .int) ∈ TBL := tb_tab (List.mem_of_getElem? (i := 711) (by decide +kernel)) rfl
theorem lk_X11_138 : amLk RX11 138 yX11_takeSeason cX11_takeSeason 1 (some .int) 0 := ⟨wd_708, wd_1, wd_711, by decide +kernel, by decide +kernel, by decide⟩
theorem wd_710 : Cond.instanceMethod yX11_takeSeason ∈ TBL := tb_tab (List.mem_of_getElem? (i := 710) (by decide +kernel)) rfl
theorem sl_X11_takeSeason : Cond.selects RX11 yX11_takeSeason yX11_takeSeason ∈ TBL := tb_sel (List.mem_of_getElem? (i := 21) (by decide +kernel)) rfl
def a_X11_text  : AC := [(0, vIload 1 1), (1, vSw2 [(0, 28), (1, 33), (2, 38)] 43), (28, vAload 0 29), (29, vCallM w_X11_takeHouse 27 0 32), (32, vIret), (33, vAload 0 34), (34, vCallMA (w_X11_takeLaw) 27 0 3 290 3 290 2 37), (37, vIret), (38, vAload 0 39), (39, vCallM w_X11_takeSeason 27 0 42), (42, vIret), (43, vI (-1) 44), (44, vIret)]
theorem k_X11_text_0  : look a_X11_text 0 = vIload 1 1 := rfl
theorem k_X11_text_1  : look a_X11_text 1 = vSw2 [(0, 28), (1, 33), (2, 38)] 43 := rfl
theorem k_X11_text_28  : look a_X11_text 28 = vAload 0 29 := rfl
theorem k_X11_text_29  : look a_X11_text 29 = vCallM w_X11_takeHouse 27 0 32 := rfl
theorem k_X11_text_32  : look a_X11_text 32 = vIret := rfl
theorem k_X11_text_33  : look a_X11_text 33 = vAload 0 34 := rfl
theorem k_X11_text_34  : look a_X11_text 34 = vCallMA (w_X11_takeLaw) 27 0 3 290 3 290 2 37 := rfl
theorem k_X11_text_37  : look a_X11_text 37 = vIret := rfl
theorem k_X11_text_38  : look a_X11_text 38 = vAload 0 39 := rfl
theorem k_X11_text_39  : look a_X11_text 39 = vCallM w_X11_takeSeason 27 0 42 := rfl
theorem k_X11_text_42  : look a_X11_text 42 = vIret := rfl
theorem k_X11_text_43  : look a_X11_text 43 = vI (-1) 44 := rfl
theorem k_X11_text_44  : look a_X11_text 44 = vIret := rfl
theorem o_X11_text {X : amX}  (e1 : XT X = TT) (e2 : XD X = 9) (e3 : XC X = 3) (e4 : XS X = 290) (hin : (XM X).name = "text") (hE : Eno (Xn X) (Xst X)) (hB : amB X RX11 cX11_text (some .int) 2) : ∀ pc, amOK X pc (look a_X11_text pc) := by
  have hT : amTok (XT X) := e1 ▸ TT_ok
  refine look_ok ?_
  unfold a_X11_text
  refine fc (ok_iload_n hB dX11_text_0) ?_
  refine fc (ok_sw2 (by decide) (ok_tableswitch hB [(0, 28), (1, 33), (2, 38)] dX11_text_1 (by decide) (by decide) (by decide) (by decide))) ?_
  refine fc (ok_aload_n hB dX11_text_28) ?_
  refine fc (ok_callM hB hT (e1 ▸ s_X11_takeHouse) lk_X11_132 (by rw [e2]; decide) (c := 11) rfl rfl rfl wd_655 sl_X11_takeHouse dX11_text_29) ?_
  refine fc (ok_iret hB dX11_text_32) ?_
  refine fc (ok_aload_n hB dX11_text_33) ?_
  refine fc (ok_callMA hB e3 e4 Eno_m trivial (fun av9 σ9 Q9 h9 => e1 ▸ s_X11_takeLaw av9 σ9 Q9 h9) hT lk_X11_135 (by rw [e2]; decide) (c := 11) rfl rfl rfl wd_676 sl_X11_takeLaw dX11_text_34) ?_
  refine fc (ok_iret hB dX11_text_37) ?_
  refine fc (ok_aload_n hB dX11_text_38) ?_
  refine fc (ok_callM hB hT (e1 ▸ s_X11_takeSeason) lk_X11_138 (by rw [e2]; decide) (c := 11) rfl rfl rfl wd_710 sl_X11_takeSeason dX11_text_39) ?_
  refine fc (ok_iret hB dX11_text_42) ?_
  refine fc (ok_iconst hB dX11_text_43) ?_
  refine fc (ok_iret hB dX11_text_44) ?_
  exact fn


def w_X11_text : WP := fun av σ Q => ∃ (w : Int), av = [(27, 0), (0, w)] ∧ (InR w ∧ (w < 0 ∨ 2 < w → Q (0, -1) σ) ∧ (w = 0 → w_X11_takeHouse [(27, 0)] σ Q) ∧ (w = 1 → w_X11_takeLaw [(27, 0)] σ Q) ∧ (w = 2 → w_X11_takeSeason [(27, 0)] σ Q))
theorem w_X11_text_e (w : Int) (σ : Mem) (Q : AV → Mem → Prop) : w_X11_text [(27, 0), (0, w)] σ Q = (InR w ∧ (w < 0 ∨ 2 < w → Q (0, -1) σ) ∧ (w = 0 → w_X11_takeHouse [(27, 0)] σ Q) ∧ (w = 1 → w_X11_takeLaw [(27, 0)] σ Q) ∧ (w = 2 → w_X11_takeSeason [(27, 0)] σ Q)) := by
  apply propext; constructor
  · rintro ⟨w', h9, hb9⟩; cases h9; exact hb9
  · intro hb9; exact ⟨w, rfl, hb9⟩

set_option maxRecDepth 100000 in
set_option maxHeartbeats 4000000 in
theorem s_X11_text  : ∀ av σ Q, w_X11_text  av σ Q → amCallE Eno 9 3 290 TT yX11_text cX11_text 2 (some .int) av σ Q := by
  rintro av σ Q ⟨w, rfl, hw, h1, h2, h3, h4⟩
  simp only [w_X11_takeHouse_e, w_X11_takeLaw_e, w_X11_takeSeason_e] at h2 h3 h4
  refine am_methodE (own := RX11) (A := look a_X11_text) (fun X e1 e2 e3 e4 h5 hE hB => o_X11_text  e1 e2 e3 e4 h5 hE hB) rfl (by decide +kernel) rfl rfl 59 (w := 4) ?_
  change vcs _ _ _ _ 59 0 [(27, 0), (0, w), (6, 0), (6, 0)] [] σ
  simp only [vNew_e, vNewA_e, vCallI_e0, vCallI_e1, vCallI_e2, vCallI_e3, vCallMA_e0, vCallMA_e1, vCallSA_e2, vObj_e, cnt_e, List.length_cons, List.length_nil, Nat.zero_add, Nat.reduceAdd, Nat.reduceLT, Int.reduceAdd, Nat.reduceLeDiff, ↓reduceIte, vSw2_e, swP_n, swP_c, vI_e, vL_e, vNull_e, vIload_e, vLload_e, vAload_e, vIstore_e, vLstore_e, vAstore_e, vIinc_e, vIadd_e, vIsub_e, vImul_e, vIand_e, vIor_e, vIxor_e, vIshl_e, vIshr_e, vIushr_e, vIdiv_e, vIrem_e, vLadd_e, vLsub_e, vLmul_e, vLand_e, vLor_e, vLxor_e, vLdiv_e, vLrem_e, vLushr_e, vLshl_e, vLcmp_e, vIneg_e, vI2l_e, vL2i_e, vI2b_e, vI2c_e, vDup_e, vPop_e, vDup2_e, vGoto_e, vIcEq_e, vIfEq_e, vIcNe_e, vIfNe_e, vIcLt_e, vIfLt_e, vIcGe_e, vIfGe_e, vIcGt_e, vIfGt_e, vIcLe_e, vIfLe_e, vNonnull_e, vSw_e, vGetI_e, vGetL_e, vGetR_e, vPutI_e, vPutZ_e, vPutL_e, vPutR_e, vIald_e, vIald_s, vLald_e, vBald_e, vBald_s, vAald_e, vIast_e, vLast_e, vBast_e, vAast_e, vAlen_e8, vAlen_e9, vAlen_e10, vAlen_e11, vAlen_e5, vAlen_e3, vGets_e, vCompact_e, vLdcS_e, vIret_e, vZret_e, vCret_e, vBret_e, vLret_e, vVret_e, vAret_e, vCallM_e0, vCallMV_e0, vCallS_e0, vCallSV_e0, vCallM_e1, vCallMV_e1, vCallS_e1, vCallSV_e1, vCallM_e2, vCallMV_e2, vCallS_e2, vCallSV_e2, vCallM_e3, vCallMV_e3, vCallS_e3, vCallSV_e3, vCallM_e4, vCallMV_e4, vCallS_e4, vCallSV_e4, vCallM_e5, vCallMV_e5, vCallS_e5, vCallSV_e5, vCallM_e6, vCallMV_e6, vCallS_e6, vCallSV_e6, vCallM_e7, vCallMV_e7, vCallS_e7, vCallSV_e7, vBad_e, vStrVal_e, vStrCod_e, vForm_e, vCallT_e0, vCallT_e1, vCallT_e2, vCopy_e, rf_0_0, rf_0_1, rf_0_2, rf_0_3, rf_0_4, rf_0_7, rf_0_10, rf_0_11, rf_0_12, rf_0_13, rf_0_14, rf_0_15, rf_0_16, rf_1_0, rf_3_0, rf_3_1, rf_6_0, rf_6_1, rf_9_0, rf_9_1, rf_9_3, rf_13_0, rf_13_1, rf_13_2, rf_16_0, rf_16_1, rf_16_2, rf_16_3, rf_21_0, rf_21_1, rf_21_2, rf_21_3, rf_26_0, rf_26_1, rf_26_2, rf_26_3, rf_26_4, rf_26_5, rf_26_6, rf_31_0, rf_31_2, rf_31_5, rf_31_6, rf_36_0, rf_36_1, rf_36_2, rf_36_3, rf_39_0, rf_39_1, rf_39_2, rf_41_0, rf_41_1, rf_41_2, rf_41_3, rf_5000_1, rf_5000_2, rf_5000_3, rf_5000_4, rf_5000_5, rf_5000_15, rf_5000_16, rf_5000_18, rf_5000_19, rf_5000_20, rf_5000_21, rf_5000_22, rf_5000_23, rf_5000_24, rf_5000_25, rf_5000_26, rf_5000_27, rf_5000_36, rf_5000_37, rf_5000_40, rf_5000_41, rf_5000_42, rf_5000_43, rf_5000_44, rf_5000_45, rf_5000_47, rf_5000_52, rf_5000_54, rf_5000_55, rf_100_0, rf_100_1, rf_103_0, rf_103_1, rf_106_0, rf_106_1, rf_109_0, rf_109_1, al_2, al_4, al_5, al_7, al_8, al_10, al_11, al_12, al_14, al_15, al_17, al_18, al_19, al_20, al_22, al_23, al_24, al_25, al_27, al_28, al_29, al_30, al_32, al_33, al_34, al_35, al_37, al_38, al_40, al_42, al_5001, al_5002, al_5003, al_5004, al_5005, al_5006, al_5007, al_5008, al_5009, al_5010, al_5011, al_5012, al_5013, al_5014, al_5015, al_5016, al_5017, al_5018, al_5019, al_5020, al_5021, al_5022, al_5023, al_5024, al_5025, al_5026, al_9000, al_101, al_102, al_104, al_105, al_107, al_108, al_110, al_111, vcs_e, lg_c0, lg_cs, lg_nil, set_c0, set_cs, okst_0, okst_s, acok_n, acok_c, List.contains_nil, List.contains_cons, Bool.or_false, Bool.false_or, Bool.false_eq_true, if_false, if_true, ite_self, ne_eq, true_and, and_true, not_false_eq_true, not_true_eq_false, false_imp_iff, true_imp_iff, Nat.ble_eq, Bool.and_eq_true, reduceCtorEq, or_false, false_or, or_true, true_or, false_and, and_false, and_self, Int.reduceLE, Int.reduceAdd, Int.reduceSub, Int.reduceMul, Int.reduceNeg, Int.reduceLT, Int.reduceEq, Int.reduceNe, Nat.reduceBEq, Nat.reduceBNe, Nat.reduceEqDiff, amCmp_in, amCmp_lt, amCmp_le, amCmp_gt, amCmp_ge, amCmp_eq, amCmp_ne, Nat.reduceLeDiff, Nat.reduceSub, Bool.and_true, Bool.true_and, Bool.and_self, Bool.or_true, Bool.true_or, isRf_3, isRf_4, isRf_5, isRf_8, isRf_9, isRf_10, isRf_11, isRf_15, isRf_16, isRf_17, isRf_18, isRf_19, isRf_20, isRf_21, isRf_22, isRf_23, isRf_24, isRf_25, isRf_26, isRf_27, isRf_28, k_X11_text_0, k_X11_text_1, k_X11_text_28, k_X11_text_29, k_X11_text_32, k_X11_text_33, k_X11_text_34, k_X11_text_37, k_X11_text_38, k_X11_text_39, k_X11_text_42, k_X11_text_43, k_X11_text_44, w_X11_takeHouse_e, w_X11_takeLaw_e, w_X11_takeSeason_e, up_s, up_nj, up_na, up_up, savR_o, cpy_o, fillm_o, setAud_o, setv_o, setv_s, Int.reduceNe, Int.reduceEq, Int.reduceLT, Int.reduceAdd, not_false_eq_true, ne_eq, or_true, true_or]
  by_cases c0 : w = 0
  · obtain ⟨a1, a2, a3, a4, a5⟩ := h2 c0
    repeat' (first | assumption | apply And.intro | intro _)
    all_goals first | omega | exact absurd trivial (by assumption) | exact a4 (by assumption) | exact a5 (by assumption)
  by_cases c1 : w = 1
  · obtain ⟨a1, a2, a3, a4, a5⟩ := h3 c1
    repeat' (first | assumption | apply And.intro | intro _)
    all_goals first | omega | exact absurd trivial (by assumption) | exact a4 (by assumption) | exact ((a5 (by assumption)).1 _ _ (by assumption) (by assumption)).1 | exact ((a5 (by assumption)).1 _ _ (by assumption) (by assumption)).1.1 | exact ((a5 (by assumption)).1 _ _ (by assumption) (by assumption)).1.2 | exact ((a5 (by assumption)).1 _ _ (by assumption) (by assumption)).2.1 | exact absurd (by assumption) ((a5 (by assumption)).1 _ _ (by assumption) (by assumption)).2.1 | exact ((a5 (by assumption)).1 _ _ (by assumption) (by assumption)).2.2 | exact ((a5 (by assumption)).2 _ _ _ (by assumption) (by assumption) (by assumption) (by assumption) (by assumption)).1 | exact ((a5 (by assumption)).2 _ _ _ (by assumption) (by assumption) (by assumption) (by assumption) (by assumption)).2.1 | exact ((a5 (by assumption)).2 _ _ _ (by assumption) (by assumption) (by assumption) (by assumption) (by assumption)).2.2.1 | exact ((a5 (by assumption)).2 _ _ _ (by assumption) (by assumption) (by assumption) (by assumption) (by assumption)).2.2.2
  by_cases c2 : w = 2
  · obtain ⟨a1, a2, a3, a4, a5, a6⟩ := h4 c2
    repeat' (first | assumption | apply And.intro | intro _)
    all_goals first | omega | exact absurd trivial (by assumption) | exact a4.1 | exact a4.2 | exact a5 (by assumption) | exact (a6 (by assumption) _ _ (by assumption)).1 (by assumption) | exact (a6 (by assumption) _ _ (by assumption)).2 (by assumption)
  · repeat' (first | assumption | apply And.intro | intro _)
    all_goals first | omega | exact absurd trivial (by assumption) | exact h1 (by omega)
