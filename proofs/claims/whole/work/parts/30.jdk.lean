/-! small helpers for evaluation, and the JDK's little methods -/
theorem lg_c0 (v : AV) (l : List AV) : lg (v :: l) 0 = v := rfl
theorem lg_cs (v : AV) (l : List AV) (i : Nat) : lg (v :: l) (i + 1) = lg l i := rfl
theorem lg_nil (i : Nat) : lg [] i = (6, 0) := rfl
theorem set_c0 (v w : AV) (l : List AV) : (v :: l).set 0 w = w :: l := rfl
theorem set_cs (v w : AV) (l : List AV) (i : Nat) : (v :: l).set (i + 1) w = v :: l.set i w := rfl
theorem okst_0 (l : List AV) : okst l 0 = true := rfl
theorem okst_s (l : List AV) (i : Nat) : okst l (i + 1) = ((lg l i).1 != 1) := rfl
theorem isRf_3 : isRf 3 = true := rfl
theorem isRf_4 : isRf 4 = true := rfl
theorem isRf_5 : isRf 5 = true := rfl
theorem isRf_8 : isRf 8 = true := rfl
theorem isRf_9 : isRf 9 = true := rfl
theorem isRf_10 : isRf 10 = true := rfl
theorem isRf_11 : isRf 11 = true := rfl
theorem isRf_15 : isRf 15 = true := rfl
theorem isRf_16 : isRf 16 = true := rfl
theorem isRf_17 : isRf 17 = true := rfl
theorem isRf_18 : isRf 18 = true := rfl
theorem isRf_19 : isRf 19 = true := rfl
theorem isRf_20 : isRf 20 = true := rfl
theorem isRf_21 : isRf 21 = true := rfl
theorem isRf_22 : isRf 22 = true := rfl
theorem isRf_23 : isRf 23 = true := rfl
theorem isRf_24 : isRf 24 = true := rfl
theorem isRf_25 : isRf 25 = true := rfl
theorem isRf_26 : isRf 26 = true := rfl
theorem isRf_27 : isRf 27 = true := rfl
theorem isRf_28 : isRf 28 = true := rfl
theorem acok_n (n : Nat) : acok [] n = true := rfl
theorem acok_c (v : AV) (l : List AV) (n : Nat) : acok (v :: l) n = ((v.1 != 6) && ((v.1 != 7) && (if v.1 == 1 then (Nat.ble 2 n && acok l (n - 2)) else (Nat.ble 1 n && acok l (n - 1))))) := rfl

theorem amCmp_in (a b : Int) : InR (amCmp a b) = True := by
  apply eq_true; unfold amCmp; split <;> (try split) <;> decide
theorem amCmp_lt (a b : Int) : (amCmp a b < 0) = (a < b) := by
  apply propext; unfold amCmp; split <;> (try split) <;> omega
theorem amCmp_le (a b : Int) : (amCmp a b ≤ 0) = (a ≤ b) := by
  apply propext; unfold amCmp; split <;> (try split) <;> omega
theorem amCmp_gt (a b : Int) : (0 < amCmp a b) = (b < a) := by
  apply propext; unfold amCmp; split <;> (try split) <;> omega
theorem amCmp_ge (a b : Int) : (0 ≤ amCmp a b) = (b ≤ a) := by
  apply propext; unfold amCmp; split <;> (try split) <;> omega
theorem amCmp_eq (a b : Int) : (amCmp a b = 0) = (a = b) := by
  apply propext; unfold amCmp; split <;> (try split) <;> omega
theorem amCmp_ne (a b : Int) : (amCmp a b ≠ 0) = (a ≠ b) := by
  apply propext; unfold amCmp; split <;> (try split) <;> omega

def a_J9_max_7cf53 : AC := [(0, vIload 0 1), (1, vIload 1 2), (2, vIcLt 9 5), (5, vIload 0 6), (6, vGoto 10), (9, vIload 1 10), (10, vIret)]
theorem k_J9_max_7cf53_0 : look a_J9_max_7cf53 0 = vIload 0 1 := rfl
theorem k_J9_max_7cf53_1 : look a_J9_max_7cf53 1 = vIload 1 2 := rfl
theorem k_J9_max_7cf53_2 : look a_J9_max_7cf53 2 = vIcLt 9 5 := rfl
theorem k_J9_max_7cf53_5 : look a_J9_max_7cf53 5 = vIload 0 6 := rfl
theorem k_J9_max_7cf53_6 : look a_J9_max_7cf53 6 = vGoto 10 := rfl
theorem k_J9_max_7cf53_9 : look a_J9_max_7cf53 9 = vIload 1 10 := rfl
theorem k_J9_max_7cf53_10 : look a_J9_max_7cf53 10 = vIret := rfl
theorem o_J9_max_7cf53 {X : amX} (e1 : XT X = TT) (e2 : XD X = 0) (hB : amB X RJ9 cJ9_max_7cf53 (some .int) 2) : ∀ pc, amOK X pc (look a_J9_max_7cf53 pc) := by
  have hT : amTok (XT X) := e1 ▸ TT_ok
  refine look_ok ?_
  unfold a_J9_max_7cf53
  refine fc (ok_iload_n hB dJ9_max_7cf53_0) ?_
  refine fc (ok_iload_n hB dJ9_max_7cf53_1) ?_
  refine fc (ok_icmp_lt hB (t := 9) (by decide) dJ9_max_7cf53_2) ?_
  refine fc (ok_iload_n hB dJ9_max_7cf53_5) ?_
  refine fc (ok_goto hB (t := 10) (by decide) dJ9_max_7cf53_6) ?_
  refine fc (ok_iload_n hB dJ9_max_7cf53_9) ?_
  refine fc (ok_iret hB dJ9_max_7cf53_10) ?_
  exact fn

def w_J9_max_7cf53 : WP := fun av σ Q => ∃ (x : Int) (y : Int), av = [(0, x), (0, y)] ∧ (InR x ∧ InR y ∧ Q (0, if x < y then y else x) σ)
theorem w_J9_max_7cf53_e (x : Int) (y : Int) (σ : Mem) (Q : AV → Mem → Prop) : w_J9_max_7cf53 [(0, x), (0, y)] σ Q = (InR x ∧ InR y ∧ Q (0, if x < y then y else x) σ) := by
  apply propext; constructor
  · rintro ⟨x', y', h9, hb9⟩; cases h9; exact hb9
  · intro hb9; exact ⟨x, y, rfl, hb9⟩

set_option maxRecDepth 100000 in
set_option maxHeartbeats 4000000 in
theorem s_J9_max_7cf53 : ∀ av σ Q, w_J9_max_7cf53 av σ Q → amCall 0 0 0 TT yJ9_max_7cf53 cJ9_max_7cf53 2 (some .int) av σ Q := by
  rintro av σ Q ⟨x, y, rfl, hx, hy, h⟩
  refine am_m0 (own := RJ9) (A := look a_J9_max_7cf53) (fun X e1 e2 hB => o_J9_max_7cf53 e1 e2 hB) rfl (by decide +kernel) rfl rfl 30 (w := 2) ?_
  change vcs _ _ _ _ 30 0 [(0, x), (0, y)] [] σ
  simp only [vI_e, vL_e, vNull_e, vIload_e, vLload_e, vAload_e, vIstore_e, vLstore_e, vAstore_e, vIinc_e, vIadd_e, vIsub_e, vImul_e, vIand_e, vIor_e, vIxor_e, vIshl_e, vIshr_e, vIushr_e, vIdiv_e, vIrem_e, vLadd_e, vLsub_e, vLmul_e, vLand_e, vLor_e, vLxor_e, vLdiv_e, vLrem_e, vLushr_e, vLshl_e, vLcmp_e, vIneg_e, vI2l_e, vL2i_e, vI2b_e, vI2c_e, vDup_e, vPop_e, vDup2_e, vGoto_e, vIcEq_e, vIfEq_e, vIcNe_e, vIfNe_e, vIcLt_e, vIfLt_e, vIcGe_e, vIfGe_e, vIcGt_e, vIfGt_e, vIcLe_e, vIfLe_e, vNonnull_e, vSw_e, vGetI_e, vGetL_e, vGetR_e, vPutI_e, vPutZ_e, vPutL_e, vPutR_e, vIald_e, vIald_s, vLald_e, vBald_e, vBald_s, vAald_e, vIast_e, vLast_e, vBast_e, vAast_e, vAlen_e8, vAlen_e9, vAlen_e10, vAlen_e11, vAlen_e5, vAlen_e3, vGets_e, vCompact_e, vLdcS_e, vIret_e, vZret_e, vCret_e, vBret_e, vLret_e, vVret_e, vAret_e, vCallM_e0, vCallMV_e0, vCallS_e0, vCallSV_e0, vCallM_e1, vCallMV_e1, vCallS_e1, vCallSV_e1, vCallM_e2, vCallMV_e2, vCallS_e2, vCallSV_e2, vCallM_e3, vCallMV_e3, vCallS_e3, vCallSV_e3, vCallM_e4, vCallMV_e4, vCallS_e4, vCallSV_e4, vCallM_e5, vCallMV_e5, vCallS_e5, vCallSV_e5, vCallM_e6, vCallMV_e6, vCallS_e6, vCallSV_e6, vCallM_e7, vCallMV_e7, vCallS_e7, vCallSV_e7, vBad_e, vStrVal_e, vStrCod_e, vForm_e, vCallT_e0, vCallT_e1, vCallT_e2, vCopy_e, rf_0_0, rf_0_1, rf_0_2, rf_0_3, rf_0_4, rf_0_7, rf_0_10, rf_0_11, rf_0_12, rf_0_13, rf_0_14, rf_0_15, rf_0_16, rf_1_0, rf_3_0, rf_3_1, rf_6_0, rf_6_1, rf_9_0, rf_9_1, rf_9_3, rf_13_0, rf_13_1, rf_13_2, rf_16_0, rf_16_1, rf_16_2, rf_16_3, rf_21_0, rf_21_1, rf_21_2, rf_21_3, rf_26_0, rf_26_1, rf_26_2, rf_26_3, rf_26_4, rf_26_5, rf_26_6, rf_31_0, rf_31_2, rf_31_5, rf_31_6, rf_36_0, rf_36_1, rf_36_2, rf_36_3, rf_39_0, rf_39_1, rf_39_2, rf_41_0, rf_41_1, rf_41_2, rf_41_3, rf_5000_1, rf_5000_2, rf_5000_3, rf_5000_4, rf_5000_5, rf_5000_15, rf_5000_16, rf_5000_18, rf_5000_19, rf_5000_20, rf_5000_21, rf_5000_22, rf_5000_23, rf_5000_24, rf_5000_25, rf_5000_26, rf_5000_27, rf_5000_36, rf_5000_37, rf_5000_40, rf_5000_41, rf_5000_42, rf_5000_43, rf_5000_44, rf_5000_45, rf_5000_47, rf_5000_52, rf_5000_54, rf_5000_55, rf_100_0, rf_100_1, rf_103_0, rf_103_1, rf_106_0, rf_106_1, rf_109_0, rf_109_1, al_2, al_4, al_5, al_7, al_8, al_10, al_11, al_12, al_14, al_15, al_17, al_18, al_19, al_20, al_22, al_23, al_24, al_25, al_27, al_28, al_29, al_30, al_32, al_33, al_34, al_35, al_37, al_38, al_40, al_42, al_5001, al_5002, al_5003, al_5004, al_5005, al_5006, al_5007, al_5008, al_5009, al_5010, al_5011, al_5012, al_5013, al_5014, al_5015, al_5016, al_5017, al_5018, al_5019, al_5020, al_5021, al_5022, al_5023, al_5024, al_5025, al_5026, al_9000, al_101, al_102, al_104, al_105, al_107, al_108, al_110, al_111, vcs_e, lg_c0, lg_cs, lg_nil, set_c0, set_cs, okst_0, okst_s, acok_n, acok_c, List.contains_nil, List.contains_cons, Bool.or_false, Bool.false_or, Bool.false_eq_true, if_false, if_true, ite_self, ne_eq, true_and, and_true, not_false_eq_true, not_true_eq_false, false_imp_iff, true_imp_iff, Nat.ble_eq, Bool.and_eq_true, reduceCtorEq, or_false, false_or, or_true, true_or, false_and, and_false, and_self, Int.reduceLE, Int.reduceAdd, Int.reduceSub, Int.reduceMul, Int.reduceNeg, Int.reduceLT, Int.reduceEq, Int.reduceNe, Nat.reduceBEq, Nat.reduceBNe, Nat.reduceEqDiff, amCmp_in, amCmp_lt, amCmp_le, amCmp_gt, amCmp_ge, amCmp_eq, amCmp_ne, Nat.reduceLeDiff, Nat.reduceSub, Bool.and_true, Bool.true_and, Bool.and_self, Bool.or_true, Bool.true_or, isRf_3, isRf_4, isRf_5, isRf_8, isRf_9, isRf_10, isRf_11, isRf_15, isRf_16, isRf_17, isRf_18, isRf_19, isRf_20, isRf_21, isRf_22, isRf_23, isRf_24, isRf_25, isRf_26, isRf_27, isRf_28, k_J9_max_7cf53_0, k_J9_max_7cf53_1, k_J9_max_7cf53_2, k_J9_max_7cf53_5, k_J9_max_7cf53_6, k_J9_max_7cf53_9, k_J9_max_7cf53_10]
  refine ⟨hx, hy, fun c => ?_, fun c => ?_⟩
  · rwa [if_pos c] at h
  · rwa [if_neg c] at h
def a_J9_min_7cf53 : AC := [(0, vIload 0 1), (1, vIload 1 2), (2, vIcGt 9 5), (5, vIload 0 6), (6, vGoto 10), (9, vIload 1 10), (10, vIret)]
theorem k_J9_min_7cf53_0 : look a_J9_min_7cf53 0 = vIload 0 1 := rfl
theorem k_J9_min_7cf53_1 : look a_J9_min_7cf53 1 = vIload 1 2 := rfl
theorem k_J9_min_7cf53_2 : look a_J9_min_7cf53 2 = vIcGt 9 5 := rfl
theorem k_J9_min_7cf53_5 : look a_J9_min_7cf53 5 = vIload 0 6 := rfl
theorem k_J9_min_7cf53_6 : look a_J9_min_7cf53 6 = vGoto 10 := rfl
theorem k_J9_min_7cf53_9 : look a_J9_min_7cf53 9 = vIload 1 10 := rfl
theorem k_J9_min_7cf53_10 : look a_J9_min_7cf53 10 = vIret := rfl
theorem o_J9_min_7cf53 {X : amX} (e1 : XT X = TT) (e2 : XD X = 0) (hB : amB X RJ9 cJ9_min_7cf53 (some .int) 2) : ∀ pc, amOK X pc (look a_J9_min_7cf53 pc) := by
  have hT : amTok (XT X) := e1 ▸ TT_ok
  refine look_ok ?_
  unfold a_J9_min_7cf53
  refine fc (ok_iload_n hB dJ9_min_7cf53_0) ?_
  refine fc (ok_iload_n hB dJ9_min_7cf53_1) ?_
  refine fc (ok_icmp_gt hB (t := 9) (by decide) dJ9_min_7cf53_2) ?_
  refine fc (ok_iload_n hB dJ9_min_7cf53_5) ?_
  refine fc (ok_goto hB (t := 10) (by decide) dJ9_min_7cf53_6) ?_
  refine fc (ok_iload_n hB dJ9_min_7cf53_9) ?_
  refine fc (ok_iret hB dJ9_min_7cf53_10) ?_
  exact fn

def w_J9_min_7cf53 : WP := fun av σ Q => ∃ (x : Int) (y : Int), av = [(0, x), (0, y)] ∧ (InR x ∧ InR y ∧ Q (0, if y < x then y else x) σ)
theorem w_J9_min_7cf53_e (x : Int) (y : Int) (σ : Mem) (Q : AV → Mem → Prop) : w_J9_min_7cf53 [(0, x), (0, y)] σ Q = (InR x ∧ InR y ∧ Q (0, if y < x then y else x) σ) := by
  apply propext; constructor
  · rintro ⟨x', y', h9, hb9⟩; cases h9; exact hb9
  · intro hb9; exact ⟨x, y, rfl, hb9⟩

set_option maxRecDepth 100000 in
set_option maxHeartbeats 4000000 in
theorem s_J9_min_7cf53 : ∀ av σ Q, w_J9_min_7cf53 av σ Q → amCall 0 0 0 TT yJ9_min_7cf53 cJ9_min_7cf53 2 (some .int) av σ Q := by
  rintro av σ Q ⟨x, y, rfl, hx, hy, h⟩
  refine am_m0 (own := RJ9) (A := look a_J9_min_7cf53) (fun X e1 e2 hB => o_J9_min_7cf53 e1 e2 hB) rfl (by decide +kernel) rfl rfl 30 (w := 2) ?_
  change vcs _ _ _ _ 30 0 [(0, x), (0, y)] [] σ
  simp only [vI_e, vL_e, vNull_e, vIload_e, vLload_e, vAload_e, vIstore_e, vLstore_e, vAstore_e, vIinc_e, vIadd_e, vIsub_e, vImul_e, vIand_e, vIor_e, vIxor_e, vIshl_e, vIshr_e, vIushr_e, vIdiv_e, vIrem_e, vLadd_e, vLsub_e, vLmul_e, vLand_e, vLor_e, vLxor_e, vLdiv_e, vLrem_e, vLushr_e, vLshl_e, vLcmp_e, vIneg_e, vI2l_e, vL2i_e, vI2b_e, vI2c_e, vDup_e, vPop_e, vDup2_e, vGoto_e, vIcEq_e, vIfEq_e, vIcNe_e, vIfNe_e, vIcLt_e, vIfLt_e, vIcGe_e, vIfGe_e, vIcGt_e, vIfGt_e, vIcLe_e, vIfLe_e, vNonnull_e, vSw_e, vGetI_e, vGetL_e, vGetR_e, vPutI_e, vPutZ_e, vPutL_e, vPutR_e, vIald_e, vIald_s, vLald_e, vBald_e, vBald_s, vAald_e, vIast_e, vLast_e, vBast_e, vAast_e, vAlen_e8, vAlen_e9, vAlen_e10, vAlen_e11, vAlen_e5, vAlen_e3, vGets_e, vCompact_e, vLdcS_e, vIret_e, vZret_e, vCret_e, vBret_e, vLret_e, vVret_e, vAret_e, vCallM_e0, vCallMV_e0, vCallS_e0, vCallSV_e0, vCallM_e1, vCallMV_e1, vCallS_e1, vCallSV_e1, vCallM_e2, vCallMV_e2, vCallS_e2, vCallSV_e2, vCallM_e3, vCallMV_e3, vCallS_e3, vCallSV_e3, vCallM_e4, vCallMV_e4, vCallS_e4, vCallSV_e4, vCallM_e5, vCallMV_e5, vCallS_e5, vCallSV_e5, vCallM_e6, vCallMV_e6, vCallS_e6, vCallSV_e6, vCallM_e7, vCallMV_e7, vCallS_e7, vCallSV_e7, vBad_e, vStrVal_e, vStrCod_e, vForm_e, vCallT_e0, vCallT_e1, vCallT_e2, vCopy_e, rf_0_0, rf_0_1, rf_0_2, rf_0_3, rf_0_4, rf_0_7, rf_0_10, rf_0_11, rf_0_12, rf_0_13, rf_0_14, rf_0_15, rf_0_16, rf_1_0, rf_3_0, rf_3_1, rf_6_0, rf_6_1, rf_9_0, rf_9_1, rf_9_3, rf_13_0, rf_13_1, rf_13_2, rf_16_0, rf_16_1, rf_16_2, rf_16_3, rf_21_0, rf_21_1, rf_21_2, rf_21_3, rf_26_0, rf_26_1, rf_26_2, rf_26_3, rf_26_4, rf_26_5, rf_26_6, rf_31_0, rf_31_2, rf_31_5, rf_31_6, rf_36_0, rf_36_1, rf_36_2, rf_36_3, rf_39_0, rf_39_1, rf_39_2, rf_41_0, rf_41_1, rf_41_2, rf_41_3, rf_5000_1, rf_5000_2, rf_5000_3, rf_5000_4, rf_5000_5, rf_5000_15, rf_5000_16, rf_5000_18, rf_5000_19, rf_5000_20, rf_5000_21, rf_5000_22, rf_5000_23, rf_5000_24, rf_5000_25, rf_5000_26, rf_5000_27, rf_5000_36, rf_5000_37, rf_5000_40, rf_5000_41, rf_5000_42, rf_5000_43, rf_5000_44, rf_5000_45, rf_5000_47, rf_5000_52, rf_5000_54, rf_5000_55, rf_100_0, rf_100_1, rf_103_0, rf_103_1, rf_106_0, rf_106_1, rf_109_0, rf_109_1, al_2, al_4, al_5, al_7, al_8, al_10, al_11, al_12, al_14, al_15, al_17, al_18, al_19, al_20, al_22, al_23, al_24, al_25, al_27, al_28, al_29, al_30, al_32, al_33, al_34, al_35, al_37, al_38, al_40, al_42, al_5001, al_5002, al_5003, al_5004, al_5005, al_5006, al_5007, al_5008, al_5009, al_5010, al_5011, al_5012, al_5013, al_5014, al_5015, al_5016, al_5017, al_5018, al_5019, al_5020, al_5021, al_5022, al_5023, al_5024, al_5025, al_5026, al_9000, al_101, al_102, al_104, al_105, al_107, al_108, al_110, al_111, vcs_e, lg_c0, lg_cs, lg_nil, set_c0, set_cs, okst_0, okst_s, acok_n, acok_c, List.contains_nil, List.contains_cons, Bool.or_false, Bool.false_or, Bool.false_eq_true, if_false, if_true, ite_self, ne_eq, true_and, and_true, not_false_eq_true, not_true_eq_false, false_imp_iff, true_imp_iff, Nat.ble_eq, Bool.and_eq_true, reduceCtorEq, or_false, false_or, or_true, true_or, false_and, and_false, and_self, Int.reduceLE, Int.reduceAdd, Int.reduceSub, Int.reduceMul, Int.reduceNeg, Int.reduceLT, Int.reduceEq, Int.reduceNe, Nat.reduceBEq, Nat.reduceBNe, Nat.reduceEqDiff, amCmp_in, amCmp_lt, amCmp_le, amCmp_gt, amCmp_ge, amCmp_eq, amCmp_ne, Nat.reduceLeDiff, Nat.reduceSub, Bool.and_true, Bool.true_and, Bool.and_self, Bool.or_true, Bool.true_or, isRf_3, isRf_4, isRf_5, isRf_8, isRf_9, isRf_10, isRf_11, isRf_15, isRf_16, isRf_17, isRf_18, isRf_19, isRf_20, isRf_21, isRf_22, isRf_23, isRf_24, isRf_25, isRf_26, isRf_27, isRf_28, k_J9_min_7cf53_0, k_J9_min_7cf53_1, k_J9_min_7cf53_2, k_J9_min_7cf53_5, k_J9_min_7cf53_6, k_J9_min_7cf53_9, k_J9_min_7cf53_10]
  refine ⟨hx, hy, fun c => ?_, fun c => ?_⟩
  · rwa [if_pos c] at h
  · rwa [if_neg c] at h
def a_J9_max_f86c9 : AC := [(0, vLload 0 1), (1, vLload 2 2), (2, vLcmp 3), (3, vIfLt 10 6), (6, vLload 0 7), (7, vGoto 11), (10, vLload 2 11), (11, vLret)]
theorem k_J9_max_f86c9_0 : look a_J9_max_f86c9 0 = vLload 0 1 := rfl
theorem k_J9_max_f86c9_1 : look a_J9_max_f86c9 1 = vLload 2 2 := rfl
theorem k_J9_max_f86c9_2 : look a_J9_max_f86c9 2 = vLcmp 3 := rfl
theorem k_J9_max_f86c9_3 : look a_J9_max_f86c9 3 = vIfLt 10 6 := rfl
theorem k_J9_max_f86c9_6 : look a_J9_max_f86c9 6 = vLload 0 7 := rfl
theorem k_J9_max_f86c9_7 : look a_J9_max_f86c9 7 = vGoto 11 := rfl
theorem k_J9_max_f86c9_10 : look a_J9_max_f86c9 10 = vLload 2 11 := rfl
theorem k_J9_max_f86c9_11 : look a_J9_max_f86c9 11 = vLret := rfl
theorem o_J9_max_f86c9 {X : amX} (e1 : XT X = TT) (e2 : XD X = 0) (hB : amB X RJ9 cJ9_max_f86c9 (some .long) 4) : ∀ pc, amOK X pc (look a_J9_max_f86c9 pc) := by
  have hT : amTok (XT X) := e1 ▸ TT_ok
  refine look_ok ?_
  unfold a_J9_max_f86c9
  refine fc (ok_lload_n hB dJ9_max_f86c9_0) ?_
  refine fc (ok_lload_n hB dJ9_max_f86c9_1) ?_
  refine fc (ok_lcmp hB dJ9_max_f86c9_2) ?_
  refine fc (ok_if_lt hB (t := 10) (by decide) dJ9_max_f86c9_3) ?_
  refine fc (ok_lload_n hB dJ9_max_f86c9_6) ?_
  refine fc (ok_goto hB (t := 11) (by decide) dJ9_max_f86c9_7) ?_
  refine fc (ok_lload_n hB dJ9_max_f86c9_10) ?_
  refine fc (ok_lret hB dJ9_max_f86c9_11) ?_
  exact fn

def w_J9_max_f86c9 : WP := fun av σ Q => ∃ (x : Int) (y : Int), av = [(1, x), (1, y)] ∧ (InL x ∧ InL y ∧ Q (1, if x < y then y else x) σ)
theorem w_J9_max_f86c9_e (x : Int) (y : Int) (σ : Mem) (Q : AV → Mem → Prop) : w_J9_max_f86c9 [(1, x), (1, y)] σ Q = (InL x ∧ InL y ∧ Q (1, if x < y then y else x) σ) := by
  apply propext; constructor
  · rintro ⟨x', y', h9, hb9⟩; cases h9; exact hb9
  · intro hb9; exact ⟨x, y, rfl, hb9⟩

set_option maxRecDepth 100000 in
set_option maxHeartbeats 4000000 in
theorem s_J9_max_f86c9 : ∀ av σ Q, w_J9_max_f86c9 av σ Q → amCall 0 0 0 TT yJ9_max_f86c9 cJ9_max_f86c9 4 (some .long) av σ Q := by
  rintro av σ Q ⟨x, y, rfl, hx, hy, h⟩
  refine am_m0 (own := RJ9) (A := look a_J9_max_f86c9) (fun X e1 e2 hB => o_J9_max_f86c9 e1 e2 hB) rfl (by decide +kernel) rfl rfl 30 (w := 4) ?_
  change vcs _ _ _ _ 30 0 [(1, x), (7, 0), (1, y), (7, 0)] [] σ
  simp only [vI_e, vL_e, vNull_e, vIload_e, vLload_e, vAload_e, vIstore_e, vLstore_e, vAstore_e, vIinc_e, vIadd_e, vIsub_e, vImul_e, vIand_e, vIor_e, vIxor_e, vIshl_e, vIshr_e, vIushr_e, vIdiv_e, vIrem_e, vLadd_e, vLsub_e, vLmul_e, vLand_e, vLor_e, vLxor_e, vLdiv_e, vLrem_e, vLushr_e, vLshl_e, vLcmp_e, vIneg_e, vI2l_e, vL2i_e, vI2b_e, vI2c_e, vDup_e, vPop_e, vDup2_e, vGoto_e, vIcEq_e, vIfEq_e, vIcNe_e, vIfNe_e, vIcLt_e, vIfLt_e, vIcGe_e, vIfGe_e, vIcGt_e, vIfGt_e, vIcLe_e, vIfLe_e, vNonnull_e, vSw_e, vGetI_e, vGetL_e, vGetR_e, vPutI_e, vPutZ_e, vPutL_e, vPutR_e, vIald_e, vIald_s, vLald_e, vBald_e, vBald_s, vAald_e, vIast_e, vLast_e, vBast_e, vAast_e, vAlen_e8, vAlen_e9, vAlen_e10, vAlen_e11, vAlen_e5, vAlen_e3, vGets_e, vCompact_e, vLdcS_e, vIret_e, vZret_e, vCret_e, vBret_e, vLret_e, vVret_e, vAret_e, vCallM_e0, vCallMV_e0, vCallS_e0, vCallSV_e0, vCallM_e1, vCallMV_e1, vCallS_e1, vCallSV_e1, vCallM_e2, vCallMV_e2, vCallS_e2, vCallSV_e2, vCallM_e3, vCallMV_e3, vCallS_e3, vCallSV_e3, vCallM_e4, vCallMV_e4, vCallS_e4, vCallSV_e4, vCallM_e5, vCallMV_e5, vCallS_e5, vCallSV_e5, vCallM_e6, vCallMV_e6, vCallS_e6, vCallSV_e6, vCallM_e7, vCallMV_e7, vCallS_e7, vCallSV_e7, vBad_e, vStrVal_e, vStrCod_e, vForm_e, vCallT_e0, vCallT_e1, vCallT_e2, vCopy_e, rf_0_0, rf_0_1, rf_0_2, rf_0_3, rf_0_4, rf_0_7, rf_0_10, rf_0_11, rf_0_12, rf_0_13, rf_0_14, rf_0_15, rf_0_16, rf_1_0, rf_3_0, rf_3_1, rf_6_0, rf_6_1, rf_9_0, rf_9_1, rf_9_3, rf_13_0, rf_13_1, rf_13_2, rf_16_0, rf_16_1, rf_16_2, rf_16_3, rf_21_0, rf_21_1, rf_21_2, rf_21_3, rf_26_0, rf_26_1, rf_26_2, rf_26_3, rf_26_4, rf_26_5, rf_26_6, rf_31_0, rf_31_2, rf_31_5, rf_31_6, rf_36_0, rf_36_1, rf_36_2, rf_36_3, rf_39_0, rf_39_1, rf_39_2, rf_41_0, rf_41_1, rf_41_2, rf_41_3, rf_5000_1, rf_5000_2, rf_5000_3, rf_5000_4, rf_5000_5, rf_5000_15, rf_5000_16, rf_5000_18, rf_5000_19, rf_5000_20, rf_5000_21, rf_5000_22, rf_5000_23, rf_5000_24, rf_5000_25, rf_5000_26, rf_5000_27, rf_5000_36, rf_5000_37, rf_5000_40, rf_5000_41, rf_5000_42, rf_5000_43, rf_5000_44, rf_5000_45, rf_5000_47, rf_5000_52, rf_5000_54, rf_5000_55, rf_100_0, rf_100_1, rf_103_0, rf_103_1, rf_106_0, rf_106_1, rf_109_0, rf_109_1, al_2, al_4, al_5, al_7, al_8, al_10, al_11, al_12, al_14, al_15, al_17, al_18, al_19, al_20, al_22, al_23, al_24, al_25, al_27, al_28, al_29, al_30, al_32, al_33, al_34, al_35, al_37, al_38, al_40, al_42, al_5001, al_5002, al_5003, al_5004, al_5005, al_5006, al_5007, al_5008, al_5009, al_5010, al_5011, al_5012, al_5013, al_5014, al_5015, al_5016, al_5017, al_5018, al_5019, al_5020, al_5021, al_5022, al_5023, al_5024, al_5025, al_5026, al_9000, al_101, al_102, al_104, al_105, al_107, al_108, al_110, al_111, vcs_e, lg_c0, lg_cs, lg_nil, set_c0, set_cs, okst_0, okst_s, acok_n, acok_c, List.contains_nil, List.contains_cons, Bool.or_false, Bool.false_or, Bool.false_eq_true, if_false, if_true, ite_self, ne_eq, true_and, and_true, not_false_eq_true, not_true_eq_false, false_imp_iff, true_imp_iff, Nat.ble_eq, Bool.and_eq_true, reduceCtorEq, or_false, false_or, or_true, true_or, false_and, and_false, and_self, Int.reduceLE, Int.reduceAdd, Int.reduceSub, Int.reduceMul, Int.reduceNeg, Int.reduceLT, Int.reduceEq, Int.reduceNe, Nat.reduceBEq, Nat.reduceBNe, Nat.reduceEqDiff, amCmp_in, amCmp_lt, amCmp_le, amCmp_gt, amCmp_ge, amCmp_eq, amCmp_ne, Nat.reduceLeDiff, Nat.reduceSub, Bool.and_true, Bool.true_and, Bool.and_self, Bool.or_true, Bool.true_or, isRf_3, isRf_4, isRf_5, isRf_8, isRf_9, isRf_10, isRf_11, isRf_15, isRf_16, isRf_17, isRf_18, isRf_19, isRf_20, isRf_21, isRf_22, isRf_23, isRf_24, isRf_25, isRf_26, isRf_27, isRf_28, k_J9_max_f86c9_0, k_J9_max_f86c9_1, k_J9_max_f86c9_2, k_J9_max_f86c9_3, k_J9_max_f86c9_6, k_J9_max_f86c9_7, k_J9_max_f86c9_10, k_J9_max_f86c9_11]
  repeat' (first | assumption | apply And.intro | intro _)
  all_goals first | omega | (split at h <;> first | exact h | omega)
def a_J9_min_f86c9 : AC := [(0, vLload 0 1), (1, vLload 2 2), (2, vLcmp 3), (3, vIfGt 10 6), (6, vLload 0 7), (7, vGoto 11), (10, vLload 2 11), (11, vLret)]
theorem k_J9_min_f86c9_0 : look a_J9_min_f86c9 0 = vLload 0 1 := rfl
theorem k_J9_min_f86c9_1 : look a_J9_min_f86c9 1 = vLload 2 2 := rfl
theorem k_J9_min_f86c9_2 : look a_J9_min_f86c9 2 = vLcmp 3 := rfl
theorem k_J9_min_f86c9_3 : look a_J9_min_f86c9 3 = vIfGt 10 6 := rfl
theorem k_J9_min_f86c9_6 : look a_J9_min_f86c9 6 = vLload 0 7 := rfl
theorem k_J9_min_f86c9_7 : look a_J9_min_f86c9 7 = vGoto 11 := rfl
theorem k_J9_min_f86c9_10 : look a_J9_min_f86c9 10 = vLload 2 11 := rfl
theorem k_J9_min_f86c9_11 : look a_J9_min_f86c9 11 = vLret := rfl
theorem o_J9_min_f86c9 {X : amX} (e1 : XT X = TT) (e2 : XD X = 0) (hB : amB X RJ9 cJ9_min_f86c9 (some .long) 4) : ∀ pc, amOK X pc (look a_J9_min_f86c9 pc) := by
  have hT : amTok (XT X) := e1 ▸ TT_ok
  refine look_ok ?_
  unfold a_J9_min_f86c9
  refine fc (ok_lload_n hB dJ9_min_f86c9_0) ?_
  refine fc (ok_lload_n hB dJ9_min_f86c9_1) ?_
  refine fc (ok_lcmp hB dJ9_min_f86c9_2) ?_
  refine fc (ok_if_gt hB (t := 10) (by decide) dJ9_min_f86c9_3) ?_
  refine fc (ok_lload_n hB dJ9_min_f86c9_6) ?_
  refine fc (ok_goto hB (t := 11) (by decide) dJ9_min_f86c9_7) ?_
  refine fc (ok_lload_n hB dJ9_min_f86c9_10) ?_
  refine fc (ok_lret hB dJ9_min_f86c9_11) ?_
  exact fn

def w_J9_min_f86c9 : WP := fun av σ Q => ∃ (x : Int) (y : Int), av = [(1, x), (1, y)] ∧ (InL x ∧ InL y ∧ Q (1, if y < x then y else x) σ)
theorem w_J9_min_f86c9_e (x : Int) (y : Int) (σ : Mem) (Q : AV → Mem → Prop) : w_J9_min_f86c9 [(1, x), (1, y)] σ Q = (InL x ∧ InL y ∧ Q (1, if y < x then y else x) σ) := by
  apply propext; constructor
  · rintro ⟨x', y', h9, hb9⟩; cases h9; exact hb9
  · intro hb9; exact ⟨x, y, rfl, hb9⟩

set_option maxRecDepth 100000 in
set_option maxHeartbeats 4000000 in
theorem s_J9_min_f86c9 : ∀ av σ Q, w_J9_min_f86c9 av σ Q → amCall 0 0 0 TT yJ9_min_f86c9 cJ9_min_f86c9 4 (some .long) av σ Q := by
  rintro av σ Q ⟨x, y, rfl, hx, hy, h⟩
  refine am_m0 (own := RJ9) (A := look a_J9_min_f86c9) (fun X e1 e2 hB => o_J9_min_f86c9 e1 e2 hB) rfl (by decide +kernel) rfl rfl 30 (w := 4) ?_
  change vcs _ _ _ _ 30 0 [(1, x), (7, 0), (1, y), (7, 0)] [] σ
  simp only [vI_e, vL_e, vNull_e, vIload_e, vLload_e, vAload_e, vIstore_e, vLstore_e, vAstore_e, vIinc_e, vIadd_e, vIsub_e, vImul_e, vIand_e, vIor_e, vIxor_e, vIshl_e, vIshr_e, vIushr_e, vIdiv_e, vIrem_e, vLadd_e, vLsub_e, vLmul_e, vLand_e, vLor_e, vLxor_e, vLdiv_e, vLrem_e, vLushr_e, vLshl_e, vLcmp_e, vIneg_e, vI2l_e, vL2i_e, vI2b_e, vI2c_e, vDup_e, vPop_e, vDup2_e, vGoto_e, vIcEq_e, vIfEq_e, vIcNe_e, vIfNe_e, vIcLt_e, vIfLt_e, vIcGe_e, vIfGe_e, vIcGt_e, vIfGt_e, vIcLe_e, vIfLe_e, vNonnull_e, vSw_e, vGetI_e, vGetL_e, vGetR_e, vPutI_e, vPutZ_e, vPutL_e, vPutR_e, vIald_e, vIald_s, vLald_e, vBald_e, vBald_s, vAald_e, vIast_e, vLast_e, vBast_e, vAast_e, vAlen_e8, vAlen_e9, vAlen_e10, vAlen_e11, vAlen_e5, vAlen_e3, vGets_e, vCompact_e, vLdcS_e, vIret_e, vZret_e, vCret_e, vBret_e, vLret_e, vVret_e, vAret_e, vCallM_e0, vCallMV_e0, vCallS_e0, vCallSV_e0, vCallM_e1, vCallMV_e1, vCallS_e1, vCallSV_e1, vCallM_e2, vCallMV_e2, vCallS_e2, vCallSV_e2, vCallM_e3, vCallMV_e3, vCallS_e3, vCallSV_e3, vCallM_e4, vCallMV_e4, vCallS_e4, vCallSV_e4, vCallM_e5, vCallMV_e5, vCallS_e5, vCallSV_e5, vCallM_e6, vCallMV_e6, vCallS_e6, vCallSV_e6, vCallM_e7, vCallMV_e7, vCallS_e7, vCallSV_e7, vBad_e, vStrVal_e, vStrCod_e, vForm_e, vCallT_e0, vCallT_e1, vCallT_e2, vCopy_e, rf_0_0, rf_0_1, rf_0_2, rf_0_3, rf_0_4, rf_0_7, rf_0_10, rf_0_11, rf_0_12, rf_0_13, rf_0_14, rf_0_15, rf_0_16, rf_1_0, rf_3_0, rf_3_1, rf_6_0, rf_6_1, rf_9_0, rf_9_1, rf_9_3, rf_13_0, rf_13_1, rf_13_2, rf_16_0, rf_16_1, rf_16_2, rf_16_3, rf_21_0, rf_21_1, rf_21_2, rf_21_3, rf_26_0, rf_26_1, rf_26_2, rf_26_3, rf_26_4, rf_26_5, rf_26_6, rf_31_0, rf_31_2, rf_31_5, rf_31_6, rf_36_0, rf_36_1, rf_36_2, rf_36_3, rf_39_0, rf_39_1, rf_39_2, rf_41_0, rf_41_1, rf_41_2, rf_41_3, rf_5000_1, rf_5000_2, rf_5000_3, rf_5000_4, rf_5000_5, rf_5000_15, rf_5000_16, rf_5000_18, rf_5000_19, rf_5000_20, rf_5000_21, rf_5000_22, rf_5000_23, rf_5000_24, rf_5000_25, rf_5000_26, rf_5000_27, rf_5000_36, rf_5000_37, rf_5000_40, rf_5000_41, rf_5000_42, rf_5000_43, rf_5000_44, rf_5000_45, rf_5000_47, rf_5000_52, rf_5000_54, rf_5000_55, rf_100_0, rf_100_1, rf_103_0, rf_103_1, rf_106_0, rf_106_1, rf_109_0, rf_109_1, al_2, al_4, al_5, al_7, al_8, al_10, al_11, al_12, al_14, al_15, al_17, al_18, al_19, al_20, al_22, al_23, al_24, al_25, al_27, al_28, al_29, al_30, al_32, al_33, al_34, al_35, al_37, al_38, al_40, al_42, al_5001, al_5002, al_5003, al_5004, al_5005, al_5006, al_5007, al_5008, al_5009, al_5010, al_5011, al_5012, al_5013, al_5014, al_5015, al_5016, al_5017, al_5018, al_5019, al_5020, al_5021, al_5022, al_5023, al_5024, al_5025, al_5026, al_9000, al_101, al_102, al_104, al_105, al_107, al_108, al_110, al_111, vcs_e, lg_c0, lg_cs, lg_nil, set_c0, set_cs, okst_0, okst_s, acok_n, acok_c, List.contains_nil, List.contains_cons, Bool.or_false, Bool.false_or, Bool.false_eq_true, if_false, if_true, ite_self, ne_eq, true_and, and_true, not_false_eq_true, not_true_eq_false, false_imp_iff, true_imp_iff, Nat.ble_eq, Bool.and_eq_true, reduceCtorEq, or_false, false_or, or_true, true_or, false_and, and_false, and_self, Int.reduceLE, Int.reduceAdd, Int.reduceSub, Int.reduceMul, Int.reduceNeg, Int.reduceLT, Int.reduceEq, Int.reduceNe, Nat.reduceBEq, Nat.reduceBNe, Nat.reduceEqDiff, amCmp_in, amCmp_lt, amCmp_le, amCmp_gt, amCmp_ge, amCmp_eq, amCmp_ne, Nat.reduceLeDiff, Nat.reduceSub, Bool.and_true, Bool.true_and, Bool.and_self, Bool.or_true, Bool.true_or, isRf_3, isRf_4, isRf_5, isRf_8, isRf_9, isRf_10, isRf_11, isRf_15, isRf_16, isRf_17, isRf_18, isRf_19, isRf_20, isRf_21, isRf_22, isRf_23, isRf_24, isRf_25, isRf_26, isRf_27, isRf_28, k_J9_min_f86c9_0, k_J9_min_f86c9_1, k_J9_min_f86c9_2, k_J9_min_f86c9_3, k_J9_min_f86c9_6, k_J9_min_f86c9_7, k_J9_min_f86c9_10, k_J9_min_f86c9_11]
  repeat' (first | assumption | apply And.intro | intro _)
  all_goals first | omega | (split at h <;> first | exact h | omega)
def a_J9_abs_0f7a4 : AC := [(0, vIload 0 1), (1, vIfGe 9 4), (4, vIload 0 5), (5, vIneg 6), (6, vGoto 10), (9, vIload 0 10), (10, vIret)]
theorem k_J9_abs_0f7a4_0 : look a_J9_abs_0f7a4 0 = vIload 0 1 := rfl
theorem k_J9_abs_0f7a4_1 : look a_J9_abs_0f7a4 1 = vIfGe 9 4 := rfl
theorem k_J9_abs_0f7a4_4 : look a_J9_abs_0f7a4 4 = vIload 0 5 := rfl
theorem k_J9_abs_0f7a4_5 : look a_J9_abs_0f7a4 5 = vIneg 6 := rfl
theorem k_J9_abs_0f7a4_6 : look a_J9_abs_0f7a4 6 = vGoto 10 := rfl
theorem k_J9_abs_0f7a4_9 : look a_J9_abs_0f7a4 9 = vIload 0 10 := rfl
theorem k_J9_abs_0f7a4_10 : look a_J9_abs_0f7a4 10 = vIret := rfl
theorem o_J9_abs_0f7a4 {X : amX} (e1 : XT X = TT) (e2 : XD X = 0) (hB : amB X RJ9 cJ9_abs_0f7a4 (some .int) 1) : ∀ pc, amOK X pc (look a_J9_abs_0f7a4 pc) := by
  have hT : amTok (XT X) := e1 ▸ TT_ok
  refine look_ok ?_
  unfold a_J9_abs_0f7a4
  refine fc (ok_iload_n hB dJ9_abs_0f7a4_0) ?_
  refine fc (ok_if_ge hB (t := 9) (by decide) dJ9_abs_0f7a4_1) ?_
  refine fc (ok_iload_n hB dJ9_abs_0f7a4_4) ?_
  refine fc (ok_ineg hB dJ9_abs_0f7a4_5) ?_
  refine fc (ok_goto hB (t := 10) (by decide) dJ9_abs_0f7a4_6) ?_
  refine fc (ok_iload_n hB dJ9_abs_0f7a4_9) ?_
  refine fc (ok_iret hB dJ9_abs_0f7a4_10) ?_
  exact fn

def w_J9_abs_0f7a4 : WP := fun av σ Q => ∃ (x : Int), av = [(0, x)] ∧ (InR x ∧ Q (0, if x < 0 then -x else x) σ)
theorem w_J9_abs_0f7a4_e (x : Int) (σ : Mem) (Q : AV → Mem → Prop) : w_J9_abs_0f7a4 [(0, x)] σ Q = (InR x ∧ Q (0, if x < 0 then -x else x) σ) := by
  apply propext; constructor
  · rintro ⟨x', h9, hb9⟩; cases h9; exact hb9
  · intro hb9; exact ⟨x, rfl, hb9⟩

set_option maxRecDepth 100000 in
set_option maxHeartbeats 4000000 in
theorem s_J9_abs_0f7a4 : ∀ av σ Q, w_J9_abs_0f7a4 av σ Q → amCall 0 0 0 TT yJ9_abs_0f7a4 cJ9_abs_0f7a4 1 (some .int) av σ Q := by
  rintro av σ Q ⟨x, rfl, hx, h⟩
  refine am_m0 (own := RJ9) (A := look a_J9_abs_0f7a4) (fun X e1 e2 hB => o_J9_abs_0f7a4 e1 e2 hB) rfl (by decide +kernel) rfl rfl 30 (w := 1) ?_
  change vcs _ _ _ _ 30 0 [(0, x)] [] σ
  simp only [vI_e, vL_e, vNull_e, vIload_e, vLload_e, vAload_e, vIstore_e, vLstore_e, vAstore_e, vIinc_e, vIadd_e, vIsub_e, vImul_e, vIand_e, vIor_e, vIxor_e, vIshl_e, vIshr_e, vIushr_e, vIdiv_e, vIrem_e, vLadd_e, vLsub_e, vLmul_e, vLand_e, vLor_e, vLxor_e, vLdiv_e, vLrem_e, vLushr_e, vLshl_e, vLcmp_e, vIneg_e, vI2l_e, vL2i_e, vI2b_e, vI2c_e, vDup_e, vPop_e, vDup2_e, vGoto_e, vIcEq_e, vIfEq_e, vIcNe_e, vIfNe_e, vIcLt_e, vIfLt_e, vIcGe_e, vIfGe_e, vIcGt_e, vIfGt_e, vIcLe_e, vIfLe_e, vNonnull_e, vSw_e, vGetI_e, vGetL_e, vGetR_e, vPutI_e, vPutZ_e, vPutL_e, vPutR_e, vIald_e, vIald_s, vLald_e, vBald_e, vBald_s, vAald_e, vIast_e, vLast_e, vBast_e, vAast_e, vAlen_e8, vAlen_e9, vAlen_e10, vAlen_e11, vAlen_e5, vAlen_e3, vGets_e, vCompact_e, vLdcS_e, vIret_e, vZret_e, vCret_e, vBret_e, vLret_e, vVret_e, vAret_e, vCallM_e0, vCallMV_e0, vCallS_e0, vCallSV_e0, vCallM_e1, vCallMV_e1, vCallS_e1, vCallSV_e1, vCallM_e2, vCallMV_e2, vCallS_e2, vCallSV_e2, vCallM_e3, vCallMV_e3, vCallS_e3, vCallSV_e3, vCallM_e4, vCallMV_e4, vCallS_e4, vCallSV_e4, vCallM_e5, vCallMV_e5, vCallS_e5, vCallSV_e5, vCallM_e6, vCallMV_e6, vCallS_e6, vCallSV_e6, vCallM_e7, vCallMV_e7, vCallS_e7, vCallSV_e7, vBad_e, vStrVal_e, vStrCod_e, vForm_e, vCallT_e0, vCallT_e1, vCallT_e2, vCopy_e, rf_0_0, rf_0_1, rf_0_2, rf_0_3, rf_0_4, rf_0_7, rf_0_10, rf_0_11, rf_0_12, rf_0_13, rf_0_14, rf_0_15, rf_0_16, rf_1_0, rf_3_0, rf_3_1, rf_6_0, rf_6_1, rf_9_0, rf_9_1, rf_9_3, rf_13_0, rf_13_1, rf_13_2, rf_16_0, rf_16_1, rf_16_2, rf_16_3, rf_21_0, rf_21_1, rf_21_2, rf_21_3, rf_26_0, rf_26_1, rf_26_2, rf_26_3, rf_26_4, rf_26_5, rf_26_6, rf_31_0, rf_31_2, rf_31_5, rf_31_6, rf_36_0, rf_36_1, rf_36_2, rf_36_3, rf_39_0, rf_39_1, rf_39_2, rf_41_0, rf_41_1, rf_41_2, rf_41_3, rf_5000_1, rf_5000_2, rf_5000_3, rf_5000_4, rf_5000_5, rf_5000_15, rf_5000_16, rf_5000_18, rf_5000_19, rf_5000_20, rf_5000_21, rf_5000_22, rf_5000_23, rf_5000_24, rf_5000_25, rf_5000_26, rf_5000_27, rf_5000_36, rf_5000_37, rf_5000_40, rf_5000_41, rf_5000_42, rf_5000_43, rf_5000_44, rf_5000_45, rf_5000_47, rf_5000_52, rf_5000_54, rf_5000_55, rf_100_0, rf_100_1, rf_103_0, rf_103_1, rf_106_0, rf_106_1, rf_109_0, rf_109_1, al_2, al_4, al_5, al_7, al_8, al_10, al_11, al_12, al_14, al_15, al_17, al_18, al_19, al_20, al_22, al_23, al_24, al_25, al_27, al_28, al_29, al_30, al_32, al_33, al_34, al_35, al_37, al_38, al_40, al_42, al_5001, al_5002, al_5003, al_5004, al_5005, al_5006, al_5007, al_5008, al_5009, al_5010, al_5011, al_5012, al_5013, al_5014, al_5015, al_5016, al_5017, al_5018, al_5019, al_5020, al_5021, al_5022, al_5023, al_5024, al_5025, al_5026, al_9000, al_101, al_102, al_104, al_105, al_107, al_108, al_110, al_111, vcs_e, lg_c0, lg_cs, lg_nil, set_c0, set_cs, okst_0, okst_s, acok_n, acok_c, List.contains_nil, List.contains_cons, Bool.or_false, Bool.false_or, Bool.false_eq_true, if_false, if_true, ite_self, ne_eq, true_and, and_true, not_false_eq_true, not_true_eq_false, false_imp_iff, true_imp_iff, Nat.ble_eq, Bool.and_eq_true, reduceCtorEq, or_false, false_or, or_true, true_or, false_and, and_false, and_self, Int.reduceLE, Int.reduceAdd, Int.reduceSub, Int.reduceMul, Int.reduceNeg, Int.reduceLT, Int.reduceEq, Int.reduceNe, Nat.reduceBEq, Nat.reduceBNe, Nat.reduceEqDiff, amCmp_in, amCmp_lt, amCmp_le, amCmp_gt, amCmp_ge, amCmp_eq, amCmp_ne, Nat.reduceLeDiff, Nat.reduceSub, Bool.and_true, Bool.true_and, Bool.and_self, Bool.or_true, Bool.true_or, isRf_3, isRf_4, isRf_5, isRf_8, isRf_9, isRf_10, isRf_11, isRf_15, isRf_16, isRf_17, isRf_18, isRf_19, isRf_20, isRf_21, isRf_22, isRf_23, isRf_24, isRf_25, isRf_26, isRf_27, isRf_28, k_J9_abs_0f7a4_0, k_J9_abs_0f7a4_1, k_J9_abs_0f7a4_4, k_J9_abs_0f7a4_5, k_J9_abs_0f7a4_6, k_J9_abs_0f7a4_9, k_J9_abs_0f7a4_10]
  refine ⟨hx, fun c => ?_, fun c => ?_⟩
  · rwa [if_neg (by omega)] at h
  · rwa [if_pos (by omega)] at h
theorem wd_432 : Cond.fieldLink RJ0 38 "java/lang/String" "COMPACT_STRINGS" "Z" ∈ TBL := tb_tab (List.mem_of_getElem? (i := 432) (by decide +kernel)) rfl
theorem wd_1965 : Cond.fieldLink RJ0 15 "java/lang/String" "coder" "B" ∈ TBL := tb_tab (List.mem_of_getElem? (i := 1965) (by decide +kernel)) rfl
def a_J0_coder_7d493 : AC := [(0, vCompact 3), (3, vIfEq 13 6), (6, vAload 0 7), (7, vStrCod 10), (10, vGoto 14), (13, vI 1 14), (14, vBret)]
theorem k_J0_coder_7d493_0 : look a_J0_coder_7d493 0 = vCompact 3 := rfl
theorem k_J0_coder_7d493_3 : look a_J0_coder_7d493 3 = vIfEq 13 6 := rfl
theorem k_J0_coder_7d493_6 : look a_J0_coder_7d493 6 = vAload 0 7 := rfl
theorem k_J0_coder_7d493_7 : look a_J0_coder_7d493 7 = vStrCod 10 := rfl
theorem k_J0_coder_7d493_10 : look a_J0_coder_7d493 10 = vGoto 14 := rfl
theorem k_J0_coder_7d493_13 : look a_J0_coder_7d493 13 = vI 1 14 := rfl
theorem k_J0_coder_7d493_14 : look a_J0_coder_7d493 14 = vBret := rfl
theorem o_J0_coder_7d493 {X : amX} (e1 : XT X = TT) (e2 : XD X = 0) (hB : amB X RJ0 cJ0_coder_7d493 (some .byte) 1) : ∀ pc, amOK X pc (look a_J0_coder_7d493 pc) := by
  have hT : amTok (XT X) := e1 ▸ TT_ok
  refine look_ok ?_
  unfold a_J0_coder_7d493
  refine fc (ok_compact hB wd_432 dJ0_coder_7d493_0) ?_
  refine fc (ok_if_eq hB (t := 13) (by decide) dJ0_coder_7d493_3) ?_
  refine fc (ok_aload_n hB dJ0_coder_7d493_6) ?_
  refine fc (ok_strCod hB wd_1965 dJ0_coder_7d493_7) ?_
  refine fc (ok_goto hB (t := 14) (by decide) dJ0_coder_7d493_10) ?_
  refine fc (ok_iconst hB dJ0_coder_7d493_13) ?_
  refine fc (ok_bret hB dJ0_coder_7d493_14) ?_
  exact fn

def w_J0_coder_7d493 : WP := fun av σ Q => ∃ (z : Int), av = [(4, z)] ∧ (20000 ≤ z ∧ z < 20011 ∧ Q (0, 0) σ)
theorem w_J0_coder_7d493_e (z : Int) (σ : Mem) (Q : AV → Mem → Prop) : w_J0_coder_7d493 [(4, z)] σ Q = (20000 ≤ z ∧ z < 20011 ∧ Q (0, 0) σ) := by
  apply propext; constructor
  · rintro ⟨z', h9, hb9⟩; cases h9; exact hb9
  · intro hb9; exact ⟨z, rfl, hb9⟩

set_option maxRecDepth 100000 in
set_option maxHeartbeats 4000000 in
theorem s_J0_coder_7d493 : ∀ av σ Q, w_J0_coder_7d493 av σ Q → amCall 0 0 0 TT yJ0_coder_7d493 cJ0_coder_7d493 1 (some .byte) av σ Q := by
  rintro av σ Q ⟨z, rfl, h0, h1, h⟩
  refine am_m0 (own := RJ0) (A := look a_J0_coder_7d493) (fun X e1 e2 hB => o_J0_coder_7d493 e1 e2 hB) rfl (by decide +kernel) rfl rfl 30 (w := 1) ?_
  change vcs _ _ _ _ 30 0 [(4, z)] [] σ
  simp only [vI_e, vL_e, vNull_e, vIload_e, vLload_e, vAload_e, vIstore_e, vLstore_e, vAstore_e, vIinc_e, vIadd_e, vIsub_e, vImul_e, vIand_e, vIor_e, vIxor_e, vIshl_e, vIshr_e, vIushr_e, vIdiv_e, vIrem_e, vLadd_e, vLsub_e, vLmul_e, vLand_e, vLor_e, vLxor_e, vLdiv_e, vLrem_e, vLushr_e, vLshl_e, vLcmp_e, vIneg_e, vI2l_e, vL2i_e, vI2b_e, vI2c_e, vDup_e, vPop_e, vDup2_e, vGoto_e, vIcEq_e, vIfEq_e, vIcNe_e, vIfNe_e, vIcLt_e, vIfLt_e, vIcGe_e, vIfGe_e, vIcGt_e, vIfGt_e, vIcLe_e, vIfLe_e, vNonnull_e, vSw_e, vGetI_e, vGetL_e, vGetR_e, vPutI_e, vPutZ_e, vPutL_e, vPutR_e, vIald_e, vIald_s, vLald_e, vBald_e, vBald_s, vAald_e, vIast_e, vLast_e, vBast_e, vAast_e, vAlen_e8, vAlen_e9, vAlen_e10, vAlen_e11, vAlen_e5, vAlen_e3, vGets_e, vCompact_e, vLdcS_e, vIret_e, vZret_e, vCret_e, vBret_e, vLret_e, vVret_e, vAret_e, vCallM_e0, vCallMV_e0, vCallS_e0, vCallSV_e0, vCallM_e1, vCallMV_e1, vCallS_e1, vCallSV_e1, vCallM_e2, vCallMV_e2, vCallS_e2, vCallSV_e2, vCallM_e3, vCallMV_e3, vCallS_e3, vCallSV_e3, vCallM_e4, vCallMV_e4, vCallS_e4, vCallSV_e4, vCallM_e5, vCallMV_e5, vCallS_e5, vCallSV_e5, vCallM_e6, vCallMV_e6, vCallS_e6, vCallSV_e6, vCallM_e7, vCallMV_e7, vCallS_e7, vCallSV_e7, vBad_e, vStrVal_e, vStrCod_e, vForm_e, vCallT_e0, vCallT_e1, vCallT_e2, vCopy_e, rf_0_0, rf_0_1, rf_0_2, rf_0_3, rf_0_4, rf_0_7, rf_0_10, rf_0_11, rf_0_12, rf_0_13, rf_0_14, rf_0_15, rf_0_16, rf_1_0, rf_3_0, rf_3_1, rf_6_0, rf_6_1, rf_9_0, rf_9_1, rf_9_3, rf_13_0, rf_13_1, rf_13_2, rf_16_0, rf_16_1, rf_16_2, rf_16_3, rf_21_0, rf_21_1, rf_21_2, rf_21_3, rf_26_0, rf_26_1, rf_26_2, rf_26_3, rf_26_4, rf_26_5, rf_26_6, rf_31_0, rf_31_2, rf_31_5, rf_31_6, rf_36_0, rf_36_1, rf_36_2, rf_36_3, rf_39_0, rf_39_1, rf_39_2, rf_41_0, rf_41_1, rf_41_2, rf_41_3, rf_5000_1, rf_5000_2, rf_5000_3, rf_5000_4, rf_5000_5, rf_5000_15, rf_5000_16, rf_5000_18, rf_5000_19, rf_5000_20, rf_5000_21, rf_5000_22, rf_5000_23, rf_5000_24, rf_5000_25, rf_5000_26, rf_5000_27, rf_5000_36, rf_5000_37, rf_5000_40, rf_5000_41, rf_5000_42, rf_5000_43, rf_5000_44, rf_5000_45, rf_5000_47, rf_5000_52, rf_5000_54, rf_5000_55, rf_100_0, rf_100_1, rf_103_0, rf_103_1, rf_106_0, rf_106_1, rf_109_0, rf_109_1, al_2, al_4, al_5, al_7, al_8, al_10, al_11, al_12, al_14, al_15, al_17, al_18, al_19, al_20, al_22, al_23, al_24, al_25, al_27, al_28, al_29, al_30, al_32, al_33, al_34, al_35, al_37, al_38, al_40, al_42, al_5001, al_5002, al_5003, al_5004, al_5005, al_5006, al_5007, al_5008, al_5009, al_5010, al_5011, al_5012, al_5013, al_5014, al_5015, al_5016, al_5017, al_5018, al_5019, al_5020, al_5021, al_5022, al_5023, al_5024, al_5025, al_5026, al_9000, al_101, al_102, al_104, al_105, al_107, al_108, al_110, al_111, vcs_e, lg_c0, lg_cs, lg_nil, set_c0, set_cs, okst_0, okst_s, acok_n, acok_c, List.contains_nil, List.contains_cons, Bool.or_false, Bool.false_or, Bool.false_eq_true, if_false, if_true, ite_self, ne_eq, true_and, and_true, not_false_eq_true, not_true_eq_false, false_imp_iff, true_imp_iff, Nat.ble_eq, Bool.and_eq_true, reduceCtorEq, or_false, false_or, or_true, true_or, false_and, and_false, and_self, Int.reduceLE, Int.reduceAdd, Int.reduceSub, Int.reduceMul, Int.reduceNeg, Int.reduceLT, Int.reduceEq, Int.reduceNe, Nat.reduceBEq, Nat.reduceBNe, Nat.reduceEqDiff, amCmp_in, amCmp_lt, amCmp_le, amCmp_gt, amCmp_ge, amCmp_eq, amCmp_ne, Nat.reduceLeDiff, Nat.reduceSub, Bool.and_true, Bool.true_and, Bool.and_self, Bool.or_true, Bool.true_or, isRf_3, isRf_4, isRf_5, isRf_8, isRf_9, isRf_10, isRf_11, isRf_15, isRf_16, isRf_17, isRf_18, isRf_19, isRf_20, isRf_21, isRf_22, isRf_23, isRf_24, isRf_25, isRf_26, isRf_27, isRf_28, k_J0_coder_7d493_0, k_J0_coder_7d493_3, k_J0_coder_7d493_6, k_J0_coder_7d493_7, k_J0_coder_7d493_10, k_J0_coder_7d493_13, k_J0_coder_7d493_14]
  repeat' (first | assumption | apply And.intro | intro _)
  all_goals first | exact h | omega
def a_J0_isLatin1_aae02 : AC := [(0, vCompact 3), (3, vIfEq 17 6), (6, vAload 0 7), (7, vStrCod 10), (10, vIfNe 17 13), (13, vI 1 14), (14, vGoto 18), (17, vI 0 18), (18, vZret)]
theorem k_J0_isLatin1_aae02_0 : look a_J0_isLatin1_aae02 0 = vCompact 3 := rfl
theorem k_J0_isLatin1_aae02_3 : look a_J0_isLatin1_aae02 3 = vIfEq 17 6 := rfl
theorem k_J0_isLatin1_aae02_6 : look a_J0_isLatin1_aae02 6 = vAload 0 7 := rfl
theorem k_J0_isLatin1_aae02_7 : look a_J0_isLatin1_aae02 7 = vStrCod 10 := rfl
theorem k_J0_isLatin1_aae02_10 : look a_J0_isLatin1_aae02 10 = vIfNe 17 13 := rfl
theorem k_J0_isLatin1_aae02_13 : look a_J0_isLatin1_aae02 13 = vI 1 14 := rfl
theorem k_J0_isLatin1_aae02_14 : look a_J0_isLatin1_aae02 14 = vGoto 18 := rfl
theorem k_J0_isLatin1_aae02_17 : look a_J0_isLatin1_aae02 17 = vI 0 18 := rfl
theorem k_J0_isLatin1_aae02_18 : look a_J0_isLatin1_aae02 18 = vZret := rfl
theorem o_J0_isLatin1_aae02 {X : amX} (e1 : XT X = TT) (e2 : XD X = 0) (hB : amB X RJ0 cJ0_isLatin1_aae02 (some .boolean) 1) : ∀ pc, amOK X pc (look a_J0_isLatin1_aae02 pc) := by
  have hT : amTok (XT X) := e1 ▸ TT_ok
  refine look_ok ?_
  unfold a_J0_isLatin1_aae02
  refine fc (ok_compact hB wd_432 dJ0_isLatin1_aae02_0) ?_
  refine fc (ok_if_eq hB (t := 17) (by decide) dJ0_isLatin1_aae02_3) ?_
  refine fc (ok_aload_n hB dJ0_isLatin1_aae02_6) ?_
  refine fc (ok_strCod hB wd_1965 dJ0_isLatin1_aae02_7) ?_
  refine fc (ok_if_ne hB (t := 17) (by decide) dJ0_isLatin1_aae02_10) ?_
  refine fc (ok_iconst hB dJ0_isLatin1_aae02_13) ?_
  refine fc (ok_goto hB (t := 18) (by decide) dJ0_isLatin1_aae02_14) ?_
  refine fc (ok_iconst hB dJ0_isLatin1_aae02_17) ?_
  refine fc (ok_zret hB dJ0_isLatin1_aae02_18) ?_
  exact fn

def w_J0_isLatin1_aae02 : WP := fun av σ Q => ∃ (z : Int), av = [(4, z)] ∧ (20000 ≤ z ∧ z < 20011 ∧ Q (0, 1) σ)
theorem w_J0_isLatin1_aae02_e (z : Int) (σ : Mem) (Q : AV → Mem → Prop) : w_J0_isLatin1_aae02 [(4, z)] σ Q = (20000 ≤ z ∧ z < 20011 ∧ Q (0, 1) σ) := by
  apply propext; constructor
  · rintro ⟨z', h9, hb9⟩; cases h9; exact hb9
  · intro hb9; exact ⟨z, rfl, hb9⟩

set_option maxRecDepth 100000 in
set_option maxHeartbeats 4000000 in
theorem s_J0_isLatin1_aae02 : ∀ av σ Q, w_J0_isLatin1_aae02 av σ Q → amCall 0 0 0 TT yJ0_isLatin1_aae02 cJ0_isLatin1_aae02 1 (some .boolean) av σ Q := by
  rintro av σ Q ⟨z, rfl, h0, h1, h⟩
  refine am_m0 (own := RJ0) (A := look a_J0_isLatin1_aae02) (fun X e1 e2 hB => o_J0_isLatin1_aae02 e1 e2 hB) rfl (by decide +kernel) rfl rfl 30 (w := 1) ?_
  change vcs _ _ _ _ 30 0 [(4, z)] [] σ
  simp only [vI_e, vL_e, vNull_e, vIload_e, vLload_e, vAload_e, vIstore_e, vLstore_e, vAstore_e, vIinc_e, vIadd_e, vIsub_e, vImul_e, vIand_e, vIor_e, vIxor_e, vIshl_e, vIshr_e, vIushr_e, vIdiv_e, vIrem_e, vLadd_e, vLsub_e, vLmul_e, vLand_e, vLor_e, vLxor_e, vLdiv_e, vLrem_e, vLushr_e, vLshl_e, vLcmp_e, vIneg_e, vI2l_e, vL2i_e, vI2b_e, vI2c_e, vDup_e, vPop_e, vDup2_e, vGoto_e, vIcEq_e, vIfEq_e, vIcNe_e, vIfNe_e, vIcLt_e, vIfLt_e, vIcGe_e, vIfGe_e, vIcGt_e, vIfGt_e, vIcLe_e, vIfLe_e, vNonnull_e, vSw_e, vGetI_e, vGetL_e, vGetR_e, vPutI_e, vPutZ_e, vPutL_e, vPutR_e, vIald_e, vIald_s, vLald_e, vBald_e, vBald_s, vAald_e, vIast_e, vLast_e, vBast_e, vAast_e, vAlen_e8, vAlen_e9, vAlen_e10, vAlen_e11, vAlen_e5, vAlen_e3, vGets_e, vCompact_e, vLdcS_e, vIret_e, vZret_e, vCret_e, vBret_e, vLret_e, vVret_e, vAret_e, vCallM_e0, vCallMV_e0, vCallS_e0, vCallSV_e0, vCallM_e1, vCallMV_e1, vCallS_e1, vCallSV_e1, vCallM_e2, vCallMV_e2, vCallS_e2, vCallSV_e2, vCallM_e3, vCallMV_e3, vCallS_e3, vCallSV_e3, vCallM_e4, vCallMV_e4, vCallS_e4, vCallSV_e4, vCallM_e5, vCallMV_e5, vCallS_e5, vCallSV_e5, vCallM_e6, vCallMV_e6, vCallS_e6, vCallSV_e6, vCallM_e7, vCallMV_e7, vCallS_e7, vCallSV_e7, vBad_e, vStrVal_e, vStrCod_e, vForm_e, vCallT_e0, vCallT_e1, vCallT_e2, vCopy_e, rf_0_0, rf_0_1, rf_0_2, rf_0_3, rf_0_4, rf_0_7, rf_0_10, rf_0_11, rf_0_12, rf_0_13, rf_0_14, rf_0_15, rf_0_16, rf_1_0, rf_3_0, rf_3_1, rf_6_0, rf_6_1, rf_9_0, rf_9_1, rf_9_3, rf_13_0, rf_13_1, rf_13_2, rf_16_0, rf_16_1, rf_16_2, rf_16_3, rf_21_0, rf_21_1, rf_21_2, rf_21_3, rf_26_0, rf_26_1, rf_26_2, rf_26_3, rf_26_4, rf_26_5, rf_26_6, rf_31_0, rf_31_2, rf_31_5, rf_31_6, rf_36_0, rf_36_1, rf_36_2, rf_36_3, rf_39_0, rf_39_1, rf_39_2, rf_41_0, rf_41_1, rf_41_2, rf_41_3, rf_5000_1, rf_5000_2, rf_5000_3, rf_5000_4, rf_5000_5, rf_5000_15, rf_5000_16, rf_5000_18, rf_5000_19, rf_5000_20, rf_5000_21, rf_5000_22, rf_5000_23, rf_5000_24, rf_5000_25, rf_5000_26, rf_5000_27, rf_5000_36, rf_5000_37, rf_5000_40, rf_5000_41, rf_5000_42, rf_5000_43, rf_5000_44, rf_5000_45, rf_5000_47, rf_5000_52, rf_5000_54, rf_5000_55, rf_100_0, rf_100_1, rf_103_0, rf_103_1, rf_106_0, rf_106_1, rf_109_0, rf_109_1, al_2, al_4, al_5, al_7, al_8, al_10, al_11, al_12, al_14, al_15, al_17, al_18, al_19, al_20, al_22, al_23, al_24, al_25, al_27, al_28, al_29, al_30, al_32, al_33, al_34, al_35, al_37, al_38, al_40, al_42, al_5001, al_5002, al_5003, al_5004, al_5005, al_5006, al_5007, al_5008, al_5009, al_5010, al_5011, al_5012, al_5013, al_5014, al_5015, al_5016, al_5017, al_5018, al_5019, al_5020, al_5021, al_5022, al_5023, al_5024, al_5025, al_5026, al_9000, al_101, al_102, al_104, al_105, al_107, al_108, al_110, al_111, vcs_e, lg_c0, lg_cs, lg_nil, set_c0, set_cs, okst_0, okst_s, acok_n, acok_c, List.contains_nil, List.contains_cons, Bool.or_false, Bool.false_or, Bool.false_eq_true, if_false, if_true, ite_self, ne_eq, true_and, and_true, not_false_eq_true, not_true_eq_false, false_imp_iff, true_imp_iff, Nat.ble_eq, Bool.and_eq_true, reduceCtorEq, or_false, false_or, or_true, true_or, false_and, and_false, and_self, Int.reduceLE, Int.reduceAdd, Int.reduceSub, Int.reduceMul, Int.reduceNeg, Int.reduceLT, Int.reduceEq, Int.reduceNe, Nat.reduceBEq, Nat.reduceBNe, Nat.reduceEqDiff, amCmp_in, amCmp_lt, amCmp_le, amCmp_gt, amCmp_ge, amCmp_eq, amCmp_ne, Nat.reduceLeDiff, Nat.reduceSub, Bool.and_true, Bool.true_and, Bool.and_self, Bool.or_true, Bool.true_or, isRf_3, isRf_4, isRf_5, isRf_8, isRf_9, isRf_10, isRf_11, isRf_15, isRf_16, isRf_17, isRf_18, isRf_19, isRf_20, isRf_21, isRf_22, isRf_23, isRf_24, isRf_25, isRf_26, isRf_27, isRf_28, k_J0_isLatin1_aae02_0, k_J0_isLatin1_aae02_3, k_J0_isLatin1_aae02_6, k_J0_isLatin1_aae02_7, k_J0_isLatin1_aae02_10, k_J0_isLatin1_aae02_13, k_J0_isLatin1_aae02_14, k_J0_isLatin1_aae02_17, k_J0_isLatin1_aae02_18]
  repeat' (first | assumption | apply And.intro | intro _)
  all_goals first | exact h | omega
theorem wd_1966 : Cond.fieldLink RJ0 9 "java/lang/String" "value" "[B" ∈ TBL := tb_tab (List.mem_of_getElem? (i := 1966) (by decide +kernel)) rfl
theorem wd_438 : Cond.methodLink RJ0 335 yJ0_coder_7d493 ∈ TBL := tb_tab (List.mem_of_getElem? (i := 438) (by decide +kernel)) rfl
theorem wd_14 : Cond.initialized RJ0 ∈ TBL := tb_tab (List.mem_of_getElem? (i := 14) (by decide +kernel)) rfl
theorem wd_441 : Cond.code yJ0_coder_7d493 cJ0_coder_7d493 1 (some .byte) ∈ TBL := tb_tab (List.mem_of_getElem? (i := 441) (by decide +kernel)) rfl
theorem lk_J0_335 : amLk RJ0 335 yJ0_coder_7d493 cJ0_coder_7d493 1 (some .byte) 0 := ⟨wd_438, wd_14, wd_441, by decide +kernel, by decide +kernel, by decide⟩
theorem wd_439 : Cond.instanceMethod yJ0_coder_7d493 ∈ TBL := tb_tab (List.mem_of_getElem? (i := 439) (by decide +kernel)) rfl
theorem wd_440 : Cond.selects RJ0 yJ0_coder_7d493 yJ0_coder_7d493 ∈ TBL := tb_tab (List.mem_of_getElem? (i := 440) (by decide +kernel)) rfl
def a_J0_length_8abf5 : AC := [(0, vAload 0 1), (1, vStrVal 4), (4, vAlen TT 5), (5, vAload 0 6), (6, vCallT w_J0_coder_7d493 0 9), (9, vIshr 10), (10, vIret)]
theorem k_J0_length_8abf5_0 : look a_J0_length_8abf5 0 = vAload 0 1 := rfl
theorem k_J0_length_8abf5_1 : look a_J0_length_8abf5 1 = vStrVal 4 := rfl
theorem k_J0_length_8abf5_4 : look a_J0_length_8abf5 4 = vAlen TT 5 := rfl
theorem k_J0_length_8abf5_5 : look a_J0_length_8abf5 5 = vAload 0 6 := rfl
theorem k_J0_length_8abf5_6 : look a_J0_length_8abf5 6 = vCallT w_J0_coder_7d493 0 9 := rfl
theorem k_J0_length_8abf5_9 : look a_J0_length_8abf5 9 = vIshr 10 := rfl
theorem k_J0_length_8abf5_10 : look a_J0_length_8abf5 10 = vIret := rfl
theorem o_J0_length_8abf5 {X : amX} (e1 : XT X = TT) (e2 : XD X = 1) (hB : amB X RJ0 cJ0_length_8abf5 (some .int) 1) : ∀ pc, amOK X pc (look a_J0_length_8abf5 pc) := by
  have hT : amTok (XT X) := e1 ▸ TT_ok
  refine look_ok ?_
  unfold a_J0_length_8abf5
  refine fc (ok_aload_n hB dJ0_length_8abf5_0) ?_
  refine fc (ok_strVal hB wd_1966 dJ0_length_8abf5_1) ?_
  refine fc (okt_arraylength e1 hB dJ0_length_8abf5_4) ?_
  refine fc (ok_aload_n hB dJ0_length_8abf5_5) ?_
  refine fc (ok_callT hB (e1 ▸ s_J0_coder_7d493) lk_J0_335 (by rw [e2]; decide) rfl wd_439 wd_440 dJ0_length_8abf5_6) ?_
  refine fc (ok_ishr hB dJ0_length_8abf5_9) ?_
  refine fc (ok_iret hB dJ0_length_8abf5_10) ?_
  exact fn

def w_J0_length_8abf5 : WP := fun av σ Q => ∃ (z : Int), av = [(4, z)] ∧ (20000 ≤ z ∧ z < 20011 ∧ Q (0, stl (z + 100)) σ)
theorem w_J0_length_8abf5_e (z : Int) (σ : Mem) (Q : AV → Mem → Prop) : w_J0_length_8abf5 [(4, z)] σ Q = (20000 ≤ z ∧ z < 20011 ∧ Q (0, stl (z + 100)) σ) := by
  apply propext; constructor
  · rintro ⟨z', h9, hb9⟩; cases h9; exact hb9
  · intro hb9; exact ⟨z, rfl, hb9⟩

set_option maxRecDepth 100000 in
set_option maxHeartbeats 4000000 in
theorem s_J0_length_8abf5 : ∀ av σ Q, w_J0_length_8abf5 av σ Q → amCall 1 0 0 TT yJ0_length_8abf5 cJ0_length_8abf5 1 (some .int) av σ Q := by
  rintro av σ Q ⟨z, rfl, h0, h1, h⟩
  refine am_m0 (own := RJ0) (A := look a_J0_length_8abf5) (fun X e1 e2 hB => o_J0_length_8abf5 e1 e2 hB) rfl (by decide +kernel) rfl rfl 30 (w := 1) ?_
  change vcs _ _ _ _ 30 0 [(4, z)] [] σ
  simp only [vI_e, vL_e, vNull_e, vIload_e, vLload_e, vAload_e, vIstore_e, vLstore_e, vAstore_e, vIinc_e, vIadd_e, vIsub_e, vImul_e, vIand_e, vIor_e, vIxor_e, vIshl_e, vIshr_e, vIushr_e, vIdiv_e, vIrem_e, vLadd_e, vLsub_e, vLmul_e, vLand_e, vLor_e, vLxor_e, vLdiv_e, vLrem_e, vLushr_e, vLshl_e, vLcmp_e, vIneg_e, vI2l_e, vL2i_e, vI2b_e, vI2c_e, vDup_e, vPop_e, vDup2_e, vGoto_e, vIcEq_e, vIfEq_e, vIcNe_e, vIfNe_e, vIcLt_e, vIfLt_e, vIcGe_e, vIfGe_e, vIcGt_e, vIfGt_e, vIcLe_e, vIfLe_e, vNonnull_e, vSw_e, vGetI_e, vGetL_e, vGetR_e, vPutI_e, vPutZ_e, vPutL_e, vPutR_e, vIald_e, vIald_s, vLald_e, vBald_e, vBald_s, vAald_e, vIast_e, vLast_e, vBast_e, vAast_e, vAlen_e8, vAlen_e9, vAlen_e10, vAlen_e11, vAlen_e5, vAlen_e3, vGets_e, vCompact_e, vLdcS_e, vIret_e, vZret_e, vCret_e, vBret_e, vLret_e, vVret_e, vAret_e, vCallM_e0, vCallMV_e0, vCallS_e0, vCallSV_e0, vCallM_e1, vCallMV_e1, vCallS_e1, vCallSV_e1, vCallM_e2, vCallMV_e2, vCallS_e2, vCallSV_e2, vCallM_e3, vCallMV_e3, vCallS_e3, vCallSV_e3, vCallM_e4, vCallMV_e4, vCallS_e4, vCallSV_e4, vCallM_e5, vCallMV_e5, vCallS_e5, vCallSV_e5, vCallM_e6, vCallMV_e6, vCallS_e6, vCallSV_e6, vCallM_e7, vCallMV_e7, vCallS_e7, vCallSV_e7, vBad_e, vStrVal_e, vStrCod_e, vForm_e, vCallT_e0, vCallT_e1, vCallT_e2, vCopy_e, rf_0_0, rf_0_1, rf_0_2, rf_0_3, rf_0_4, rf_0_7, rf_0_10, rf_0_11, rf_0_12, rf_0_13, rf_0_14, rf_0_15, rf_0_16, rf_1_0, rf_3_0, rf_3_1, rf_6_0, rf_6_1, rf_9_0, rf_9_1, rf_9_3, rf_13_0, rf_13_1, rf_13_2, rf_16_0, rf_16_1, rf_16_2, rf_16_3, rf_21_0, rf_21_1, rf_21_2, rf_21_3, rf_26_0, rf_26_1, rf_26_2, rf_26_3, rf_26_4, rf_26_5, rf_26_6, rf_31_0, rf_31_2, rf_31_5, rf_31_6, rf_36_0, rf_36_1, rf_36_2, rf_36_3, rf_39_0, rf_39_1, rf_39_2, rf_41_0, rf_41_1, rf_41_2, rf_41_3, rf_5000_1, rf_5000_2, rf_5000_3, rf_5000_4, rf_5000_5, rf_5000_15, rf_5000_16, rf_5000_18, rf_5000_19, rf_5000_20, rf_5000_21, rf_5000_22, rf_5000_23, rf_5000_24, rf_5000_25, rf_5000_26, rf_5000_27, rf_5000_36, rf_5000_37, rf_5000_40, rf_5000_41, rf_5000_42, rf_5000_43, rf_5000_44, rf_5000_45, rf_5000_47, rf_5000_52, rf_5000_54, rf_5000_55, rf_100_0, rf_100_1, rf_103_0, rf_103_1, rf_106_0, rf_106_1, rf_109_0, rf_109_1, al_2, al_4, al_5, al_7, al_8, al_10, al_11, al_12, al_14, al_15, al_17, al_18, al_19, al_20, al_22, al_23, al_24, al_25, al_27, al_28, al_29, al_30, al_32, al_33, al_34, al_35, al_37, al_38, al_40, al_42, al_5001, al_5002, al_5003, al_5004, al_5005, al_5006, al_5007, al_5008, al_5009, al_5010, al_5011, al_5012, al_5013, al_5014, al_5015, al_5016, al_5017, al_5018, al_5019, al_5020, al_5021, al_5022, al_5023, al_5024, al_5025, al_5026, al_9000, al_101, al_102, al_104, al_105, al_107, al_108, al_110, al_111, vcs_e, lg_c0, lg_cs, lg_nil, set_c0, set_cs, okst_0, okst_s, acok_n, acok_c, List.contains_nil, List.contains_cons, Bool.or_false, Bool.false_or, Bool.false_eq_true, if_false, if_true, ite_self, ne_eq, true_and, and_true, not_false_eq_true, not_true_eq_false, false_imp_iff, true_imp_iff, Nat.ble_eq, Bool.and_eq_true, reduceCtorEq, or_false, false_or, or_true, true_or, false_and, and_false, and_self, Int.reduceLE, Int.reduceAdd, Int.reduceSub, Int.reduceMul, Int.reduceNeg, Int.reduceLT, Int.reduceEq, Int.reduceNe, Nat.reduceBEq, Nat.reduceBNe, Nat.reduceEqDiff, amCmp_in, amCmp_lt, amCmp_le, amCmp_gt, amCmp_ge, amCmp_eq, amCmp_ne, Nat.reduceLeDiff, Nat.reduceSub, Bool.and_true, Bool.true_and, Bool.and_self, Bool.or_true, Bool.true_or, isRf_3, isRf_4, isRf_5, isRf_8, isRf_9, isRf_10, isRf_11, isRf_15, isRf_16, isRf_17, isRf_18, isRf_19, isRf_20, isRf_21, isRf_22, isRf_23, isRf_24, isRf_25, isRf_26, isRf_27, isRf_28, k_J0_length_8abf5_0, k_J0_length_8abf5_1, k_J0_length_8abf5_4, k_J0_length_8abf5_5, k_J0_length_8abf5_6, k_J0_length_8abf5_9, k_J0_length_8abf5_10, w_J0_coder_7d493_e]
  have h9 := stl_le (z := z + 100) (by omega) (by omega)
  have h8 := stl_nn (z + 100)
  have h7 : amIshr (stl (z + 100)) 0 = stl (z + 100) := by rw [amIshr_e (by omega) (by omega) (by omega)]; simp
  simp only [h7]
  repeat' (first | assumption | apply And.intro | intro _)
  all_goals first | exact h | omega
def a_J3_checkIndex_8e157 : AC := [(0, vIload 0 1), (1, vIfLt 9 4), (4, vIload 0 5), (5, vIload 1 6), (6, vIcLt 16 9), (9, vAload 2 10), (10, vIload 0 11), (11, vIload 1 12), (12, vBad), (15, vBad), (16, vIload 0 17), (17, vIret)]
theorem k_J3_checkIndex_8e157_0 : look a_J3_checkIndex_8e157 0 = vIload 0 1 := rfl
theorem k_J3_checkIndex_8e157_1 : look a_J3_checkIndex_8e157 1 = vIfLt 9 4 := rfl
theorem k_J3_checkIndex_8e157_4 : look a_J3_checkIndex_8e157 4 = vIload 0 5 := rfl
theorem k_J3_checkIndex_8e157_5 : look a_J3_checkIndex_8e157 5 = vIload 1 6 := rfl
theorem k_J3_checkIndex_8e157_6 : look a_J3_checkIndex_8e157 6 = vIcLt 16 9 := rfl
theorem k_J3_checkIndex_8e157_9 : look a_J3_checkIndex_8e157 9 = vAload 2 10 := rfl
theorem k_J3_checkIndex_8e157_10 : look a_J3_checkIndex_8e157 10 = vIload 0 11 := rfl
theorem k_J3_checkIndex_8e157_11 : look a_J3_checkIndex_8e157 11 = vIload 1 12 := rfl
theorem k_J3_checkIndex_8e157_12 : look a_J3_checkIndex_8e157 12 = vBad := rfl
theorem k_J3_checkIndex_8e157_15 : look a_J3_checkIndex_8e157 15 = vBad := rfl
theorem k_J3_checkIndex_8e157_16 : look a_J3_checkIndex_8e157 16 = vIload 0 17 := rfl
theorem k_J3_checkIndex_8e157_17 : look a_J3_checkIndex_8e157 17 = vIret := rfl
theorem o_J3_checkIndex_8e157 {X : amX} (e1 : XT X = TT) (e2 : XD X = 0) (hB : amB X RJ3 cJ3_checkIndex_8e157 (some .int) 3) : ∀ pc, amOK X pc (look a_J3_checkIndex_8e157 pc) := by
  have hT : amTok (XT X) := e1 ▸ TT_ok
  refine look_ok ?_
  unfold a_J3_checkIndex_8e157
  refine fc (ok_iload_n hB dJ3_checkIndex_8e157_0) ?_
  refine fc (ok_if_lt hB (t := 9) (by decide) dJ3_checkIndex_8e157_1) ?_
  refine fc (ok_iload_n hB dJ3_checkIndex_8e157_4) ?_
  refine fc (ok_iload_n hB dJ3_checkIndex_8e157_5) ?_
  refine fc (ok_icmp_lt hB (t := 16) (by decide) dJ3_checkIndex_8e157_6) ?_
  refine fc (ok_aload_n hB dJ3_checkIndex_8e157_9) ?_
  refine fc (ok_iload_n hB dJ3_checkIndex_8e157_10) ?_
  refine fc (ok_iload_n hB dJ3_checkIndex_8e157_11) ?_
  refine fc (ok_bad) ?_
  refine fc (ok_bad) ?_
  refine fc (ok_iload_n hB dJ3_checkIndex_8e157_16) ?_
  refine fc (ok_iret hB dJ3_checkIndex_8e157_17) ?_
  exact fn

def w_J3_checkIndex_8e157 : WP := fun av σ Q => ∃ (n_t : Nat) (i : Int) (m : Int) (f : Int), av = [(0, i), (0, m), (n_t, f)] ∧ ((n_t = 15 ∨ n_t = 2) ∧ 0 ≤ i ∧ i < m ∧ InR m ∧ Q (0, i) σ)
theorem w_J3_checkIndex_8e157_e (n_t : Nat) (i : Int) (m : Int) (f : Int) (σ : Mem) (Q : AV → Mem → Prop) : w_J3_checkIndex_8e157 [(0, i), (0, m), (n_t, f)] σ Q = ((n_t = 15 ∨ n_t = 2) ∧ 0 ≤ i ∧ i < m ∧ InR m ∧ Q (0, i) σ) := by
  apply propext; constructor
  · rintro ⟨n_t', i', m', f', h9, hb9⟩; cases h9; exact hb9
  · intro hb9; exact ⟨n_t, i, m, f, rfl, hb9⟩

set_option maxRecDepth 100000 in
set_option maxHeartbeats 4000000 in
theorem s_J3_checkIndex_8e157 : ∀ av σ Q, w_J3_checkIndex_8e157 av σ Q → amCall 0 0 0 TT yJ3_checkIndex_8e157 cJ3_checkIndex_8e157 3 (some .int) av σ Q := by
  rintro av σ Q ⟨n_t, i, m, f, rfl, ht, h0, h1, h2, h⟩
  rcases ht with rfl | rfl
  · refine am_m0 (own := RJ3) (A := look a_J3_checkIndex_8e157) (fun X e1 e2 hB => o_J3_checkIndex_8e157 e1 e2 hB) rfl (by decide +kernel) rfl rfl 30 (w := 3) ?_
    change vcs _ _ _ _ 30 0 [(0, i), (0, m), (15, f)] [] σ
    simp only [vI_e, vL_e, vNull_e, vIload_e, vLload_e, vAload_e, vIstore_e, vLstore_e, vAstore_e, vIinc_e, vIadd_e, vIsub_e, vImul_e, vIand_e, vIor_e, vIxor_e, vIshl_e, vIshr_e, vIushr_e, vIdiv_e, vIrem_e, vLadd_e, vLsub_e, vLmul_e, vLand_e, vLor_e, vLxor_e, vLdiv_e, vLrem_e, vLushr_e, vLshl_e, vLcmp_e, vIneg_e, vI2l_e, vL2i_e, vI2b_e, vI2c_e, vDup_e, vPop_e, vDup2_e, vGoto_e, vIcEq_e, vIfEq_e, vIcNe_e, vIfNe_e, vIcLt_e, vIfLt_e, vIcGe_e, vIfGe_e, vIcGt_e, vIfGt_e, vIcLe_e, vIfLe_e, vNonnull_e, vSw_e, vGetI_e, vGetL_e, vGetR_e, vPutI_e, vPutZ_e, vPutL_e, vPutR_e, vIald_e, vIald_s, vLald_e, vBald_e, vBald_s, vAald_e, vIast_e, vLast_e, vBast_e, vAast_e, vAlen_e8, vAlen_e9, vAlen_e10, vAlen_e11, vAlen_e5, vAlen_e3, vGets_e, vCompact_e, vLdcS_e, vIret_e, vZret_e, vCret_e, vBret_e, vLret_e, vVret_e, vAret_e, vCallM_e0, vCallMV_e0, vCallS_e0, vCallSV_e0, vCallM_e1, vCallMV_e1, vCallS_e1, vCallSV_e1, vCallM_e2, vCallMV_e2, vCallS_e2, vCallSV_e2, vCallM_e3, vCallMV_e3, vCallS_e3, vCallSV_e3, vCallM_e4, vCallMV_e4, vCallS_e4, vCallSV_e4, vCallM_e5, vCallMV_e5, vCallS_e5, vCallSV_e5, vCallM_e6, vCallMV_e6, vCallS_e6, vCallSV_e6, vCallM_e7, vCallMV_e7, vCallS_e7, vCallSV_e7, vBad_e, vStrVal_e, vStrCod_e, vForm_e, vCallT_e0, vCallT_e1, vCallT_e2, vCopy_e, rf_0_0, rf_0_1, rf_0_2, rf_0_3, rf_0_4, rf_0_7, rf_0_10, rf_0_11, rf_0_12, rf_0_13, rf_0_14, rf_0_15, rf_0_16, rf_1_0, rf_3_0, rf_3_1, rf_6_0, rf_6_1, rf_9_0, rf_9_1, rf_9_3, rf_13_0, rf_13_1, rf_13_2, rf_16_0, rf_16_1, rf_16_2, rf_16_3, rf_21_0, rf_21_1, rf_21_2, rf_21_3, rf_26_0, rf_26_1, rf_26_2, rf_26_3, rf_26_4, rf_26_5, rf_26_6, rf_31_0, rf_31_2, rf_31_5, rf_31_6, rf_36_0, rf_36_1, rf_36_2, rf_36_3, rf_39_0, rf_39_1, rf_39_2, rf_41_0, rf_41_1, rf_41_2, rf_41_3, rf_5000_1, rf_5000_2, rf_5000_3, rf_5000_4, rf_5000_5, rf_5000_15, rf_5000_16, rf_5000_18, rf_5000_19, rf_5000_20, rf_5000_21, rf_5000_22, rf_5000_23, rf_5000_24, rf_5000_25, rf_5000_26, rf_5000_27, rf_5000_36, rf_5000_37, rf_5000_40, rf_5000_41, rf_5000_42, rf_5000_43, rf_5000_44, rf_5000_45, rf_5000_47, rf_5000_52, rf_5000_54, rf_5000_55, rf_100_0, rf_100_1, rf_103_0, rf_103_1, rf_106_0, rf_106_1, rf_109_0, rf_109_1, al_2, al_4, al_5, al_7, al_8, al_10, al_11, al_12, al_14, al_15, al_17, al_18, al_19, al_20, al_22, al_23, al_24, al_25, al_27, al_28, al_29, al_30, al_32, al_33, al_34, al_35, al_37, al_38, al_40, al_42, al_5001, al_5002, al_5003, al_5004, al_5005, al_5006, al_5007, al_5008, al_5009, al_5010, al_5011, al_5012, al_5013, al_5014, al_5015, al_5016, al_5017, al_5018, al_5019, al_5020, al_5021, al_5022, al_5023, al_5024, al_5025, al_5026, al_9000, al_101, al_102, al_104, al_105, al_107, al_108, al_110, al_111, vcs_e, lg_c0, lg_cs, lg_nil, set_c0, set_cs, okst_0, okst_s, acok_n, acok_c, List.contains_nil, List.contains_cons, Bool.or_false, Bool.false_or, Bool.false_eq_true, if_false, if_true, ite_self, ne_eq, true_and, and_true, not_false_eq_true, not_true_eq_false, false_imp_iff, true_imp_iff, Nat.ble_eq, Bool.and_eq_true, reduceCtorEq, or_false, false_or, or_true, true_or, false_and, and_false, and_self, Int.reduceLE, Int.reduceAdd, Int.reduceSub, Int.reduceMul, Int.reduceNeg, Int.reduceLT, Int.reduceEq, Int.reduceNe, Nat.reduceBEq, Nat.reduceBNe, Nat.reduceEqDiff, amCmp_in, amCmp_lt, amCmp_le, amCmp_gt, amCmp_ge, amCmp_eq, amCmp_ne, Nat.reduceLeDiff, Nat.reduceSub, Bool.and_true, Bool.true_and, Bool.and_self, Bool.or_true, Bool.true_or, isRf_3, isRf_4, isRf_5, isRf_8, isRf_9, isRf_10, isRf_11, isRf_15, isRf_16, isRf_17, isRf_18, isRf_19, isRf_20, isRf_21, isRf_22, isRf_23, isRf_24, isRf_25, isRf_26, isRf_27, isRf_28, k_J3_checkIndex_8e157_0, k_J3_checkIndex_8e157_1, k_J3_checkIndex_8e157_4, k_J3_checkIndex_8e157_5, k_J3_checkIndex_8e157_6, k_J3_checkIndex_8e157_9, k_J3_checkIndex_8e157_10, k_J3_checkIndex_8e157_11, k_J3_checkIndex_8e157_12, k_J3_checkIndex_8e157_15, k_J3_checkIndex_8e157_16, k_J3_checkIndex_8e157_17]
    repeat' (first | assumption | apply And.intro | intro _)
    all_goals first | exact h | omega
  · refine am_m0 (own := RJ3) (A := look a_J3_checkIndex_8e157) (fun X e1 e2 hB => o_J3_checkIndex_8e157 e1 e2 hB) rfl (by decide +kernel) rfl rfl 30 (w := 3) ?_
    change vcs _ _ _ _ 30 0 [(0, i), (0, m), (2, f)] [] σ
    simp only [vI_e, vL_e, vNull_e, vIload_e, vLload_e, vAload_e, vIstore_e, vLstore_e, vAstore_e, vIinc_e, vIadd_e, vIsub_e, vImul_e, vIand_e, vIor_e, vIxor_e, vIshl_e, vIshr_e, vIushr_e, vIdiv_e, vIrem_e, vLadd_e, vLsub_e, vLmul_e, vLand_e, vLor_e, vLxor_e, vLdiv_e, vLrem_e, vLushr_e, vLshl_e, vLcmp_e, vIneg_e, vI2l_e, vL2i_e, vI2b_e, vI2c_e, vDup_e, vPop_e, vDup2_e, vGoto_e, vIcEq_e, vIfEq_e, vIcNe_e, vIfNe_e, vIcLt_e, vIfLt_e, vIcGe_e, vIfGe_e, vIcGt_e, vIfGt_e, vIcLe_e, vIfLe_e, vNonnull_e, vSw_e, vGetI_e, vGetL_e, vGetR_e, vPutI_e, vPutZ_e, vPutL_e, vPutR_e, vIald_e, vIald_s, vLald_e, vBald_e, vBald_s, vAald_e, vIast_e, vLast_e, vBast_e, vAast_e, vAlen_e8, vAlen_e9, vAlen_e10, vAlen_e11, vAlen_e5, vAlen_e3, vGets_e, vCompact_e, vLdcS_e, vIret_e, vZret_e, vCret_e, vBret_e, vLret_e, vVret_e, vAret_e, vCallM_e0, vCallMV_e0, vCallS_e0, vCallSV_e0, vCallM_e1, vCallMV_e1, vCallS_e1, vCallSV_e1, vCallM_e2, vCallMV_e2, vCallS_e2, vCallSV_e2, vCallM_e3, vCallMV_e3, vCallS_e3, vCallSV_e3, vCallM_e4, vCallMV_e4, vCallS_e4, vCallSV_e4, vCallM_e5, vCallMV_e5, vCallS_e5, vCallSV_e5, vCallM_e6, vCallMV_e6, vCallS_e6, vCallSV_e6, vCallM_e7, vCallMV_e7, vCallS_e7, vCallSV_e7, vBad_e, vStrVal_e, vStrCod_e, vForm_e, vCallT_e0, vCallT_e1, vCallT_e2, vCopy_e, rf_0_0, rf_0_1, rf_0_2, rf_0_3, rf_0_4, rf_0_7, rf_0_10, rf_0_11, rf_0_12, rf_0_13, rf_0_14, rf_0_15, rf_0_16, rf_1_0, rf_3_0, rf_3_1, rf_6_0, rf_6_1, rf_9_0, rf_9_1, rf_9_3, rf_13_0, rf_13_1, rf_13_2, rf_16_0, rf_16_1, rf_16_2, rf_16_3, rf_21_0, rf_21_1, rf_21_2, rf_21_3, rf_26_0, rf_26_1, rf_26_2, rf_26_3, rf_26_4, rf_26_5, rf_26_6, rf_31_0, rf_31_2, rf_31_5, rf_31_6, rf_36_0, rf_36_1, rf_36_2, rf_36_3, rf_39_0, rf_39_1, rf_39_2, rf_41_0, rf_41_1, rf_41_2, rf_41_3, rf_5000_1, rf_5000_2, rf_5000_3, rf_5000_4, rf_5000_5, rf_5000_15, rf_5000_16, rf_5000_18, rf_5000_19, rf_5000_20, rf_5000_21, rf_5000_22, rf_5000_23, rf_5000_24, rf_5000_25, rf_5000_26, rf_5000_27, rf_5000_36, rf_5000_37, rf_5000_40, rf_5000_41, rf_5000_42, rf_5000_43, rf_5000_44, rf_5000_45, rf_5000_47, rf_5000_52, rf_5000_54, rf_5000_55, rf_100_0, rf_100_1, rf_103_0, rf_103_1, rf_106_0, rf_106_1, rf_109_0, rf_109_1, al_2, al_4, al_5, al_7, al_8, al_10, al_11, al_12, al_14, al_15, al_17, al_18, al_19, al_20, al_22, al_23, al_24, al_25, al_27, al_28, al_29, al_30, al_32, al_33, al_34, al_35, al_37, al_38, al_40, al_42, al_5001, al_5002, al_5003, al_5004, al_5005, al_5006, al_5007, al_5008, al_5009, al_5010, al_5011, al_5012, al_5013, al_5014, al_5015, al_5016, al_5017, al_5018, al_5019, al_5020, al_5021, al_5022, al_5023, al_5024, al_5025, al_5026, al_9000, al_101, al_102, al_104, al_105, al_107, al_108, al_110, al_111, vcs_e, lg_c0, lg_cs, lg_nil, set_c0, set_cs, okst_0, okst_s, acok_n, acok_c, List.contains_nil, List.contains_cons, Bool.or_false, Bool.false_or, Bool.false_eq_true, if_false, if_true, ite_self, ne_eq, true_and, and_true, not_false_eq_true, not_true_eq_false, false_imp_iff, true_imp_iff, Nat.ble_eq, Bool.and_eq_true, reduceCtorEq, or_false, false_or, or_true, true_or, false_and, and_false, and_self, Int.reduceLE, Int.reduceAdd, Int.reduceSub, Int.reduceMul, Int.reduceNeg, Int.reduceLT, Int.reduceEq, Int.reduceNe, Nat.reduceBEq, Nat.reduceBNe, Nat.reduceEqDiff, amCmp_in, amCmp_lt, amCmp_le, amCmp_gt, amCmp_ge, amCmp_eq, amCmp_ne, Nat.reduceLeDiff, Nat.reduceSub, Bool.and_true, Bool.true_and, Bool.and_self, Bool.or_true, Bool.true_or, isRf_3, isRf_4, isRf_5, isRf_8, isRf_9, isRf_10, isRf_11, isRf_15, isRf_16, isRf_17, isRf_18, isRf_19, isRf_20, isRf_21, isRf_22, isRf_23, isRf_24, isRf_25, isRf_26, isRf_27, isRf_28, k_J3_checkIndex_8e157_0, k_J3_checkIndex_8e157_1, k_J3_checkIndex_8e157_4, k_J3_checkIndex_8e157_5, k_J3_checkIndex_8e157_6, k_J3_checkIndex_8e157_9, k_J3_checkIndex_8e157_10, k_J3_checkIndex_8e157_11, k_J3_checkIndex_8e157_12, k_J3_checkIndex_8e157_15, k_J3_checkIndex_8e157_16, k_J3_checkIndex_8e157_17]
    repeat' (first | assumption | apply And.intro | intro _)
    all_goals first | exact h | omega
theorem wd_475 : Cond.fieldLink RJ0 1053 "jdk/internal/util/Preconditions" "SIOOBE_FORMATTER" "Ljava/util/function/BiFunction;" ∈ TBL := tb_tab (List.mem_of_getElem? (i := 475) (by decide +kernel)) rfl
theorem wd_527 : Cond.methodLink RJ0 1059 yJ3_checkIndex_8e157 ∈ TBL := tb_tab (List.mem_of_getElem? (i := 527) (by decide +kernel)) rfl
theorem wd_18 : Cond.initialized RJ3 ∈ TBL := tb_tab (List.mem_of_getElem? (i := 18) (by decide +kernel)) rfl
theorem wd_529 : Cond.code yJ3_checkIndex_8e157 cJ3_checkIndex_8e157 3 (some .int) ∈ TBL := tb_tab (List.mem_of_getElem? (i := 529) (by decide +kernel)) rfl
theorem lk_J0_1059 : amLk RJ0 1059 yJ3_checkIndex_8e157 cJ3_checkIndex_8e157 3 (some .int) 3 := ⟨wd_527, wd_18, wd_529, by decide +kernel, by decide +kernel, by decide⟩
theorem wd_528 : Cond.static yJ3_checkIndex_8e157 ∈ TBL := tb_tab (List.mem_of_getElem? (i := 528) (by decide +kernel)) rfl
def a_J0_checkIndex_df160 : AC := [(0, vIload 0 1), (1, vIload 1 2), (2, vForm 5), (5, vCallS w_J3_checkIndex_8e157 3 8), (8, vPop 9), (9, vVret)]
theorem k_J0_checkIndex_df160_0 : look a_J0_checkIndex_df160 0 = vIload 0 1 := rfl
theorem k_J0_checkIndex_df160_1 : look a_J0_checkIndex_df160 1 = vIload 1 2 := rfl
theorem k_J0_checkIndex_df160_2 : look a_J0_checkIndex_df160 2 = vForm 5 := rfl
theorem k_J0_checkIndex_df160_5 : look a_J0_checkIndex_df160 5 = vCallS w_J3_checkIndex_8e157 3 8 := rfl
theorem k_J0_checkIndex_df160_8 : look a_J0_checkIndex_df160 8 = vPop 9 := rfl
theorem k_J0_checkIndex_df160_9 : look a_J0_checkIndex_df160 9 = vVret := rfl
theorem o_J0_checkIndex_df160 {X : amX} (e1 : XT X = TT) (e2 : XD X = 1) (hB : amB X RJ0 cJ0_checkIndex_df160 (none) 2) : ∀ pc, amOK X pc (look a_J0_checkIndex_df160 pc) := by
  have hT : amTok (XT X) := e1 ▸ TT_ok
  refine look_ok ?_
  unfold a_J0_checkIndex_df160
  refine fc (ok_iload_n hB dJ0_checkIndex_df160_0) ?_
  refine fc (ok_iload_n hB dJ0_checkIndex_df160_1) ?_
  refine fc (ok_form hB wd_475 dJ0_checkIndex_df160_2) ?_
  refine fc (ok_callS hB (e1 ▸ s_J3_checkIndex_8e157) lk_J0_1059 (by rw [e2]; decide) wd_528 dJ0_checkIndex_df160_5) ?_
  refine fc (ok_pop hB dJ0_checkIndex_df160_8) ?_
  refine fc (ok_vret hB dJ0_checkIndex_df160_9) ?_
  exact fn

def w_J0_checkIndex_df160 : WP := fun av σ Q => ∃ (i : Int) (m : Int), av = [(0, i), (0, m)] ∧ (0 ≤ i ∧ i < m ∧ InR m ∧ Q (6, 0) σ)
theorem w_J0_checkIndex_df160_e (i : Int) (m : Int) (σ : Mem) (Q : AV → Mem → Prop) : w_J0_checkIndex_df160 [(0, i), (0, m)] σ Q = (0 ≤ i ∧ i < m ∧ InR m ∧ Q (6, 0) σ) := by
  apply propext; constructor
  · rintro ⟨i', m', h9, hb9⟩; cases h9; exact hb9
  · intro hb9; exact ⟨i, m, rfl, hb9⟩

set_option maxRecDepth 100000 in
set_option maxHeartbeats 4000000 in
theorem s_J0_checkIndex_df160 : ∀ av σ Q, w_J0_checkIndex_df160 av σ Q → amCall 1 0 0 TT yJ0_checkIndex_df160 cJ0_checkIndex_df160 2 (none) av σ Q := by
  rintro av σ Q ⟨i, m, rfl, h0, h1, h2, h⟩
  refine am_m0 (own := RJ0) (A := look a_J0_checkIndex_df160) (fun X e1 e2 hB => o_J0_checkIndex_df160 e1 e2 hB) rfl (by decide +kernel) rfl rfl 30 (w := 2) ?_
  change vcs _ _ _ _ 30 0 [(0, i), (0, m)] [] σ
  simp only [vI_e, vL_e, vNull_e, vIload_e, vLload_e, vAload_e, vIstore_e, vLstore_e, vAstore_e, vIinc_e, vIadd_e, vIsub_e, vImul_e, vIand_e, vIor_e, vIxor_e, vIshl_e, vIshr_e, vIushr_e, vIdiv_e, vIrem_e, vLadd_e, vLsub_e, vLmul_e, vLand_e, vLor_e, vLxor_e, vLdiv_e, vLrem_e, vLushr_e, vLshl_e, vLcmp_e, vIneg_e, vI2l_e, vL2i_e, vI2b_e, vI2c_e, vDup_e, vPop_e, vDup2_e, vGoto_e, vIcEq_e, vIfEq_e, vIcNe_e, vIfNe_e, vIcLt_e, vIfLt_e, vIcGe_e, vIfGe_e, vIcGt_e, vIfGt_e, vIcLe_e, vIfLe_e, vNonnull_e, vSw_e, vGetI_e, vGetL_e, vGetR_e, vPutI_e, vPutZ_e, vPutL_e, vPutR_e, vIald_e, vIald_s, vLald_e, vBald_e, vBald_s, vAald_e, vIast_e, vLast_e, vBast_e, vAast_e, vAlen_e8, vAlen_e9, vAlen_e10, vAlen_e11, vAlen_e5, vAlen_e3, vGets_e, vCompact_e, vLdcS_e, vIret_e, vZret_e, vCret_e, vBret_e, vLret_e, vVret_e, vAret_e, vCallM_e0, vCallMV_e0, vCallS_e0, vCallSV_e0, vCallM_e1, vCallMV_e1, vCallS_e1, vCallSV_e1, vCallM_e2, vCallMV_e2, vCallS_e2, vCallSV_e2, vCallM_e3, vCallMV_e3, vCallS_e3, vCallSV_e3, vCallM_e4, vCallMV_e4, vCallS_e4, vCallSV_e4, vCallM_e5, vCallMV_e5, vCallS_e5, vCallSV_e5, vCallM_e6, vCallMV_e6, vCallS_e6, vCallSV_e6, vCallM_e7, vCallMV_e7, vCallS_e7, vCallSV_e7, vBad_e, vStrVal_e, vStrCod_e, vForm_e, vCallT_e0, vCallT_e1, vCallT_e2, vCopy_e, rf_0_0, rf_0_1, rf_0_2, rf_0_3, rf_0_4, rf_0_7, rf_0_10, rf_0_11, rf_0_12, rf_0_13, rf_0_14, rf_0_15, rf_0_16, rf_1_0, rf_3_0, rf_3_1, rf_6_0, rf_6_1, rf_9_0, rf_9_1, rf_9_3, rf_13_0, rf_13_1, rf_13_2, rf_16_0, rf_16_1, rf_16_2, rf_16_3, rf_21_0, rf_21_1, rf_21_2, rf_21_3, rf_26_0, rf_26_1, rf_26_2, rf_26_3, rf_26_4, rf_26_5, rf_26_6, rf_31_0, rf_31_2, rf_31_5, rf_31_6, rf_36_0, rf_36_1, rf_36_2, rf_36_3, rf_39_0, rf_39_1, rf_39_2, rf_41_0, rf_41_1, rf_41_2, rf_41_3, rf_5000_1, rf_5000_2, rf_5000_3, rf_5000_4, rf_5000_5, rf_5000_15, rf_5000_16, rf_5000_18, rf_5000_19, rf_5000_20, rf_5000_21, rf_5000_22, rf_5000_23, rf_5000_24, rf_5000_25, rf_5000_26, rf_5000_27, rf_5000_36, rf_5000_37, rf_5000_40, rf_5000_41, rf_5000_42, rf_5000_43, rf_5000_44, rf_5000_45, rf_5000_47, rf_5000_52, rf_5000_54, rf_5000_55, rf_100_0, rf_100_1, rf_103_0, rf_103_1, rf_106_0, rf_106_1, rf_109_0, rf_109_1, al_2, al_4, al_5, al_7, al_8, al_10, al_11, al_12, al_14, al_15, al_17, al_18, al_19, al_20, al_22, al_23, al_24, al_25, al_27, al_28, al_29, al_30, al_32, al_33, al_34, al_35, al_37, al_38, al_40, al_42, al_5001, al_5002, al_5003, al_5004, al_5005, al_5006, al_5007, al_5008, al_5009, al_5010, al_5011, al_5012, al_5013, al_5014, al_5015, al_5016, al_5017, al_5018, al_5019, al_5020, al_5021, al_5022, al_5023, al_5024, al_5025, al_5026, al_9000, al_101, al_102, al_104, al_105, al_107, al_108, al_110, al_111, vcs_e, lg_c0, lg_cs, lg_nil, set_c0, set_cs, okst_0, okst_s, acok_n, acok_c, List.contains_nil, List.contains_cons, Bool.or_false, Bool.false_or, Bool.false_eq_true, if_false, if_true, ite_self, ne_eq, true_and, and_true, not_false_eq_true, not_true_eq_false, false_imp_iff, true_imp_iff, Nat.ble_eq, Bool.and_eq_true, reduceCtorEq, or_false, false_or, or_true, true_or, false_and, and_false, and_self, Int.reduceLE, Int.reduceAdd, Int.reduceSub, Int.reduceMul, Int.reduceNeg, Int.reduceLT, Int.reduceEq, Int.reduceNe, Nat.reduceBEq, Nat.reduceBNe, Nat.reduceEqDiff, amCmp_in, amCmp_lt, amCmp_le, amCmp_gt, amCmp_ge, amCmp_eq, amCmp_ne, Nat.reduceLeDiff, Nat.reduceSub, Bool.and_true, Bool.true_and, Bool.and_self, Bool.or_true, Bool.true_or, isRf_3, isRf_4, isRf_5, isRf_8, isRf_9, isRf_10, isRf_11, isRf_15, isRf_16, isRf_17, isRf_18, isRf_19, isRf_20, isRf_21, isRf_22, isRf_23, isRf_24, isRf_25, isRf_26, isRf_27, isRf_28, k_J0_checkIndex_df160_0, k_J0_checkIndex_df160_1, k_J0_checkIndex_df160_2, k_J0_checkIndex_df160_5, k_J0_checkIndex_df160_8, k_J0_checkIndex_df160_9, w_J3_checkIndex_8e157_e]
  repeat' (first | assumption | apply And.intro | intro _)
  all_goals first | exact h | omega
theorem wd_524 : Cond.methodLink RJ1 9 yJ0_checkIndex_df160 ∈ TBL := tb_tab (List.mem_of_getElem? (i := 524) (by decide +kernel)) rfl
theorem wd_526 : Cond.code yJ0_checkIndex_df160 cJ0_checkIndex_df160 2 (none) ∈ TBL := tb_tab (List.mem_of_getElem? (i := 526) (by decide +kernel)) rfl
theorem lk_J1_9 : amLk RJ1 9 yJ0_checkIndex_df160 cJ0_checkIndex_df160 2 (none) 2 := ⟨wd_524, wd_14, wd_526, by decide +kernel, by decide +kernel, by decide⟩
theorem wd_525 : Cond.static yJ0_checkIndex_df160 ∈ TBL := tb_tab (List.mem_of_getElem? (i := 525) (by decide +kernel)) rfl
def a_J1_charAt_3b067 : AC := [(0, vIload 1 1), (1, vAload 0 2), (2, vAlen TT 3), (3, vCallSV w_J0_checkIndex_df160 2 6), (6, vAload 0 7), (7, vIload 1 8), (8, vBald TT 9), (9, vI 255 12), (12, vIand 13), (13, vI2c 14), (14, vCret)]
theorem k_J1_charAt_3b067_0 : look a_J1_charAt_3b067 0 = vIload 1 1 := rfl
theorem k_J1_charAt_3b067_1 : look a_J1_charAt_3b067 1 = vAload 0 2 := rfl
theorem k_J1_charAt_3b067_2 : look a_J1_charAt_3b067 2 = vAlen TT 3 := rfl
theorem k_J1_charAt_3b067_3 : look a_J1_charAt_3b067 3 = vCallSV w_J0_checkIndex_df160 2 6 := rfl
theorem k_J1_charAt_3b067_6 : look a_J1_charAt_3b067 6 = vAload 0 7 := rfl
theorem k_J1_charAt_3b067_7 : look a_J1_charAt_3b067 7 = vIload 1 8 := rfl
theorem k_J1_charAt_3b067_8 : look a_J1_charAt_3b067 8 = vBald TT 9 := rfl
theorem k_J1_charAt_3b067_9 : look a_J1_charAt_3b067 9 = vI 255 12 := rfl
theorem k_J1_charAt_3b067_12 : look a_J1_charAt_3b067 12 = vIand 13 := rfl
theorem k_J1_charAt_3b067_13 : look a_J1_charAt_3b067 13 = vI2c 14 := rfl
theorem k_J1_charAt_3b067_14 : look a_J1_charAt_3b067 14 = vCret := rfl
theorem o_J1_charAt_3b067 {X : amX} (e1 : XT X = TT) (e2 : XD X = 2) (hB : amB X RJ1 cJ1_charAt_3b067 (some .char) 2) : ∀ pc, amOK X pc (look a_J1_charAt_3b067 pc) := by
  have hT : amTok (XT X) := e1 ▸ TT_ok
  refine look_ok ?_
  unfold a_J1_charAt_3b067
  refine fc (ok_iload_n hB dJ1_charAt_3b067_0) ?_
  refine fc (ok_aload_n hB dJ1_charAt_3b067_1) ?_
  refine fc (okt_arraylength e1 hB dJ1_charAt_3b067_2) ?_
  refine fc (ok_callSV hB (e1 ▸ s_J0_checkIndex_df160) lk_J1_9 (by rw [e2]; decide) wd_525 dJ1_charAt_3b067_3) ?_
  refine fc (ok_aload_n hB dJ1_charAt_3b067_6) ?_
  refine fc (ok_iload_n hB dJ1_charAt_3b067_7) ?_
  refine fc (okt_baload e1 hB dJ1_charAt_3b067_8) ?_
  refine fc (ok_sipush hB dJ1_charAt_3b067_9 (by decide)) ?_
  refine fc (ok_iand hB dJ1_charAt_3b067_12) ?_
  refine fc (ok_i2c hB dJ1_charAt_3b067_13) ?_
  refine fc (ok_cret hB dJ1_charAt_3b067_14) ?_
  exact fn

def w_J1_charAt_3b067 : WP := fun av σ Q => ∃ (z : Int) (i : Int), av = [(3, z), (0, i)] ∧ (20100 ≤ z ∧ z < 20111 ∧ 0 ≤ i ∧ i < stl z ∧ Q (0, stv z i) σ)
theorem w_J1_charAt_3b067_e (z : Int) (i : Int) (σ : Mem) (Q : AV → Mem → Prop) : w_J1_charAt_3b067 [(3, z), (0, i)] σ Q = (20100 ≤ z ∧ z < 20111 ∧ 0 ≤ i ∧ i < stl z ∧ Q (0, stv z i) σ) := by
  apply propext; constructor
  · rintro ⟨z', i', h9, hb9⟩; cases h9; exact hb9
  · intro hb9; exact ⟨z, i, rfl, hb9⟩

set_option maxRecDepth 100000 in
set_option maxHeartbeats 4000000 in
theorem s_J1_charAt_3b067 : ∀ av σ Q, w_J1_charAt_3b067 av σ Q → amCall 2 0 0 TT yJ1_charAt_3b067 cJ1_charAt_3b067 2 (some .char) av σ Q := by
  rintro av σ Q ⟨z, i, rfl, h0, h1, h2, h3, h⟩
  refine am_m0 (own := RJ1) (A := look a_J1_charAt_3b067) (fun X e1 e2 hB => o_J1_charAt_3b067 e1 e2 hB) rfl (by decide +kernel) rfl rfl 30 (w := 2) ?_
  change vcs _ _ _ _ 30 0 [(3, z), (0, i)] [] σ
  simp only [vI_e, vL_e, vNull_e, vIload_e, vLload_e, vAload_e, vIstore_e, vLstore_e, vAstore_e, vIinc_e, vIadd_e, vIsub_e, vImul_e, vIand_e, vIor_e, vIxor_e, vIshl_e, vIshr_e, vIushr_e, vIdiv_e, vIrem_e, vLadd_e, vLsub_e, vLmul_e, vLand_e, vLor_e, vLxor_e, vLdiv_e, vLrem_e, vLushr_e, vLshl_e, vLcmp_e, vIneg_e, vI2l_e, vL2i_e, vI2b_e, vI2c_e, vDup_e, vPop_e, vDup2_e, vGoto_e, vIcEq_e, vIfEq_e, vIcNe_e, vIfNe_e, vIcLt_e, vIfLt_e, vIcGe_e, vIfGe_e, vIcGt_e, vIfGt_e, vIcLe_e, vIfLe_e, vNonnull_e, vSw_e, vGetI_e, vGetL_e, vGetR_e, vPutI_e, vPutZ_e, vPutL_e, vPutR_e, vIald_e, vIald_s, vLald_e, vBald_e, vBald_s, vAald_e, vIast_e, vLast_e, vBast_e, vAast_e, vAlen_e8, vAlen_e9, vAlen_e10, vAlen_e11, vAlen_e5, vAlen_e3, vGets_e, vCompact_e, vLdcS_e, vIret_e, vZret_e, vCret_e, vBret_e, vLret_e, vVret_e, vAret_e, vCallM_e0, vCallMV_e0, vCallS_e0, vCallSV_e0, vCallM_e1, vCallMV_e1, vCallS_e1, vCallSV_e1, vCallM_e2, vCallMV_e2, vCallS_e2, vCallSV_e2, vCallM_e3, vCallMV_e3, vCallS_e3, vCallSV_e3, vCallM_e4, vCallMV_e4, vCallS_e4, vCallSV_e4, vCallM_e5, vCallMV_e5, vCallS_e5, vCallSV_e5, vCallM_e6, vCallMV_e6, vCallS_e6, vCallSV_e6, vCallM_e7, vCallMV_e7, vCallS_e7, vCallSV_e7, vBad_e, vStrVal_e, vStrCod_e, vForm_e, vCallT_e0, vCallT_e1, vCallT_e2, vCopy_e, rf_0_0, rf_0_1, rf_0_2, rf_0_3, rf_0_4, rf_0_7, rf_0_10, rf_0_11, rf_0_12, rf_0_13, rf_0_14, rf_0_15, rf_0_16, rf_1_0, rf_3_0, rf_3_1, rf_6_0, rf_6_1, rf_9_0, rf_9_1, rf_9_3, rf_13_0, rf_13_1, rf_13_2, rf_16_0, rf_16_1, rf_16_2, rf_16_3, rf_21_0, rf_21_1, rf_21_2, rf_21_3, rf_26_0, rf_26_1, rf_26_2, rf_26_3, rf_26_4, rf_26_5, rf_26_6, rf_31_0, rf_31_2, rf_31_5, rf_31_6, rf_36_0, rf_36_1, rf_36_2, rf_36_3, rf_39_0, rf_39_1, rf_39_2, rf_41_0, rf_41_1, rf_41_2, rf_41_3, rf_5000_1, rf_5000_2, rf_5000_3, rf_5000_4, rf_5000_5, rf_5000_15, rf_5000_16, rf_5000_18, rf_5000_19, rf_5000_20, rf_5000_21, rf_5000_22, rf_5000_23, rf_5000_24, rf_5000_25, rf_5000_26, rf_5000_27, rf_5000_36, rf_5000_37, rf_5000_40, rf_5000_41, rf_5000_42, rf_5000_43, rf_5000_44, rf_5000_45, rf_5000_47, rf_5000_52, rf_5000_54, rf_5000_55, rf_100_0, rf_100_1, rf_103_0, rf_103_1, rf_106_0, rf_106_1, rf_109_0, rf_109_1, al_2, al_4, al_5, al_7, al_8, al_10, al_11, al_12, al_14, al_15, al_17, al_18, al_19, al_20, al_22, al_23, al_24, al_25, al_27, al_28, al_29, al_30, al_32, al_33, al_34, al_35, al_37, al_38, al_40, al_42, al_5001, al_5002, al_5003, al_5004, al_5005, al_5006, al_5007, al_5008, al_5009, al_5010, al_5011, al_5012, al_5013, al_5014, al_5015, al_5016, al_5017, al_5018, al_5019, al_5020, al_5021, al_5022, al_5023, al_5024, al_5025, al_5026, al_9000, al_101, al_102, al_104, al_105, al_107, al_108, al_110, al_111, vcs_e, lg_c0, lg_cs, lg_nil, set_c0, set_cs, okst_0, okst_s, acok_n, acok_c, List.contains_nil, List.contains_cons, Bool.or_false, Bool.false_or, Bool.false_eq_true, if_false, if_true, ite_self, ne_eq, true_and, and_true, not_false_eq_true, not_true_eq_false, false_imp_iff, true_imp_iff, Nat.ble_eq, Bool.and_eq_true, reduceCtorEq, or_false, false_or, or_true, true_or, false_and, and_false, and_self, Int.reduceLE, Int.reduceAdd, Int.reduceSub, Int.reduceMul, Int.reduceNeg, Int.reduceLT, Int.reduceEq, Int.reduceNe, Nat.reduceBEq, Nat.reduceBNe, Nat.reduceEqDiff, amCmp_in, amCmp_lt, amCmp_le, amCmp_gt, amCmp_ge, amCmp_eq, amCmp_ne, Nat.reduceLeDiff, Nat.reduceSub, Bool.and_true, Bool.true_and, Bool.and_self, Bool.or_true, Bool.true_or, isRf_3, isRf_4, isRf_5, isRf_8, isRf_9, isRf_10, isRf_11, isRf_15, isRf_16, isRf_17, isRf_18, isRf_19, isRf_20, isRf_21, isRf_22, isRf_23, isRf_24, isRf_25, isRf_26, isRf_27, isRf_28, k_J1_charAt_3b067_0, k_J1_charAt_3b067_1, k_J1_charAt_3b067_2, k_J1_charAt_3b067_3, k_J1_charAt_3b067_6, k_J1_charAt_3b067_7, k_J1_charAt_3b067_8, k_J1_charAt_3b067_9, k_J1_charAt_3b067_12, k_J1_charAt_3b067_13, k_J1_charAt_3b067_14, w_J0_checkIndex_df160_e]
  have h9 := stl_le (z := z) (by omega) (by omega)
  have h8 := stv_bd h0 h1 h2 h3
  have h7 : amI2c (amIand (stv z i) 255) = stv z i := by rw [amIand_255, amI2c_e]; omega
  rw [h7]
  repeat' (first | assumption | apply And.intro | intro _)
  all_goals first | exact h | omega
theorem wd_428 : Cond.methodLink RJ0 492 yJ0_isLatin1_aae02 ∈ TBL := tb_tab (List.mem_of_getElem? (i := 428) (by decide +kernel)) rfl
theorem wd_431 : Cond.code yJ0_isLatin1_aae02 cJ0_isLatin1_aae02 1 (some .boolean) ∈ TBL := tb_tab (List.mem_of_getElem? (i := 431) (by decide +kernel)) rfl
theorem lk_J0_492 : amLk RJ0 492 yJ0_isLatin1_aae02 cJ0_isLatin1_aae02 1 (some .boolean) 0 := ⟨wd_428, wd_14, wd_431, by decide +kernel, by decide +kernel, by decide⟩
theorem wd_429 : Cond.instanceMethod yJ0_isLatin1_aae02 ∈ TBL := tb_tab (List.mem_of_getElem? (i := 429) (by decide +kernel)) rfl
theorem wd_430 : Cond.selects RJ0 yJ0_isLatin1_aae02 yJ0_isLatin1_aae02 ∈ TBL := tb_tab (List.mem_of_getElem? (i := 430) (by decide +kernel)) rfl
theorem wd_521 : Cond.methodLink RJ0 495 yJ1_charAt_3b067 ∈ TBL := tb_tab (List.mem_of_getElem? (i := 521) (by decide +kernel)) rfl
theorem wd_15 : Cond.initialized RJ1 ∈ TBL := tb_tab (List.mem_of_getElem? (i := 15) (by decide +kernel)) rfl
theorem wd_523 : Cond.code yJ1_charAt_3b067 cJ1_charAt_3b067 2 (some .char) ∈ TBL := tb_tab (List.mem_of_getElem? (i := 523) (by decide +kernel)) rfl
theorem lk_J0_495 : amLk RJ0 495 yJ1_charAt_3b067 cJ1_charAt_3b067 2 (some .char) 2 := ⟨wd_521, wd_15, wd_523, by decide +kernel, by decide +kernel, by decide⟩
theorem wd_522 : Cond.static yJ1_charAt_3b067 ∈ TBL := tb_tab (List.mem_of_getElem? (i := 522) (by decide +kernel)) rfl
theorem wd_530 : Cond.methodLink RJ0 498 yJ2_charAt_3b067 ∈ TBL := tb_tab (List.mem_of_getElem? (i := 530) (by decide +kernel)) rfl
theorem wd_17 : Cond.initialized RJ2 ∈ TBL := tb_tab (List.mem_of_getElem? (i := 17) (by decide +kernel)) rfl
theorem wd_532 : Cond.code yJ2_charAt_3b067 cJ2_charAt_3b067 2 (some .char) ∈ TBL := tb_tab (List.mem_of_getElem? (i := 532) (by decide +kernel)) rfl
theorem lk_J0_498 : amLk RJ0 498 yJ2_charAt_3b067 cJ2_charAt_3b067 2 (some .char) 2 := ⟨wd_530, wd_17, wd_532, by decide +kernel, by decide +kernel, by decide⟩
theorem wd_531 : Cond.static yJ2_charAt_3b067 ∈ TBL := tb_tab (List.mem_of_getElem? (i := 531) (by decide +kernel)) rfl
def a_J0_charAt_5068e : AC := [(0, vAload 0 1), (1, vCallT w_J0_isLatin1_aae02 0 4), (4, vIfEq 16 7), (7, vAload 0 8), (8, vStrVal 11), (11, vIload 1 12), (12, vCallS w_J1_charAt_3b067 2 15), (15, vCret), (16, vAload 0 17), (17, vStrVal 20), (20, vIload 1 21), (21, vBad), (24, vCret)]
theorem k_J0_charAt_5068e_0 : look a_J0_charAt_5068e 0 = vAload 0 1 := rfl
theorem k_J0_charAt_5068e_1 : look a_J0_charAt_5068e 1 = vCallT w_J0_isLatin1_aae02 0 4 := rfl
theorem k_J0_charAt_5068e_4 : look a_J0_charAt_5068e 4 = vIfEq 16 7 := rfl
theorem k_J0_charAt_5068e_7 : look a_J0_charAt_5068e 7 = vAload 0 8 := rfl
theorem k_J0_charAt_5068e_8 : look a_J0_charAt_5068e 8 = vStrVal 11 := rfl
theorem k_J0_charAt_5068e_11 : look a_J0_charAt_5068e 11 = vIload 1 12 := rfl
theorem k_J0_charAt_5068e_12 : look a_J0_charAt_5068e 12 = vCallS w_J1_charAt_3b067 2 15 := rfl
theorem k_J0_charAt_5068e_15 : look a_J0_charAt_5068e 15 = vCret := rfl
theorem k_J0_charAt_5068e_16 : look a_J0_charAt_5068e 16 = vAload 0 17 := rfl
theorem k_J0_charAt_5068e_17 : look a_J0_charAt_5068e 17 = vStrVal 20 := rfl
theorem k_J0_charAt_5068e_20 : look a_J0_charAt_5068e 20 = vIload 1 21 := rfl
theorem k_J0_charAt_5068e_21 : look a_J0_charAt_5068e 21 = vBad := rfl
theorem k_J0_charAt_5068e_24 : look a_J0_charAt_5068e 24 = vCret := rfl
theorem o_J0_charAt_5068e {X : amX} (e1 : XT X = TT) (e2 : XD X = 3) (hB : amB X RJ0 cJ0_charAt_5068e (some .char) 2) : ∀ pc, amOK X pc (look a_J0_charAt_5068e pc) := by
  have hT : amTok (XT X) := e1 ▸ TT_ok
  refine look_ok ?_
  unfold a_J0_charAt_5068e
  refine fc (ok_aload_n hB dJ0_charAt_5068e_0) ?_
  refine fc (ok_callT hB (e1 ▸ s_J0_isLatin1_aae02) lk_J0_492 (by rw [e2]; decide) rfl wd_429 wd_430 dJ0_charAt_5068e_1) ?_
  refine fc (ok_if_eq hB (t := 16) (by decide) dJ0_charAt_5068e_4) ?_
  refine fc (ok_aload_n hB dJ0_charAt_5068e_7) ?_
  refine fc (ok_strVal hB wd_1966 dJ0_charAt_5068e_8) ?_
  refine fc (ok_iload_n hB dJ0_charAt_5068e_11) ?_
  refine fc (ok_callS hB (e1 ▸ s_J1_charAt_3b067) lk_J0_495 (by rw [e2]; decide) wd_522 dJ0_charAt_5068e_12) ?_
  refine fc (ok_cret hB dJ0_charAt_5068e_15) ?_
  refine fc (ok_aload_n hB dJ0_charAt_5068e_16) ?_
  refine fc (ok_strVal hB wd_1966 dJ0_charAt_5068e_17) ?_
  refine fc (ok_iload_n hB dJ0_charAt_5068e_20) ?_
  refine fc (ok_bad) ?_
  refine fc (ok_cret hB dJ0_charAt_5068e_24) ?_
  exact fn

def w_J0_charAt_5068e : WP := fun av σ Q => ∃ (z : Int) (i : Int), av = [(4, z), (0, i)] ∧ (20000 ≤ z ∧ z < 20011 ∧ 0 ≤ i ∧ i < stl (z + 100) ∧ Q (0, stv (z + 100) i) σ)
theorem w_J0_charAt_5068e_e (z : Int) (i : Int) (σ : Mem) (Q : AV → Mem → Prop) : w_J0_charAt_5068e [(4, z), (0, i)] σ Q = (20000 ≤ z ∧ z < 20011 ∧ 0 ≤ i ∧ i < stl (z + 100) ∧ Q (0, stv (z + 100) i) σ) := by
  apply propext; constructor
  · rintro ⟨z', i', h9, hb9⟩; cases h9; exact hb9
  · intro hb9; exact ⟨z, i, rfl, hb9⟩

set_option maxRecDepth 100000 in
set_option maxHeartbeats 4000000 in
theorem s_J0_charAt_5068e : ∀ av σ Q, w_J0_charAt_5068e av σ Q → amCall 3 0 0 TT yJ0_charAt_5068e cJ0_charAt_5068e 2 (some .char) av σ Q := by
  rintro av σ Q ⟨z, i, rfl, h0, h1, h2, h3, h⟩
  refine am_m0 (own := RJ0) (A := look a_J0_charAt_5068e) (fun X e1 e2 hB => o_J0_charAt_5068e e1 e2 hB) rfl (by decide +kernel) rfl rfl 30 (w := 2) ?_
  change vcs _ _ _ _ 30 0 [(4, z), (0, i)] [] σ
  simp only [vI_e, vL_e, vNull_e, vIload_e, vLload_e, vAload_e, vIstore_e, vLstore_e, vAstore_e, vIinc_e, vIadd_e, vIsub_e, vImul_e, vIand_e, vIor_e, vIxor_e, vIshl_e, vIshr_e, vIushr_e, vIdiv_e, vIrem_e, vLadd_e, vLsub_e, vLmul_e, vLand_e, vLor_e, vLxor_e, vLdiv_e, vLrem_e, vLushr_e, vLshl_e, vLcmp_e, vIneg_e, vI2l_e, vL2i_e, vI2b_e, vI2c_e, vDup_e, vPop_e, vDup2_e, vGoto_e, vIcEq_e, vIfEq_e, vIcNe_e, vIfNe_e, vIcLt_e, vIfLt_e, vIcGe_e, vIfGe_e, vIcGt_e, vIfGt_e, vIcLe_e, vIfLe_e, vNonnull_e, vSw_e, vGetI_e, vGetL_e, vGetR_e, vPutI_e, vPutZ_e, vPutL_e, vPutR_e, vIald_e, vIald_s, vLald_e, vBald_e, vBald_s, vAald_e, vIast_e, vLast_e, vBast_e, vAast_e, vAlen_e8, vAlen_e9, vAlen_e10, vAlen_e11, vAlen_e5, vAlen_e3, vGets_e, vCompact_e, vLdcS_e, vIret_e, vZret_e, vCret_e, vBret_e, vLret_e, vVret_e, vAret_e, vCallM_e0, vCallMV_e0, vCallS_e0, vCallSV_e0, vCallM_e1, vCallMV_e1, vCallS_e1, vCallSV_e1, vCallM_e2, vCallMV_e2, vCallS_e2, vCallSV_e2, vCallM_e3, vCallMV_e3, vCallS_e3, vCallSV_e3, vCallM_e4, vCallMV_e4, vCallS_e4, vCallSV_e4, vCallM_e5, vCallMV_e5, vCallS_e5, vCallSV_e5, vCallM_e6, vCallMV_e6, vCallS_e6, vCallSV_e6, vCallM_e7, vCallMV_e7, vCallS_e7, vCallSV_e7, vBad_e, vStrVal_e, vStrCod_e, vForm_e, vCallT_e0, vCallT_e1, vCallT_e2, vCopy_e, rf_0_0, rf_0_1, rf_0_2, rf_0_3, rf_0_4, rf_0_7, rf_0_10, rf_0_11, rf_0_12, rf_0_13, rf_0_14, rf_0_15, rf_0_16, rf_1_0, rf_3_0, rf_3_1, rf_6_0, rf_6_1, rf_9_0, rf_9_1, rf_9_3, rf_13_0, rf_13_1, rf_13_2, rf_16_0, rf_16_1, rf_16_2, rf_16_3, rf_21_0, rf_21_1, rf_21_2, rf_21_3, rf_26_0, rf_26_1, rf_26_2, rf_26_3, rf_26_4, rf_26_5, rf_26_6, rf_31_0, rf_31_2, rf_31_5, rf_31_6, rf_36_0, rf_36_1, rf_36_2, rf_36_3, rf_39_0, rf_39_1, rf_39_2, rf_41_0, rf_41_1, rf_41_2, rf_41_3, rf_5000_1, rf_5000_2, rf_5000_3, rf_5000_4, rf_5000_5, rf_5000_15, rf_5000_16, rf_5000_18, rf_5000_19, rf_5000_20, rf_5000_21, rf_5000_22, rf_5000_23, rf_5000_24, rf_5000_25, rf_5000_26, rf_5000_27, rf_5000_36, rf_5000_37, rf_5000_40, rf_5000_41, rf_5000_42, rf_5000_43, rf_5000_44, rf_5000_45, rf_5000_47, rf_5000_52, rf_5000_54, rf_5000_55, rf_100_0, rf_100_1, rf_103_0, rf_103_1, rf_106_0, rf_106_1, rf_109_0, rf_109_1, al_2, al_4, al_5, al_7, al_8, al_10, al_11, al_12, al_14, al_15, al_17, al_18, al_19, al_20, al_22, al_23, al_24, al_25, al_27, al_28, al_29, al_30, al_32, al_33, al_34, al_35, al_37, al_38, al_40, al_42, al_5001, al_5002, al_5003, al_5004, al_5005, al_5006, al_5007, al_5008, al_5009, al_5010, al_5011, al_5012, al_5013, al_5014, al_5015, al_5016, al_5017, al_5018, al_5019, al_5020, al_5021, al_5022, al_5023, al_5024, al_5025, al_5026, al_9000, al_101, al_102, al_104, al_105, al_107, al_108, al_110, al_111, vcs_e, lg_c0, lg_cs, lg_nil, set_c0, set_cs, okst_0, okst_s, acok_n, acok_c, List.contains_nil, List.contains_cons, Bool.or_false, Bool.false_or, Bool.false_eq_true, if_false, if_true, ite_self, ne_eq, true_and, and_true, not_false_eq_true, not_true_eq_false, false_imp_iff, true_imp_iff, Nat.ble_eq, Bool.and_eq_true, reduceCtorEq, or_false, false_or, or_true, true_or, false_and, and_false, and_self, Int.reduceLE, Int.reduceAdd, Int.reduceSub, Int.reduceMul, Int.reduceNeg, Int.reduceLT, Int.reduceEq, Int.reduceNe, Nat.reduceBEq, Nat.reduceBNe, Nat.reduceEqDiff, amCmp_in, amCmp_lt, amCmp_le, amCmp_gt, amCmp_ge, amCmp_eq, amCmp_ne, Nat.reduceLeDiff, Nat.reduceSub, Bool.and_true, Bool.true_and, Bool.and_self, Bool.or_true, Bool.true_or, isRf_3, isRf_4, isRf_5, isRf_8, isRf_9, isRf_10, isRf_11, isRf_15, isRf_16, isRf_17, isRf_18, isRf_19, isRf_20, isRf_21, isRf_22, isRf_23, isRf_24, isRf_25, isRf_26, isRf_27, isRf_28, k_J0_charAt_5068e_0, k_J0_charAt_5068e_1, k_J0_charAt_5068e_4, k_J0_charAt_5068e_7, k_J0_charAt_5068e_8, k_J0_charAt_5068e_11, k_J0_charAt_5068e_12, k_J0_charAt_5068e_15, k_J0_charAt_5068e_16, k_J0_charAt_5068e_17, k_J0_charAt_5068e_20, k_J0_charAt_5068e_21, k_J0_charAt_5068e_24, w_J0_isLatin1_aae02_e, w_J1_charAt_3b067_e]
  have h8 := stv_bd (z := z + 100) (by omega) (by omega) h2 h3
  repeat' (first | assumption | apply And.intro | intro _)
  all_goals first | exact h | omega
def a_J1_canEncode_9a6ad : AC := [(0, vIload 0 1), (1, vIfLt 15 4), (4, vIload 0 5), (5, vI 255 8), (8, vIcGt 15 11), (11, vI 1 12), (12, vGoto 16), (15, vI 0 16), (16, vZret)]
theorem k_J1_canEncode_9a6ad_0 : look a_J1_canEncode_9a6ad 0 = vIload 0 1 := rfl
theorem k_J1_canEncode_9a6ad_1 : look a_J1_canEncode_9a6ad 1 = vIfLt 15 4 := rfl
theorem k_J1_canEncode_9a6ad_4 : look a_J1_canEncode_9a6ad 4 = vIload 0 5 := rfl
theorem k_J1_canEncode_9a6ad_5 : look a_J1_canEncode_9a6ad 5 = vI 255 8 := rfl
theorem k_J1_canEncode_9a6ad_8 : look a_J1_canEncode_9a6ad 8 = vIcGt 15 11 := rfl
theorem k_J1_canEncode_9a6ad_11 : look a_J1_canEncode_9a6ad 11 = vI 1 12 := rfl
theorem k_J1_canEncode_9a6ad_12 : look a_J1_canEncode_9a6ad 12 = vGoto 16 := rfl
theorem k_J1_canEncode_9a6ad_15 : look a_J1_canEncode_9a6ad 15 = vI 0 16 := rfl
theorem k_J1_canEncode_9a6ad_16 : look a_J1_canEncode_9a6ad 16 = vZret := rfl
theorem o_J1_canEncode_9a6ad {X : amX} (e1 : XT X = TT) (e2 : XD X = 0) (hB : amB X RJ1 cJ1_canEncode_9a6ad (some .boolean) 1) : ∀ pc, amOK X pc (look a_J1_canEncode_9a6ad pc) := by
  have hT : amTok (XT X) := e1 ▸ TT_ok
  refine look_ok ?_
  unfold a_J1_canEncode_9a6ad
  refine fc (ok_iload_n hB dJ1_canEncode_9a6ad_0) ?_
  refine fc (ok_if_lt hB (t := 15) (by decide) dJ1_canEncode_9a6ad_1) ?_
  refine fc (ok_iload_n hB dJ1_canEncode_9a6ad_4) ?_
  refine fc (ok_sipush hB dJ1_canEncode_9a6ad_5 (by decide)) ?_
  refine fc (ok_icmp_gt hB (t := 15) (by decide) dJ1_canEncode_9a6ad_8) ?_
  refine fc (ok_iconst hB dJ1_canEncode_9a6ad_11) ?_
  refine fc (ok_goto hB (t := 16) (by decide) dJ1_canEncode_9a6ad_12) ?_
  refine fc (ok_iconst hB dJ1_canEncode_9a6ad_15) ?_
  refine fc (ok_zret hB dJ1_canEncode_9a6ad_16) ?_
  exact fn

def w_J1_canEncode_9a6ad : WP := fun av σ Q => ∃ (x : Int), av = [(0, x)] ∧ (InR x ∧ Q (0, if 0 ≤ x ∧ x ≤ 255 then 1 else 0) σ)
theorem w_J1_canEncode_9a6ad_e (x : Int) (σ : Mem) (Q : AV → Mem → Prop) : w_J1_canEncode_9a6ad [(0, x)] σ Q = (InR x ∧ Q (0, if 0 ≤ x ∧ x ≤ 255 then 1 else 0) σ) := by
  apply propext; constructor
  · rintro ⟨x', h9, hb9⟩; cases h9; exact hb9
  · intro hb9; exact ⟨x, rfl, hb9⟩

set_option maxRecDepth 100000 in
set_option maxHeartbeats 4000000 in
theorem s_J1_canEncode_9a6ad : ∀ av σ Q, w_J1_canEncode_9a6ad av σ Q → amCall 0 0 0 TT yJ1_canEncode_9a6ad cJ1_canEncode_9a6ad 1 (some .boolean) av σ Q := by
  rintro av σ Q ⟨x, rfl, hx, h⟩
  refine am_m0 (own := RJ1) (A := look a_J1_canEncode_9a6ad) (fun X e1 e2 hB => o_J1_canEncode_9a6ad e1 e2 hB) rfl (by decide +kernel) rfl rfl 30 (w := 1) ?_
  change vcs _ _ _ _ 30 0 [(0, x)] [] σ
  simp only [vI_e, vL_e, vNull_e, vIload_e, vLload_e, vAload_e, vIstore_e, vLstore_e, vAstore_e, vIinc_e, vIadd_e, vIsub_e, vImul_e, vIand_e, vIor_e, vIxor_e, vIshl_e, vIshr_e, vIushr_e, vIdiv_e, vIrem_e, vLadd_e, vLsub_e, vLmul_e, vLand_e, vLor_e, vLxor_e, vLdiv_e, vLrem_e, vLushr_e, vLshl_e, vLcmp_e, vIneg_e, vI2l_e, vL2i_e, vI2b_e, vI2c_e, vDup_e, vPop_e, vDup2_e, vGoto_e, vIcEq_e, vIfEq_e, vIcNe_e, vIfNe_e, vIcLt_e, vIfLt_e, vIcGe_e, vIfGe_e, vIcGt_e, vIfGt_e, vIcLe_e, vIfLe_e, vNonnull_e, vSw_e, vGetI_e, vGetL_e, vGetR_e, vPutI_e, vPutZ_e, vPutL_e, vPutR_e, vIald_e, vIald_s, vLald_e, vBald_e, vBald_s, vAald_e, vIast_e, vLast_e, vBast_e, vAast_e, vAlen_e8, vAlen_e9, vAlen_e10, vAlen_e11, vAlen_e5, vAlen_e3, vGets_e, vCompact_e, vLdcS_e, vIret_e, vZret_e, vCret_e, vBret_e, vLret_e, vVret_e, vAret_e, vCallM_e0, vCallMV_e0, vCallS_e0, vCallSV_e0, vCallM_e1, vCallMV_e1, vCallS_e1, vCallSV_e1, vCallM_e2, vCallMV_e2, vCallS_e2, vCallSV_e2, vCallM_e3, vCallMV_e3, vCallS_e3, vCallSV_e3, vCallM_e4, vCallMV_e4, vCallS_e4, vCallSV_e4, vCallM_e5, vCallMV_e5, vCallS_e5, vCallSV_e5, vCallM_e6, vCallMV_e6, vCallS_e6, vCallSV_e6, vCallM_e7, vCallMV_e7, vCallS_e7, vCallSV_e7, vBad_e, vStrVal_e, vStrCod_e, vForm_e, vCallT_e0, vCallT_e1, vCallT_e2, vCopy_e, rf_0_0, rf_0_1, rf_0_2, rf_0_3, rf_0_4, rf_0_7, rf_0_10, rf_0_11, rf_0_12, rf_0_13, rf_0_14, rf_0_15, rf_0_16, rf_1_0, rf_3_0, rf_3_1, rf_6_0, rf_6_1, rf_9_0, rf_9_1, rf_9_3, rf_13_0, rf_13_1, rf_13_2, rf_16_0, rf_16_1, rf_16_2, rf_16_3, rf_21_0, rf_21_1, rf_21_2, rf_21_3, rf_26_0, rf_26_1, rf_26_2, rf_26_3, rf_26_4, rf_26_5, rf_26_6, rf_31_0, rf_31_2, rf_31_5, rf_31_6, rf_36_0, rf_36_1, rf_36_2, rf_36_3, rf_39_0, rf_39_1, rf_39_2, rf_41_0, rf_41_1, rf_41_2, rf_41_3, rf_5000_1, rf_5000_2, rf_5000_3, rf_5000_4, rf_5000_5, rf_5000_15, rf_5000_16, rf_5000_18, rf_5000_19, rf_5000_20, rf_5000_21, rf_5000_22, rf_5000_23, rf_5000_24, rf_5000_25, rf_5000_26, rf_5000_27, rf_5000_36, rf_5000_37, rf_5000_40, rf_5000_41, rf_5000_42, rf_5000_43, rf_5000_44, rf_5000_45, rf_5000_47, rf_5000_52, rf_5000_54, rf_5000_55, rf_100_0, rf_100_1, rf_103_0, rf_103_1, rf_106_0, rf_106_1, rf_109_0, rf_109_1, al_2, al_4, al_5, al_7, al_8, al_10, al_11, al_12, al_14, al_15, al_17, al_18, al_19, al_20, al_22, al_23, al_24, al_25, al_27, al_28, al_29, al_30, al_32, al_33, al_34, al_35, al_37, al_38, al_40, al_42, al_5001, al_5002, al_5003, al_5004, al_5005, al_5006, al_5007, al_5008, al_5009, al_5010, al_5011, al_5012, al_5013, al_5014, al_5015, al_5016, al_5017, al_5018, al_5019, al_5020, al_5021, al_5022, al_5023, al_5024, al_5025, al_5026, al_9000, al_101, al_102, al_104, al_105, al_107, al_108, al_110, al_111, vcs_e, lg_c0, lg_cs, lg_nil, set_c0, set_cs, okst_0, okst_s, acok_n, acok_c, List.contains_nil, List.contains_cons, Bool.or_false, Bool.false_or, Bool.false_eq_true, if_false, if_true, ite_self, ne_eq, true_and, and_true, not_false_eq_true, not_true_eq_false, false_imp_iff, true_imp_iff, Nat.ble_eq, Bool.and_eq_true, reduceCtorEq, or_false, false_or, or_true, true_or, false_and, and_false, and_self, Int.reduceLE, Int.reduceAdd, Int.reduceSub, Int.reduceMul, Int.reduceNeg, Int.reduceLT, Int.reduceEq, Int.reduceNe, Nat.reduceBEq, Nat.reduceBNe, Nat.reduceEqDiff, amCmp_in, amCmp_lt, amCmp_le, amCmp_gt, amCmp_ge, amCmp_eq, amCmp_ne, Nat.reduceLeDiff, Nat.reduceSub, Bool.and_true, Bool.true_and, Bool.and_self, Bool.or_true, Bool.true_or, isRf_3, isRf_4, isRf_5, isRf_8, isRf_9, isRf_10, isRf_11, isRf_15, isRf_16, isRf_17, isRf_18, isRf_19, isRf_20, isRf_21, isRf_22, isRf_23, isRf_24, isRf_25, isRf_26, isRf_27, isRf_28, k_J1_canEncode_9a6ad_0, k_J1_canEncode_9a6ad_1, k_J1_canEncode_9a6ad_4, k_J1_canEncode_9a6ad_5, k_J1_canEncode_9a6ad_8, k_J1_canEncode_9a6ad_11, k_J1_canEncode_9a6ad_12, k_J1_canEncode_9a6ad_15, k_J1_canEncode_9a6ad_16]
  repeat' (first | assumption | apply And.intro | intro _)
  all_goals first | omega | (split at h <;> first | exact h | omega)
def a_J1_indexOfChar_4cfef : AC := [(0, vIload 1 1), (1, vI2b 2), (2, vIstore 4 4), (4, vIload 2 5), (5, vIstore 5 7), (7, vIload 5 9), (9, vIload 3 10), (10, vIcGe 31 13), (13, vAload 0 14), (14, vIload 5 16), (16, vBald TT 17), (17, vIload 4 19), (19, vIcNe 25 22), (22, vIload 5 24), (24, vIret), (25, vIinc 5 1 28), (28, vGoto 7), (31, vI (-1) 32), (32, vIret)]
theorem k_J1_indexOfChar_4cfef_0 : look a_J1_indexOfChar_4cfef 0 = vIload 1 1 := rfl
theorem k_J1_indexOfChar_4cfef_1 : look a_J1_indexOfChar_4cfef 1 = vI2b 2 := rfl
theorem k_J1_indexOfChar_4cfef_2 : look a_J1_indexOfChar_4cfef 2 = vIstore 4 4 := rfl
theorem k_J1_indexOfChar_4cfef_4 : look a_J1_indexOfChar_4cfef 4 = vIload 2 5 := rfl
theorem k_J1_indexOfChar_4cfef_5 : look a_J1_indexOfChar_4cfef 5 = vIstore 5 7 := rfl
theorem k_J1_indexOfChar_4cfef_7 : look a_J1_indexOfChar_4cfef 7 = vIload 5 9 := rfl
theorem k_J1_indexOfChar_4cfef_9 : look a_J1_indexOfChar_4cfef 9 = vIload 3 10 := rfl
theorem k_J1_indexOfChar_4cfef_10 : look a_J1_indexOfChar_4cfef 10 = vIcGe 31 13 := rfl
theorem k_J1_indexOfChar_4cfef_13 : look a_J1_indexOfChar_4cfef 13 = vAload 0 14 := rfl
theorem k_J1_indexOfChar_4cfef_14 : look a_J1_indexOfChar_4cfef 14 = vIload 5 16 := rfl
theorem k_J1_indexOfChar_4cfef_16 : look a_J1_indexOfChar_4cfef 16 = vBald TT 17 := rfl
theorem k_J1_indexOfChar_4cfef_17 : look a_J1_indexOfChar_4cfef 17 = vIload 4 19 := rfl
theorem k_J1_indexOfChar_4cfef_19 : look a_J1_indexOfChar_4cfef 19 = vIcNe 25 22 := rfl
theorem k_J1_indexOfChar_4cfef_22 : look a_J1_indexOfChar_4cfef 22 = vIload 5 24 := rfl
theorem k_J1_indexOfChar_4cfef_24 : look a_J1_indexOfChar_4cfef 24 = vIret := rfl
theorem k_J1_indexOfChar_4cfef_25 : look a_J1_indexOfChar_4cfef 25 = vIinc 5 1 28 := rfl
theorem k_J1_indexOfChar_4cfef_28 : look a_J1_indexOfChar_4cfef 28 = vGoto 7 := rfl
theorem k_J1_indexOfChar_4cfef_31 : look a_J1_indexOfChar_4cfef 31 = vI (-1) 32 := rfl
theorem k_J1_indexOfChar_4cfef_32 : look a_J1_indexOfChar_4cfef 32 = vIret := rfl
theorem o_J1_indexOfChar_4cfef {X : amX} (e1 : XT X = TT) (e2 : XD X = 0) (hB : amB X RJ1 cJ1_indexOfChar_4cfef (some .int) 6) : ∀ pc, amOK X pc (look a_J1_indexOfChar_4cfef pc) := by
  have hT : amTok (XT X) := e1 ▸ TT_ok
  refine look_ok ?_
  unfold a_J1_indexOfChar_4cfef
  refine fc (ok_iload_n hB dJ1_indexOfChar_4cfef_0) ?_
  refine fc (ok_i2b hB dJ1_indexOfChar_4cfef_1) ?_
  refine fc (ok_istore hB (by decide) dJ1_indexOfChar_4cfef_2) ?_
  refine fc (ok_iload_n hB dJ1_indexOfChar_4cfef_4) ?_
  refine fc (ok_istore hB (by decide) dJ1_indexOfChar_4cfef_5) ?_
  refine fc (ok_iload hB dJ1_indexOfChar_4cfef_7) ?_
  refine fc (ok_iload_n hB dJ1_indexOfChar_4cfef_9) ?_
  refine fc (ok_icmp_ge hB (t := 31) (by decide) dJ1_indexOfChar_4cfef_10) ?_
  refine fc (ok_aload_n hB dJ1_indexOfChar_4cfef_13) ?_
  refine fc (ok_iload hB dJ1_indexOfChar_4cfef_14) ?_
  refine fc (okt_baload e1 hB dJ1_indexOfChar_4cfef_16) ?_
  refine fc (ok_iload hB dJ1_indexOfChar_4cfef_17) ?_
  refine fc (ok_icmp_ne hB (t := 25) (by decide) dJ1_indexOfChar_4cfef_19) ?_
  refine fc (ok_iload hB dJ1_indexOfChar_4cfef_22) ?_
  refine fc (ok_iret hB dJ1_indexOfChar_4cfef_24) ?_
  refine fc (ok_iinc hB (by decide) dJ1_indexOfChar_4cfef_25) ?_
  refine fc (ok_goto hB (t := 7) (by decide) dJ1_indexOfChar_4cfef_28) ?_
  refine fc (ok_iconst hB dJ1_indexOfChar_4cfef_31) ?_
  refine fc (ok_iret hB dJ1_indexOfChar_4cfef_32) ?_
  exact fn
def inv_J1_indexOfChar (z ch fr to r : Int) (σ : Mem) (n pc : Nat) (ls st : List AV) (σ' : Mem) : Prop := pc = 7 ∧ st = [] ∧ σ' = σ ∧ ∃ i : Int, ls = [(3, z), (0, ch), (0, fr), (0, to), (0, amI2b ch), (0, i)] ∧ 0 ≤ i ∧ i + n = to ∧ fidx (stv z) (amI2b ch) i n = r
def w_J1_indexOfChar_4cfef : WP := fun av σ Q => ∃ (z : Int) (ch : Int) (fr : Int) (to : Int), av = [(3, z), (0, ch), (0, fr), (0, to)] ∧ (20100 ≤ z ∧ z < 20111 ∧ 0 ≤ ch ∧ ch ≤ 255 ∧ 0 ≤ fr ∧ fr ≤ to ∧ to ≤ stl z ∧ Q (0, fidx (stv z) ch fr (to - fr).toNat) σ)
theorem w_J1_indexOfChar_4cfef_e (z : Int) (ch : Int) (fr : Int) (to : Int) (σ : Mem) (Q : AV → Mem → Prop) : w_J1_indexOfChar_4cfef [(3, z), (0, ch), (0, fr), (0, to)] σ Q = (20100 ≤ z ∧ z < 20111 ∧ 0 ≤ ch ∧ ch ≤ 255 ∧ 0 ≤ fr ∧ fr ≤ to ∧ to ≤ stl z ∧ Q (0, fidx (stv z) ch fr (to - fr).toNat) σ) := by
  apply propext; constructor
  · rintro ⟨z', ch', fr', to', h9, hb9⟩; cases h9; exact hb9
  · intro hb9; exact ⟨z, ch, fr, to, rfl, hb9⟩

set_option maxRecDepth 100000 in
set_option maxHeartbeats 4000000 in
theorem s_J1_indexOfChar_4cfef : ∀ av σ Q, w_J1_indexOfChar_4cfef av σ Q → amCall 0 0 0 TT yJ1_indexOfChar_4cfef cJ1_indexOfChar_4cfef 6 (some .int) av σ Q := by
  rintro av σ Q ⟨z, ch, fr, to, rfl, h0, h1, h2, h3, h4, h5, h6, h⟩
  have hl := stl_le h0 h1
  have hb : InR (amI2b ch) := by
    obtain ⟨k, rfl⟩ : ∃ k : Nat, ch = k := ⟨ch.toNat, by omega⟩
    rw [amI2b_all k (by omega)]; split <;> omega
  rw [← fidx_b8 h0 h1 h2 h3 h4 (by omega)] at h
  generalize hR : fidx (stv z) (amI2b ch) fr (to - fr).toNat = R at h
  refine am_m [7] (inv_J1_indexOfChar z ch fr to R σ) (own := RJ1) (A := look a_J1_indexOfChar_4cfef) (fun X e1 e2 hB => o_J1_indexOfChar_4cfef e1 e2 hB) rfl (by decide +kernel) rfl rfl ?_ ⟨60, ?_⟩ (w := 6)
  · rintro n pc ls st σ' ⟨rfl, rfl, rfl, i, rfl, hi, hn, hr⟩
    refine ⟨60, ?_⟩
    simp only [vI_e, vL_e, vNull_e, vIload_e, vLload_e, vAload_e, vIstore_e, vLstore_e, vAstore_e, vIinc_e, vIadd_e, vIsub_e, vImul_e, vIand_e, vIor_e, vIxor_e, vIshl_e, vIshr_e, vIushr_e, vIdiv_e, vIrem_e, vLadd_e, vLsub_e, vLmul_e, vLand_e, vLor_e, vLxor_e, vLdiv_e, vLrem_e, vLushr_e, vLshl_e, vLcmp_e, vIneg_e, vI2l_e, vL2i_e, vI2b_e, vI2c_e, vDup_e, vPop_e, vDup2_e, vGoto_e, vIcEq_e, vIfEq_e, vIcNe_e, vIfNe_e, vIcLt_e, vIfLt_e, vIcGe_e, vIfGe_e, vIcGt_e, vIfGt_e, vIcLe_e, vIfLe_e, vNonnull_e, vSw_e, vGetI_e, vGetL_e, vGetR_e, vPutI_e, vPutZ_e, vPutL_e, vPutR_e, vIald_e, vIald_s, vLald_e, vBald_e, vBald_s, vAald_e, vIast_e, vLast_e, vBast_e, vAast_e, vAlen_e8, vAlen_e9, vAlen_e10, vAlen_e11, vAlen_e5, vAlen_e3, vGets_e, vCompact_e, vLdcS_e, vIret_e, vZret_e, vCret_e, vBret_e, vLret_e, vVret_e, vAret_e, vCallM_e0, vCallMV_e0, vCallS_e0, vCallSV_e0, vCallM_e1, vCallMV_e1, vCallS_e1, vCallSV_e1, vCallM_e2, vCallMV_e2, vCallS_e2, vCallSV_e2, vCallM_e3, vCallMV_e3, vCallS_e3, vCallSV_e3, vCallM_e4, vCallMV_e4, vCallS_e4, vCallSV_e4, vCallM_e5, vCallMV_e5, vCallS_e5, vCallSV_e5, vCallM_e6, vCallMV_e6, vCallS_e6, vCallSV_e6, vCallM_e7, vCallMV_e7, vCallS_e7, vCallSV_e7, vBad_e, vStrVal_e, vStrCod_e, vForm_e, vCallT_e0, vCallT_e1, vCallT_e2, vCopy_e, rf_0_0, rf_0_1, rf_0_2, rf_0_3, rf_0_4, rf_0_7, rf_0_10, rf_0_11, rf_0_12, rf_0_13, rf_0_14, rf_0_15, rf_0_16, rf_1_0, rf_3_0, rf_3_1, rf_6_0, rf_6_1, rf_9_0, rf_9_1, rf_9_3, rf_13_0, rf_13_1, rf_13_2, rf_16_0, rf_16_1, rf_16_2, rf_16_3, rf_21_0, rf_21_1, rf_21_2, rf_21_3, rf_26_0, rf_26_1, rf_26_2, rf_26_3, rf_26_4, rf_26_5, rf_26_6, rf_31_0, rf_31_2, rf_31_5, rf_31_6, rf_36_0, rf_36_1, rf_36_2, rf_36_3, rf_39_0, rf_39_1, rf_39_2, rf_41_0, rf_41_1, rf_41_2, rf_41_3, rf_5000_1, rf_5000_2, rf_5000_3, rf_5000_4, rf_5000_5, rf_5000_15, rf_5000_16, rf_5000_18, rf_5000_19, rf_5000_20, rf_5000_21, rf_5000_22, rf_5000_23, rf_5000_24, rf_5000_25, rf_5000_26, rf_5000_27, rf_5000_36, rf_5000_37, rf_5000_40, rf_5000_41, rf_5000_42, rf_5000_43, rf_5000_44, rf_5000_45, rf_5000_47, rf_5000_52, rf_5000_54, rf_5000_55, rf_100_0, rf_100_1, rf_103_0, rf_103_1, rf_106_0, rf_106_1, rf_109_0, rf_109_1, al_2, al_4, al_5, al_7, al_8, al_10, al_11, al_12, al_14, al_15, al_17, al_18, al_19, al_20, al_22, al_23, al_24, al_25, al_27, al_28, al_29, al_30, al_32, al_33, al_34, al_35, al_37, al_38, al_40, al_42, al_5001, al_5002, al_5003, al_5004, al_5005, al_5006, al_5007, al_5008, al_5009, al_5010, al_5011, al_5012, al_5013, al_5014, al_5015, al_5016, al_5017, al_5018, al_5019, al_5020, al_5021, al_5022, al_5023, al_5024, al_5025, al_5026, al_9000, al_101, al_102, al_104, al_105, al_107, al_108, al_110, al_111, vcs_e, lg_c0, lg_cs, lg_nil, set_c0, set_cs, okst_0, okst_s, acok_n, acok_c, List.contains_nil, List.contains_cons, Bool.or_false, Bool.false_or, Bool.false_eq_true, if_false, if_true, ite_self, ne_eq, true_and, and_true, not_false_eq_true, not_true_eq_false, false_imp_iff, true_imp_iff, Nat.ble_eq, Bool.and_eq_true, reduceCtorEq, or_false, false_or, or_true, true_or, false_and, and_false, and_self, Int.reduceLE, Int.reduceAdd, Int.reduceSub, Int.reduceMul, Int.reduceNeg, Int.reduceLT, Int.reduceEq, Int.reduceNe, Nat.reduceBEq, Nat.reduceBNe, Nat.reduceEqDiff, amCmp_in, amCmp_lt, amCmp_le, amCmp_gt, amCmp_ge, amCmp_eq, amCmp_ne, Nat.reduceLeDiff, Nat.reduceSub, Bool.and_true, Bool.true_and, Bool.and_self, Bool.or_true, Bool.true_or, isRf_3, isRf_4, isRf_5, isRf_8, isRf_9, isRf_10, isRf_11, isRf_15, isRf_16, isRf_17, isRf_18, isRf_19, isRf_20, isRf_21, isRf_22, isRf_23, isRf_24, isRf_25, isRf_26, isRf_27, isRf_28, k_J1_indexOfChar_4cfef_0, k_J1_indexOfChar_4cfef_1, k_J1_indexOfChar_4cfef_2, k_J1_indexOfChar_4cfef_4, k_J1_indexOfChar_4cfef_5, k_J1_indexOfChar_4cfef_7, k_J1_indexOfChar_4cfef_9, k_J1_indexOfChar_4cfef_10, k_J1_indexOfChar_4cfef_13, k_J1_indexOfChar_4cfef_14, k_J1_indexOfChar_4cfef_16, k_J1_indexOfChar_4cfef_17, k_J1_indexOfChar_4cfef_19, k_J1_indexOfChar_4cfef_22, k_J1_indexOfChar_4cfef_24, k_J1_indexOfChar_4cfef_25, k_J1_indexOfChar_4cfef_28, k_J1_indexOfChar_4cfef_31, k_J1_indexOfChar_4cfef_32]
    refine ⟨by omega, by omega, fun c => ?_, fun c => ?_⟩
    · have : n = 0 := by omega
      subst this
      unfold fidx at hr
      rw [hr]; exact h
    · obtain ⟨n, rfl⟩ : ∃ k, n = k + 1 := ⟨n - 1, by omega⟩
      have hs := stv_bd h0 h1 hi (by omega)
      unfold fidx at hr
      refine ⟨h0, h1, hi, by omega, by omega, hb, fun c2 => ?_, fun c2 => ?_⟩
      · rw [if_neg c2] at hr
        exact ⟨n, by omega, rfl, rfl, rfl, i + 1, rfl, by omega, by omega, hr⟩
      · rw [if_pos c2] at hr
        rw [hr]; exact h
  · change vcs _ _ _ _ 60 0 [(3, z), (0, ch), (0, fr), (0, to), (6, 0), (6, 0)] [] σ
    simp only [vI_e, vL_e, vNull_e, vIload_e, vLload_e, vAload_e, vIstore_e, vLstore_e, vAstore_e, vIinc_e, vIadd_e, vIsub_e, vImul_e, vIand_e, vIor_e, vIxor_e, vIshl_e, vIshr_e, vIushr_e, vIdiv_e, vIrem_e, vLadd_e, vLsub_e, vLmul_e, vLand_e, vLor_e, vLxor_e, vLdiv_e, vLrem_e, vLushr_e, vLshl_e, vLcmp_e, vIneg_e, vI2l_e, vL2i_e, vI2b_e, vI2c_e, vDup_e, vPop_e, vDup2_e, vGoto_e, vIcEq_e, vIfEq_e, vIcNe_e, vIfNe_e, vIcLt_e, vIfLt_e, vIcGe_e, vIfGe_e, vIcGt_e, vIfGt_e, vIcLe_e, vIfLe_e, vNonnull_e, vSw_e, vGetI_e, vGetL_e, vGetR_e, vPutI_e, vPutZ_e, vPutL_e, vPutR_e, vIald_e, vIald_s, vLald_e, vBald_e, vBald_s, vAald_e, vIast_e, vLast_e, vBast_e, vAast_e, vAlen_e8, vAlen_e9, vAlen_e10, vAlen_e11, vAlen_e5, vAlen_e3, vGets_e, vCompact_e, vLdcS_e, vIret_e, vZret_e, vCret_e, vBret_e, vLret_e, vVret_e, vAret_e, vCallM_e0, vCallMV_e0, vCallS_e0, vCallSV_e0, vCallM_e1, vCallMV_e1, vCallS_e1, vCallSV_e1, vCallM_e2, vCallMV_e2, vCallS_e2, vCallSV_e2, vCallM_e3, vCallMV_e3, vCallS_e3, vCallSV_e3, vCallM_e4, vCallMV_e4, vCallS_e4, vCallSV_e4, vCallM_e5, vCallMV_e5, vCallS_e5, vCallSV_e5, vCallM_e6, vCallMV_e6, vCallS_e6, vCallSV_e6, vCallM_e7, vCallMV_e7, vCallS_e7, vCallSV_e7, vBad_e, vStrVal_e, vStrCod_e, vForm_e, vCallT_e0, vCallT_e1, vCallT_e2, vCopy_e, rf_0_0, rf_0_1, rf_0_2, rf_0_3, rf_0_4, rf_0_7, rf_0_10, rf_0_11, rf_0_12, rf_0_13, rf_0_14, rf_0_15, rf_0_16, rf_1_0, rf_3_0, rf_3_1, rf_6_0, rf_6_1, rf_9_0, rf_9_1, rf_9_3, rf_13_0, rf_13_1, rf_13_2, rf_16_0, rf_16_1, rf_16_2, rf_16_3, rf_21_0, rf_21_1, rf_21_2, rf_21_3, rf_26_0, rf_26_1, rf_26_2, rf_26_3, rf_26_4, rf_26_5, rf_26_6, rf_31_0, rf_31_2, rf_31_5, rf_31_6, rf_36_0, rf_36_1, rf_36_2, rf_36_3, rf_39_0, rf_39_1, rf_39_2, rf_41_0, rf_41_1, rf_41_2, rf_41_3, rf_5000_1, rf_5000_2, rf_5000_3, rf_5000_4, rf_5000_5, rf_5000_15, rf_5000_16, rf_5000_18, rf_5000_19, rf_5000_20, rf_5000_21, rf_5000_22, rf_5000_23, rf_5000_24, rf_5000_25, rf_5000_26, rf_5000_27, rf_5000_36, rf_5000_37, rf_5000_40, rf_5000_41, rf_5000_42, rf_5000_43, rf_5000_44, rf_5000_45, rf_5000_47, rf_5000_52, rf_5000_54, rf_5000_55, rf_100_0, rf_100_1, rf_103_0, rf_103_1, rf_106_0, rf_106_1, rf_109_0, rf_109_1, al_2, al_4, al_5, al_7, al_8, al_10, al_11, al_12, al_14, al_15, al_17, al_18, al_19, al_20, al_22, al_23, al_24, al_25, al_27, al_28, al_29, al_30, al_32, al_33, al_34, al_35, al_37, al_38, al_40, al_42, al_5001, al_5002, al_5003, al_5004, al_5005, al_5006, al_5007, al_5008, al_5009, al_5010, al_5011, al_5012, al_5013, al_5014, al_5015, al_5016, al_5017, al_5018, al_5019, al_5020, al_5021, al_5022, al_5023, al_5024, al_5025, al_5026, al_9000, al_101, al_102, al_104, al_105, al_107, al_108, al_110, al_111, vcs_e, lg_c0, lg_cs, lg_nil, set_c0, set_cs, okst_0, okst_s, acok_n, acok_c, List.contains_nil, List.contains_cons, Bool.or_false, Bool.false_or, Bool.false_eq_true, if_false, if_true, ite_self, ne_eq, true_and, and_true, not_false_eq_true, not_true_eq_false, false_imp_iff, true_imp_iff, Nat.ble_eq, Bool.and_eq_true, reduceCtorEq, or_false, false_or, or_true, true_or, false_and, and_false, and_self, Int.reduceLE, Int.reduceAdd, Int.reduceSub, Int.reduceMul, Int.reduceNeg, Int.reduceLT, Int.reduceEq, Int.reduceNe, Nat.reduceBEq, Nat.reduceBNe, Nat.reduceEqDiff, amCmp_in, amCmp_lt, amCmp_le, amCmp_gt, amCmp_ge, amCmp_eq, amCmp_ne, Nat.reduceLeDiff, Nat.reduceSub, Bool.and_true, Bool.true_and, Bool.and_self, Bool.or_true, Bool.true_or, isRf_3, isRf_4, isRf_5, isRf_8, isRf_9, isRf_10, isRf_11, isRf_15, isRf_16, isRf_17, isRf_18, isRf_19, isRf_20, isRf_21, isRf_22, isRf_23, isRf_24, isRf_25, isRf_26, isRf_27, isRf_28, k_J1_indexOfChar_4cfef_0, k_J1_indexOfChar_4cfef_1, k_J1_indexOfChar_4cfef_2, k_J1_indexOfChar_4cfef_4, k_J1_indexOfChar_4cfef_5, k_J1_indexOfChar_4cfef_7, k_J1_indexOfChar_4cfef_9, k_J1_indexOfChar_4cfef_10, k_J1_indexOfChar_4cfef_13, k_J1_indexOfChar_4cfef_14, k_J1_indexOfChar_4cfef_16, k_J1_indexOfChar_4cfef_17, k_J1_indexOfChar_4cfef_19, k_J1_indexOfChar_4cfef_22, k_J1_indexOfChar_4cfef_24, k_J1_indexOfChar_4cfef_25, k_J1_indexOfChar_4cfef_28, k_J1_indexOfChar_4cfef_31, k_J1_indexOfChar_4cfef_32]
    exact ⟨(to - fr).toNat, rfl, rfl, rfl, fr, rfl, h4, by omega, hR⟩
theorem wd_445 : Cond.methodLink RJ1 88 yJ1_canEncode_9a6ad ∈ TBL := tb_tab (List.mem_of_getElem? (i := 445) (by decide +kernel)) rfl
theorem wd_447 : Cond.code yJ1_canEncode_9a6ad cJ1_canEncode_9a6ad 1 (some .boolean) ∈ TBL := tb_tab (List.mem_of_getElem? (i := 447) (by decide +kernel)) rfl
theorem lk_J1_88 : amLk RJ1 88 yJ1_canEncode_9a6ad cJ1_canEncode_9a6ad 1 (some .boolean) 1 := ⟨wd_445, wd_15, wd_447, by decide +kernel, by decide +kernel, by decide⟩
theorem wd_446 : Cond.static yJ1_canEncode_9a6ad ∈ TBL := tb_tab (List.mem_of_getElem? (i := 446) (by decide +kernel)) rfl
theorem wd_448 : Cond.methodLink RJ1 92 yJ9_max_7cf53 ∈ TBL := tb_tab (List.mem_of_getElem? (i := 448) (by decide +kernel)) rfl
theorem wd_16 : Cond.initialized RJ9 ∈ TBL := tb_tab (List.mem_of_getElem? (i := 16) (by decide +kernel)) rfl
theorem wd_450 : Cond.code yJ9_max_7cf53 cJ9_max_7cf53 2 (some .int) ∈ TBL := tb_tab (List.mem_of_getElem? (i := 450) (by decide +kernel)) rfl
theorem lk_J1_92 : amLk RJ1 92 yJ9_max_7cf53 cJ9_max_7cf53 2 (some .int) 2 := ⟨wd_448, wd_16, wd_450, by decide +kernel, by decide +kernel, by decide⟩
theorem wd_449 : Cond.static yJ9_max_7cf53 ∈ TBL := tb_tab (List.mem_of_getElem? (i := 449) (by decide +kernel)) rfl
theorem wd_451 : Cond.methodLink RJ1 38 yJ9_min_7cf53 ∈ TBL := tb_tab (List.mem_of_getElem? (i := 451) (by decide +kernel)) rfl
theorem wd_453 : Cond.code yJ9_min_7cf53 cJ9_min_7cf53 2 (some .int) ∈ TBL := tb_tab (List.mem_of_getElem? (i := 453) (by decide +kernel)) rfl
theorem lk_J1_38 : amLk RJ1 38 yJ9_min_7cf53 cJ9_min_7cf53 2 (some .int) 2 := ⟨wd_451, wd_16, wd_453, by decide +kernel, by decide +kernel, by decide⟩
theorem wd_452 : Cond.static yJ9_min_7cf53 ∈ TBL := tb_tab (List.mem_of_getElem? (i := 452) (by decide +kernel)) rfl
theorem wd_454 : Cond.methodLink RJ1 95 yJ1_indexOfChar_4cfef ∈ TBL := tb_tab (List.mem_of_getElem? (i := 454) (by decide +kernel)) rfl
theorem wd_456 : Cond.code yJ1_indexOfChar_4cfef cJ1_indexOfChar_4cfef 6 (some .int) ∈ TBL := tb_tab (List.mem_of_getElem? (i := 456) (by decide +kernel)) rfl
theorem lk_J1_95 : amLk RJ1 95 yJ1_indexOfChar_4cfef cJ1_indexOfChar_4cfef 6 (some .int) 4 := ⟨wd_454, wd_15, wd_456, by decide +kernel, by decide +kernel, by decide⟩
theorem wd_455 : Cond.static yJ1_indexOfChar_4cfef ∈ TBL := tb_tab (List.mem_of_getElem? (i := 455) (by decide +kernel)) rfl
def a_J1_indexOf_4cfef : AC := [(0, vIload 1 1), (1, vCallS w_J1_canEncode_9a6ad 1 4), (4, vIfNe 9 7), (7, vI (-1) 8), (8, vIret), (9, vIload 2 10), (10, vI 0 11), (11, vCallS w_J9_max_7cf53 2 14), (14, vIstore 2 15), (15, vIload 3 16), (16, vAload 0 17), (17, vAlen TT 18), (18, vCallS w_J9_min_7cf53 2 21), (21, vIstore 3 22), (22, vIload 2 23), (23, vIload 3 24), (24, vIcLt 29 27), (27, vI (-1) 28), (28, vIret), (29, vAload 0 30), (30, vIload 1 31), (31, vIload 2 32), (32, vIload 3 33), (33, vCallS w_J1_indexOfChar_4cfef 4 36), (36, vIret)]
theorem k_J1_indexOf_4cfef_0 : look a_J1_indexOf_4cfef 0 = vIload 1 1 := rfl
theorem k_J1_indexOf_4cfef_1 : look a_J1_indexOf_4cfef 1 = vCallS w_J1_canEncode_9a6ad 1 4 := rfl
theorem k_J1_indexOf_4cfef_4 : look a_J1_indexOf_4cfef 4 = vIfNe 9 7 := rfl
theorem k_J1_indexOf_4cfef_7 : look a_J1_indexOf_4cfef 7 = vI (-1) 8 := rfl
theorem k_J1_indexOf_4cfef_8 : look a_J1_indexOf_4cfef 8 = vIret := rfl
theorem k_J1_indexOf_4cfef_9 : look a_J1_indexOf_4cfef 9 = vIload 2 10 := rfl
theorem k_J1_indexOf_4cfef_10 : look a_J1_indexOf_4cfef 10 = vI 0 11 := rfl
theorem k_J1_indexOf_4cfef_11 : look a_J1_indexOf_4cfef 11 = vCallS w_J9_max_7cf53 2 14 := rfl
theorem k_J1_indexOf_4cfef_14 : look a_J1_indexOf_4cfef 14 = vIstore 2 15 := rfl
theorem k_J1_indexOf_4cfef_15 : look a_J1_indexOf_4cfef 15 = vIload 3 16 := rfl
theorem k_J1_indexOf_4cfef_16 : look a_J1_indexOf_4cfef 16 = vAload 0 17 := rfl
theorem k_J1_indexOf_4cfef_17 : look a_J1_indexOf_4cfef 17 = vAlen TT 18 := rfl
theorem k_J1_indexOf_4cfef_18 : look a_J1_indexOf_4cfef 18 = vCallS w_J9_min_7cf53 2 21 := rfl
theorem k_J1_indexOf_4cfef_21 : look a_J1_indexOf_4cfef 21 = vIstore 3 22 := rfl
theorem k_J1_indexOf_4cfef_22 : look a_J1_indexOf_4cfef 22 = vIload 2 23 := rfl
theorem k_J1_indexOf_4cfef_23 : look a_J1_indexOf_4cfef 23 = vIload 3 24 := rfl
theorem k_J1_indexOf_4cfef_24 : look a_J1_indexOf_4cfef 24 = vIcLt 29 27 := rfl
theorem k_J1_indexOf_4cfef_27 : look a_J1_indexOf_4cfef 27 = vI (-1) 28 := rfl
theorem k_J1_indexOf_4cfef_28 : look a_J1_indexOf_4cfef 28 = vIret := rfl
theorem k_J1_indexOf_4cfef_29 : look a_J1_indexOf_4cfef 29 = vAload 0 30 := rfl
theorem k_J1_indexOf_4cfef_30 : look a_J1_indexOf_4cfef 30 = vIload 1 31 := rfl
theorem k_J1_indexOf_4cfef_31 : look a_J1_indexOf_4cfef 31 = vIload 2 32 := rfl
theorem k_J1_indexOf_4cfef_32 : look a_J1_indexOf_4cfef 32 = vIload 3 33 := rfl
theorem k_J1_indexOf_4cfef_33 : look a_J1_indexOf_4cfef 33 = vCallS w_J1_indexOfChar_4cfef 4 36 := rfl
theorem k_J1_indexOf_4cfef_36 : look a_J1_indexOf_4cfef 36 = vIret := rfl
theorem o_J1_indexOf_4cfef {X : amX} (e1 : XT X = TT) (e2 : XD X = 1) (hB : amB X RJ1 cJ1_indexOf_4cfef (some .int) 4) : ∀ pc, amOK X pc (look a_J1_indexOf_4cfef pc) := by
  have hT : amTok (XT X) := e1 ▸ TT_ok
  refine look_ok ?_
  unfold a_J1_indexOf_4cfef
  refine fc (ok_iload_n hB dJ1_indexOf_4cfef_0) ?_
  refine fc (ok_callS hB (e1 ▸ s_J1_canEncode_9a6ad) lk_J1_88 (by rw [e2]; decide) wd_446 dJ1_indexOf_4cfef_1) ?_
  refine fc (ok_if_ne hB (t := 9) (by decide) dJ1_indexOf_4cfef_4) ?_
  refine fc (ok_iconst hB dJ1_indexOf_4cfef_7) ?_
  refine fc (ok_iret hB dJ1_indexOf_4cfef_8) ?_
  refine fc (ok_iload_n hB dJ1_indexOf_4cfef_9) ?_
  refine fc (ok_iconst hB dJ1_indexOf_4cfef_10) ?_
  refine fc (ok_callS hB (e1 ▸ s_J9_max_7cf53) lk_J1_92 (by rw [e2]; decide) wd_449 dJ1_indexOf_4cfef_11) ?_
  refine fc (ok_istore_n hB (by decide) dJ1_indexOf_4cfef_14) ?_
  refine fc (ok_iload_n hB dJ1_indexOf_4cfef_15) ?_
  refine fc (ok_aload_n hB dJ1_indexOf_4cfef_16) ?_
  refine fc (okt_arraylength e1 hB dJ1_indexOf_4cfef_17) ?_
  refine fc (ok_callS hB (e1 ▸ s_J9_min_7cf53) lk_J1_38 (by rw [e2]; decide) wd_452 dJ1_indexOf_4cfef_18) ?_
  refine fc (ok_istore_n hB (by decide) dJ1_indexOf_4cfef_21) ?_
  refine fc (ok_iload_n hB dJ1_indexOf_4cfef_22) ?_
  refine fc (ok_iload_n hB dJ1_indexOf_4cfef_23) ?_
  refine fc (ok_icmp_lt hB (t := 29) (by decide) dJ1_indexOf_4cfef_24) ?_
  refine fc (ok_iconst hB dJ1_indexOf_4cfef_27) ?_
  refine fc (ok_iret hB dJ1_indexOf_4cfef_28) ?_
  refine fc (ok_aload_n hB dJ1_indexOf_4cfef_29) ?_
  refine fc (ok_iload_n hB dJ1_indexOf_4cfef_30) ?_
  refine fc (ok_iload_n hB dJ1_indexOf_4cfef_31) ?_
  refine fc (ok_iload_n hB dJ1_indexOf_4cfef_32) ?_
  refine fc (ok_callS hB (e1 ▸ s_J1_indexOfChar_4cfef) lk_J1_95 (by rw [e2]; decide) wd_455 dJ1_indexOf_4cfef_33) ?_
  refine fc (ok_iret hB dJ1_indexOf_4cfef_36) ?_
  exact fn

def w_J1_indexOf_4cfef : WP := fun av σ Q => ∃ (z : Int) (ch : Int) (fr : Int) (to : Int), av = [(3, z), (0, ch), (0, fr), (0, to)] ∧ (20100 ≤ z ∧ z < 20111 ∧ InR ch ∧ fr = 0 ∧ to = stl z ∧ 0 < stl z ∧ Q (0, fidx (stv z) ch 0 (stl z).toNat) σ)
theorem w_J1_indexOf_4cfef_e (z : Int) (ch : Int) (fr : Int) (to : Int) (σ : Mem) (Q : AV → Mem → Prop) : w_J1_indexOf_4cfef [(3, z), (0, ch), (0, fr), (0, to)] σ Q = (20100 ≤ z ∧ z < 20111 ∧ InR ch ∧ fr = 0 ∧ to = stl z ∧ 0 < stl z ∧ Q (0, fidx (stv z) ch 0 (stl z).toNat) σ) := by
  apply propext; constructor
  · rintro ⟨z', ch', fr', to', h9, hb9⟩; cases h9; exact hb9
  · intro hb9; exact ⟨z, ch, fr, to, rfl, hb9⟩

set_option maxRecDepth 100000 in
set_option maxHeartbeats 4000000 in
theorem s_J1_indexOf_4cfef : ∀ av σ Q, w_J1_indexOf_4cfef av σ Q → amCall 1 0 0 TT yJ1_indexOf_4cfef cJ1_indexOf_4cfef 4 (some .int) av σ Q := by
  rintro av σ Q ⟨z, ch, fr, to, rfl, h0, h1, h2, rfl, rfl, h3, h⟩
  have hl := stl_le h0 h1
  refine am_m0 (own := RJ1) (A := look a_J1_indexOf_4cfef) (fun X e1 e2 hB => o_J1_indexOf_4cfef e1 e2 hB) rfl (by decide +kernel) rfl rfl 60 (w := 4) ?_
  change vcs _ _ _ _ 60 0 [(3, z), (0, ch), (0, 0), (0, stl z)] [] σ
  simp only [vI_e, vL_e, vNull_e, vIload_e, vLload_e, vAload_e, vIstore_e, vLstore_e, vAstore_e, vIinc_e, vIadd_e, vIsub_e, vImul_e, vIand_e, vIor_e, vIxor_e, vIshl_e, vIshr_e, vIushr_e, vIdiv_e, vIrem_e, vLadd_e, vLsub_e, vLmul_e, vLand_e, vLor_e, vLxor_e, vLdiv_e, vLrem_e, vLushr_e, vLshl_e, vLcmp_e, vIneg_e, vI2l_e, vL2i_e, vI2b_e, vI2c_e, vDup_e, vPop_e, vDup2_e, vGoto_e, vIcEq_e, vIfEq_e, vIcNe_e, vIfNe_e, vIcLt_e, vIfLt_e, vIcGe_e, vIfGe_e, vIcGt_e, vIfGt_e, vIcLe_e, vIfLe_e, vNonnull_e, vSw_e, vGetI_e, vGetL_e, vGetR_e, vPutI_e, vPutZ_e, vPutL_e, vPutR_e, vIald_e, vIald_s, vLald_e, vBald_e, vBald_s, vAald_e, vIast_e, vLast_e, vBast_e, vAast_e, vAlen_e8, vAlen_e9, vAlen_e10, vAlen_e11, vAlen_e5, vAlen_e3, vGets_e, vCompact_e, vLdcS_e, vIret_e, vZret_e, vCret_e, vBret_e, vLret_e, vVret_e, vAret_e, vCallM_e0, vCallMV_e0, vCallS_e0, vCallSV_e0, vCallM_e1, vCallMV_e1, vCallS_e1, vCallSV_e1, vCallM_e2, vCallMV_e2, vCallS_e2, vCallSV_e2, vCallM_e3, vCallMV_e3, vCallS_e3, vCallSV_e3, vCallM_e4, vCallMV_e4, vCallS_e4, vCallSV_e4, vCallM_e5, vCallMV_e5, vCallS_e5, vCallSV_e5, vCallM_e6, vCallMV_e6, vCallS_e6, vCallSV_e6, vCallM_e7, vCallMV_e7, vCallS_e7, vCallSV_e7, vBad_e, vStrVal_e, vStrCod_e, vForm_e, vCallT_e0, vCallT_e1, vCallT_e2, vCopy_e, rf_0_0, rf_0_1, rf_0_2, rf_0_3, rf_0_4, rf_0_7, rf_0_10, rf_0_11, rf_0_12, rf_0_13, rf_0_14, rf_0_15, rf_0_16, rf_1_0, rf_3_0, rf_3_1, rf_6_0, rf_6_1, rf_9_0, rf_9_1, rf_9_3, rf_13_0, rf_13_1, rf_13_2, rf_16_0, rf_16_1, rf_16_2, rf_16_3, rf_21_0, rf_21_1, rf_21_2, rf_21_3, rf_26_0, rf_26_1, rf_26_2, rf_26_3, rf_26_4, rf_26_5, rf_26_6, rf_31_0, rf_31_2, rf_31_5, rf_31_6, rf_36_0, rf_36_1, rf_36_2, rf_36_3, rf_39_0, rf_39_1, rf_39_2, rf_41_0, rf_41_1, rf_41_2, rf_41_3, rf_5000_1, rf_5000_2, rf_5000_3, rf_5000_4, rf_5000_5, rf_5000_15, rf_5000_16, rf_5000_18, rf_5000_19, rf_5000_20, rf_5000_21, rf_5000_22, rf_5000_23, rf_5000_24, rf_5000_25, rf_5000_26, rf_5000_27, rf_5000_36, rf_5000_37, rf_5000_40, rf_5000_41, rf_5000_42, rf_5000_43, rf_5000_44, rf_5000_45, rf_5000_47, rf_5000_52, rf_5000_54, rf_5000_55, rf_100_0, rf_100_1, rf_103_0, rf_103_1, rf_106_0, rf_106_1, rf_109_0, rf_109_1, al_2, al_4, al_5, al_7, al_8, al_10, al_11, al_12, al_14, al_15, al_17, al_18, al_19, al_20, al_22, al_23, al_24, al_25, al_27, al_28, al_29, al_30, al_32, al_33, al_34, al_35, al_37, al_38, al_40, al_42, al_5001, al_5002, al_5003, al_5004, al_5005, al_5006, al_5007, al_5008, al_5009, al_5010, al_5011, al_5012, al_5013, al_5014, al_5015, al_5016, al_5017, al_5018, al_5019, al_5020, al_5021, al_5022, al_5023, al_5024, al_5025, al_5026, al_9000, al_101, al_102, al_104, al_105, al_107, al_108, al_110, al_111, vcs_e, lg_c0, lg_cs, lg_nil, set_c0, set_cs, okst_0, okst_s, acok_n, acok_c, List.contains_nil, List.contains_cons, Bool.or_false, Bool.false_or, Bool.false_eq_true, if_false, if_true, ite_self, ne_eq, true_and, and_true, not_false_eq_true, not_true_eq_false, false_imp_iff, true_imp_iff, Nat.ble_eq, Bool.and_eq_true, reduceCtorEq, or_false, false_or, or_true, true_or, false_and, and_false, and_self, Int.reduceLE, Int.reduceAdd, Int.reduceSub, Int.reduceMul, Int.reduceNeg, Int.reduceLT, Int.reduceEq, Int.reduceNe, Nat.reduceBEq, Nat.reduceBNe, Nat.reduceEqDiff, amCmp_in, amCmp_lt, amCmp_le, amCmp_gt, amCmp_ge, amCmp_eq, amCmp_ne, Nat.reduceLeDiff, Nat.reduceSub, Bool.and_true, Bool.true_and, Bool.and_self, Bool.or_true, Bool.true_or, isRf_3, isRf_4, isRf_5, isRf_8, isRf_9, isRf_10, isRf_11, isRf_15, isRf_16, isRf_17, isRf_18, isRf_19, isRf_20, isRf_21, isRf_22, isRf_23, isRf_24, isRf_25, isRf_26, isRf_27, isRf_28, k_J1_indexOf_4cfef_0, k_J1_indexOf_4cfef_1, k_J1_indexOf_4cfef_4, k_J1_indexOf_4cfef_7, k_J1_indexOf_4cfef_8, k_J1_indexOf_4cfef_9, k_J1_indexOf_4cfef_10, k_J1_indexOf_4cfef_11, k_J1_indexOf_4cfef_14, k_J1_indexOf_4cfef_15, k_J1_indexOf_4cfef_16, k_J1_indexOf_4cfef_17, k_J1_indexOf_4cfef_18, k_J1_indexOf_4cfef_21, k_J1_indexOf_4cfef_22, k_J1_indexOf_4cfef_23, k_J1_indexOf_4cfef_24, k_J1_indexOf_4cfef_27, k_J1_indexOf_4cfef_28, k_J1_indexOf_4cfef_29, k_J1_indexOf_4cfef_30, k_J1_indexOf_4cfef_31, k_J1_indexOf_4cfef_32, k_J1_indexOf_4cfef_33, k_J1_indexOf_4cfef_36, w_J1_canEncode_9a6ad_e, w_J1_indexOfChar_4cfef_e, w_J9_max_7cf53_e, w_J9_min_7cf53_e, Int.lt_irrefl, if_false, Int.sub_zero]
  by_cases hc : 0 ≤ ch ∧ ch ≤ 255
  · rw [if_pos hc]
    repeat' (first | assumption | apply And.intro | intro _)
    all_goals first | exact h | omega
  · rw [if_neg hc]
    rw [fidx_none _ 0 (fun j h5 h6 => by have := stv_bd (z := z) (i := j) h0 h1 (by omega) (by omega); omega)] at h
    repeat' (first | assumption | apply And.intro | intro _)
    all_goals first | exact h | omega
theorem wd_434 : Cond.methodLink RJ0 505 yJ0_length_8abf5 ∈ TBL := tb_tab (List.mem_of_getElem? (i := 434) (by decide +kernel)) rfl
theorem wd_437 : Cond.code yJ0_length_8abf5 cJ0_length_8abf5 1 (some .int) ∈ TBL := tb_tab (List.mem_of_getElem? (i := 437) (by decide +kernel)) rfl
theorem lk_J0_505 : amLk RJ0 505 yJ0_length_8abf5 cJ0_length_8abf5 1 (some .int) 0 := ⟨wd_434, wd_14, wd_437, by decide +kernel, by decide +kernel, by decide⟩
theorem wd_435 : Cond.instanceMethod yJ0_length_8abf5 ∈ TBL := tb_tab (List.mem_of_getElem? (i := 435) (by decide +kernel)) rfl
theorem wd_436 : Cond.selects RJ0 yJ0_length_8abf5 yJ0_length_8abf5 ∈ TBL := tb_tab (List.mem_of_getElem? (i := 436) (by decide +kernel)) rfl
theorem wd_442 : Cond.methodLink RJ0 637 yJ1_indexOf_4cfef ∈ TBL := tb_tab (List.mem_of_getElem? (i := 442) (by decide +kernel)) rfl
theorem wd_444 : Cond.code yJ1_indexOf_4cfef cJ1_indexOf_4cfef 4 (some .int) ∈ TBL := tb_tab (List.mem_of_getElem? (i := 444) (by decide +kernel)) rfl
theorem lk_J0_637 : amLk RJ0 637 yJ1_indexOf_4cfef cJ1_indexOf_4cfef 4 (some .int) 4 := ⟨wd_442, wd_15, wd_444, by decide +kernel, by decide +kernel, by decide⟩
theorem wd_443 : Cond.static yJ1_indexOf_4cfef ∈ TBL := tb_tab (List.mem_of_getElem? (i := 443) (by decide +kernel)) rfl
theorem wd_457 : Cond.methodLink RJ0 640 yJ2_indexOf_4cfef ∈ TBL := tb_tab (List.mem_of_getElem? (i := 457) (by decide +kernel)) rfl
theorem wd_459 : Cond.code yJ2_indexOf_4cfef cJ2_indexOf_4cfef 4 (some .int) ∈ TBL := tb_tab (List.mem_of_getElem? (i := 459) (by decide +kernel)) rfl
theorem lk_J0_640 : amLk RJ0 640 yJ2_indexOf_4cfef cJ2_indexOf_4cfef 4 (some .int) 4 := ⟨wd_457, wd_17, wd_459, by decide +kernel, by decide +kernel, by decide⟩
theorem wd_458 : Cond.static yJ2_indexOf_4cfef ∈ TBL := tb_tab (List.mem_of_getElem? (i := 458) (by decide +kernel)) rfl
def a_J0_indexOf_7cf53 : AC := [(0, vAload 0 1), (1, vCallT w_J0_isLatin1_aae02 0 4), (4, vIfEq 23 7), (7, vAload 0 8), (8, vStrVal 11), (11, vIload 1 12), (12, vIload 2 13), (13, vAload 0 14), (14, vCallT w_J0_length_8abf5 0 17), (17, vCallS w_J1_indexOf_4cfef 4 20), (20, vGoto 36), (23, vAload 0 24), (24, vStrVal 27), (27, vIload 1 28), (28, vIload 2 29), (29, vAload 0 30), (30, vCallT w_J0_length_8abf5 0 33), (33, vBad), (36, vIret)]
theorem k_J0_indexOf_7cf53_0 : look a_J0_indexOf_7cf53 0 = vAload 0 1 := rfl
theorem k_J0_indexOf_7cf53_1 : look a_J0_indexOf_7cf53 1 = vCallT w_J0_isLatin1_aae02 0 4 := rfl
theorem k_J0_indexOf_7cf53_4 : look a_J0_indexOf_7cf53 4 = vIfEq 23 7 := rfl
theorem k_J0_indexOf_7cf53_7 : look a_J0_indexOf_7cf53 7 = vAload 0 8 := rfl
theorem k_J0_indexOf_7cf53_8 : look a_J0_indexOf_7cf53 8 = vStrVal 11 := rfl
theorem k_J0_indexOf_7cf53_11 : look a_J0_indexOf_7cf53 11 = vIload 1 12 := rfl
theorem k_J0_indexOf_7cf53_12 : look a_J0_indexOf_7cf53 12 = vIload 2 13 := rfl
theorem k_J0_indexOf_7cf53_13 : look a_J0_indexOf_7cf53 13 = vAload 0 14 := rfl
theorem k_J0_indexOf_7cf53_14 : look a_J0_indexOf_7cf53 14 = vCallT w_J0_length_8abf5 0 17 := rfl
theorem k_J0_indexOf_7cf53_17 : look a_J0_indexOf_7cf53 17 = vCallS w_J1_indexOf_4cfef 4 20 := rfl
theorem k_J0_indexOf_7cf53_20 : look a_J0_indexOf_7cf53 20 = vGoto 36 := rfl
theorem k_J0_indexOf_7cf53_23 : look a_J0_indexOf_7cf53 23 = vAload 0 24 := rfl
theorem k_J0_indexOf_7cf53_24 : look a_J0_indexOf_7cf53 24 = vStrVal 27 := rfl
theorem k_J0_indexOf_7cf53_27 : look a_J0_indexOf_7cf53 27 = vIload 1 28 := rfl
theorem k_J0_indexOf_7cf53_28 : look a_J0_indexOf_7cf53 28 = vIload 2 29 := rfl
theorem k_J0_indexOf_7cf53_29 : look a_J0_indexOf_7cf53 29 = vAload 0 30 := rfl
theorem k_J0_indexOf_7cf53_30 : look a_J0_indexOf_7cf53 30 = vCallT w_J0_length_8abf5 0 33 := rfl
theorem k_J0_indexOf_7cf53_33 : look a_J0_indexOf_7cf53 33 = vBad := rfl
theorem k_J0_indexOf_7cf53_36 : look a_J0_indexOf_7cf53 36 = vIret := rfl
theorem o_J0_indexOf_7cf53 {X : amX} (e1 : XT X = TT) (e2 : XD X = 2) (hB : amB X RJ0 cJ0_indexOf_7cf53 (some .int) 3) : ∀ pc, amOK X pc (look a_J0_indexOf_7cf53 pc) := by
  have hT : amTok (XT X) := e1 ▸ TT_ok
  refine look_ok ?_
  unfold a_J0_indexOf_7cf53
  refine fc (ok_aload_n hB dJ0_indexOf_7cf53_0) ?_
  refine fc (ok_callT hB (e1 ▸ s_J0_isLatin1_aae02) lk_J0_492 (by rw [e2]; decide) rfl wd_429 wd_430 dJ0_indexOf_7cf53_1) ?_
  refine fc (ok_if_eq hB (t := 23) (by decide) dJ0_indexOf_7cf53_4) ?_
  refine fc (ok_aload_n hB dJ0_indexOf_7cf53_7) ?_
  refine fc (ok_strVal hB wd_1966 dJ0_indexOf_7cf53_8) ?_
  refine fc (ok_iload_n hB dJ0_indexOf_7cf53_11) ?_
  refine fc (ok_iload_n hB dJ0_indexOf_7cf53_12) ?_
  refine fc (ok_aload_n hB dJ0_indexOf_7cf53_13) ?_
  refine fc (ok_callT hB (e1 ▸ s_J0_length_8abf5) lk_J0_505 (by rw [e2]; decide) rfl wd_435 wd_436 dJ0_indexOf_7cf53_14) ?_
  refine fc (ok_callS hB (e1 ▸ s_J1_indexOf_4cfef) lk_J0_637 (by rw [e2]; decide) wd_443 dJ0_indexOf_7cf53_17) ?_
  refine fc (ok_goto hB (t := 36) (by decide) dJ0_indexOf_7cf53_20) ?_
  refine fc (ok_aload_n hB dJ0_indexOf_7cf53_23) ?_
  refine fc (ok_strVal hB wd_1966 dJ0_indexOf_7cf53_24) ?_
  refine fc (ok_iload_n hB dJ0_indexOf_7cf53_27) ?_
  refine fc (ok_iload_n hB dJ0_indexOf_7cf53_28) ?_
  refine fc (ok_aload_n hB dJ0_indexOf_7cf53_29) ?_
  refine fc (ok_callT hB (e1 ▸ s_J0_length_8abf5) lk_J0_505 (by rw [e2]; decide) rfl wd_435 wd_436 dJ0_indexOf_7cf53_30) ?_
  refine fc (ok_bad) ?_
  refine fc (ok_iret hB dJ0_indexOf_7cf53_36) ?_
  exact fn

def w_J0_indexOf_7cf53 : WP := fun av σ Q => ∃ (z : Int) (ch : Int) (fr : Int), av = [(4, z), (0, ch), (0, fr)] ∧ (20000 ≤ z ∧ z < 20011 ∧ InR ch ∧ fr = 0 ∧ 0 < stl (z + 100) ∧ Q (0, fidx (stv (z + 100)) ch 0 (stl (z + 100)).toNat) σ)
theorem w_J0_indexOf_7cf53_e (z : Int) (ch : Int) (fr : Int) (σ : Mem) (Q : AV → Mem → Prop) : w_J0_indexOf_7cf53 [(4, z), (0, ch), (0, fr)] σ Q = (20000 ≤ z ∧ z < 20011 ∧ InR ch ∧ fr = 0 ∧ 0 < stl (z + 100) ∧ Q (0, fidx (stv (z + 100)) ch 0 (stl (z + 100)).toNat) σ) := by
  apply propext; constructor
  · rintro ⟨z', ch', fr', h9, hb9⟩; cases h9; exact hb9
  · intro hb9; exact ⟨z, ch, fr, rfl, hb9⟩

set_option maxRecDepth 100000 in
set_option maxHeartbeats 4000000 in
theorem s_J0_indexOf_7cf53 : ∀ av σ Q, w_J0_indexOf_7cf53 av σ Q → amCall 2 0 0 TT yJ0_indexOf_7cf53 cJ0_indexOf_7cf53 3 (some .int) av σ Q := by
  rintro av σ Q ⟨z, ch, fr, rfl, h0, h1, h2, rfl, h3, h⟩
  refine am_m0 (own := RJ0) (A := look a_J0_indexOf_7cf53) (fun X e1 e2 hB => o_J0_indexOf_7cf53 e1 e2 hB) rfl (by decide +kernel) rfl rfl 60 (w := 3) ?_
  change vcs _ _ _ _ 60 0 [(4, z), (0, ch), (0, 0)] [] σ
  simp only [vI_e, vL_e, vNull_e, vIload_e, vLload_e, vAload_e, vIstore_e, vLstore_e, vAstore_e, vIinc_e, vIadd_e, vIsub_e, vImul_e, vIand_e, vIor_e, vIxor_e, vIshl_e, vIshr_e, vIushr_e, vIdiv_e, vIrem_e, vLadd_e, vLsub_e, vLmul_e, vLand_e, vLor_e, vLxor_e, vLdiv_e, vLrem_e, vLushr_e, vLshl_e, vLcmp_e, vIneg_e, vI2l_e, vL2i_e, vI2b_e, vI2c_e, vDup_e, vPop_e, vDup2_e, vGoto_e, vIcEq_e, vIfEq_e, vIcNe_e, vIfNe_e, vIcLt_e, vIfLt_e, vIcGe_e, vIfGe_e, vIcGt_e, vIfGt_e, vIcLe_e, vIfLe_e, vNonnull_e, vSw_e, vGetI_e, vGetL_e, vGetR_e, vPutI_e, vPutZ_e, vPutL_e, vPutR_e, vIald_e, vIald_s, vLald_e, vBald_e, vBald_s, vAald_e, vIast_e, vLast_e, vBast_e, vAast_e, vAlen_e8, vAlen_e9, vAlen_e10, vAlen_e11, vAlen_e5, vAlen_e3, vGets_e, vCompact_e, vLdcS_e, vIret_e, vZret_e, vCret_e, vBret_e, vLret_e, vVret_e, vAret_e, vCallM_e0, vCallMV_e0, vCallS_e0, vCallSV_e0, vCallM_e1, vCallMV_e1, vCallS_e1, vCallSV_e1, vCallM_e2, vCallMV_e2, vCallS_e2, vCallSV_e2, vCallM_e3, vCallMV_e3, vCallS_e3, vCallSV_e3, vCallM_e4, vCallMV_e4, vCallS_e4, vCallSV_e4, vCallM_e5, vCallMV_e5, vCallS_e5, vCallSV_e5, vCallM_e6, vCallMV_e6, vCallS_e6, vCallSV_e6, vCallM_e7, vCallMV_e7, vCallS_e7, vCallSV_e7, vBad_e, vStrVal_e, vStrCod_e, vForm_e, vCallT_e0, vCallT_e1, vCallT_e2, vCopy_e, rf_0_0, rf_0_1, rf_0_2, rf_0_3, rf_0_4, rf_0_7, rf_0_10, rf_0_11, rf_0_12, rf_0_13, rf_0_14, rf_0_15, rf_0_16, rf_1_0, rf_3_0, rf_3_1, rf_6_0, rf_6_1, rf_9_0, rf_9_1, rf_9_3, rf_13_0, rf_13_1, rf_13_2, rf_16_0, rf_16_1, rf_16_2, rf_16_3, rf_21_0, rf_21_1, rf_21_2, rf_21_3, rf_26_0, rf_26_1, rf_26_2, rf_26_3, rf_26_4, rf_26_5, rf_26_6, rf_31_0, rf_31_2, rf_31_5, rf_31_6, rf_36_0, rf_36_1, rf_36_2, rf_36_3, rf_39_0, rf_39_1, rf_39_2, rf_41_0, rf_41_1, rf_41_2, rf_41_3, rf_5000_1, rf_5000_2, rf_5000_3, rf_5000_4, rf_5000_5, rf_5000_15, rf_5000_16, rf_5000_18, rf_5000_19, rf_5000_20, rf_5000_21, rf_5000_22, rf_5000_23, rf_5000_24, rf_5000_25, rf_5000_26, rf_5000_27, rf_5000_36, rf_5000_37, rf_5000_40, rf_5000_41, rf_5000_42, rf_5000_43, rf_5000_44, rf_5000_45, rf_5000_47, rf_5000_52, rf_5000_54, rf_5000_55, rf_100_0, rf_100_1, rf_103_0, rf_103_1, rf_106_0, rf_106_1, rf_109_0, rf_109_1, al_2, al_4, al_5, al_7, al_8, al_10, al_11, al_12, al_14, al_15, al_17, al_18, al_19, al_20, al_22, al_23, al_24, al_25, al_27, al_28, al_29, al_30, al_32, al_33, al_34, al_35, al_37, al_38, al_40, al_42, al_5001, al_5002, al_5003, al_5004, al_5005, al_5006, al_5007, al_5008, al_5009, al_5010, al_5011, al_5012, al_5013, al_5014, al_5015, al_5016, al_5017, al_5018, al_5019, al_5020, al_5021, al_5022, al_5023, al_5024, al_5025, al_5026, al_9000, al_101, al_102, al_104, al_105, al_107, al_108, al_110, al_111, vcs_e, lg_c0, lg_cs, lg_nil, set_c0, set_cs, okst_0, okst_s, acok_n, acok_c, List.contains_nil, List.contains_cons, Bool.or_false, Bool.false_or, Bool.false_eq_true, if_false, if_true, ite_self, ne_eq, true_and, and_true, not_false_eq_true, not_true_eq_false, false_imp_iff, true_imp_iff, Nat.ble_eq, Bool.and_eq_true, reduceCtorEq, or_false, false_or, or_true, true_or, false_and, and_false, and_self, Int.reduceLE, Int.reduceAdd, Int.reduceSub, Int.reduceMul, Int.reduceNeg, Int.reduceLT, Int.reduceEq, Int.reduceNe, Nat.reduceBEq, Nat.reduceBNe, Nat.reduceEqDiff, amCmp_in, amCmp_lt, amCmp_le, amCmp_gt, amCmp_ge, amCmp_eq, amCmp_ne, Nat.reduceLeDiff, Nat.reduceSub, Bool.and_true, Bool.true_and, Bool.and_self, Bool.or_true, Bool.true_or, isRf_3, isRf_4, isRf_5, isRf_8, isRf_9, isRf_10, isRf_11, isRf_15, isRf_16, isRf_17, isRf_18, isRf_19, isRf_20, isRf_21, isRf_22, isRf_23, isRf_24, isRf_25, isRf_26, isRf_27, isRf_28, k_J0_indexOf_7cf53_0, k_J0_indexOf_7cf53_1, k_J0_indexOf_7cf53_4, k_J0_indexOf_7cf53_7, k_J0_indexOf_7cf53_8, k_J0_indexOf_7cf53_11, k_J0_indexOf_7cf53_12, k_J0_indexOf_7cf53_13, k_J0_indexOf_7cf53_14, k_J0_indexOf_7cf53_17, k_J0_indexOf_7cf53_20, k_J0_indexOf_7cf53_23, k_J0_indexOf_7cf53_24, k_J0_indexOf_7cf53_27, k_J0_indexOf_7cf53_28, k_J0_indexOf_7cf53_29, k_J0_indexOf_7cf53_30, k_J0_indexOf_7cf53_33, k_J0_indexOf_7cf53_36, w_J0_isLatin1_aae02_e, w_J0_length_8abf5_e, w_J1_indexOf_4cfef_e]
  repeat' (first | assumption | apply And.intro | intro _)
  all_goals first | exact h | omega
theorem wd_424 : Cond.methodLink RJ0 633 yJ0_indexOf_7cf53 ∈ TBL := tb_tab (List.mem_of_getElem? (i := 424) (by decide +kernel)) rfl
theorem wd_427 : Cond.code yJ0_indexOf_7cf53 cJ0_indexOf_7cf53 3 (some .int) ∈ TBL := tb_tab (List.mem_of_getElem? (i := 427) (by decide +kernel)) rfl
theorem lk_J0_633 : amLk RJ0 633 yJ0_indexOf_7cf53 cJ0_indexOf_7cf53 3 (some .int) 2 := ⟨wd_424, wd_14, wd_427, by decide +kernel, by decide +kernel, by decide⟩
theorem wd_425 : Cond.instanceMethod yJ0_indexOf_7cf53 ∈ TBL := tb_tab (List.mem_of_getElem? (i := 425) (by decide +kernel)) rfl
theorem wd_426 : Cond.selects RJ0 yJ0_indexOf_7cf53 yJ0_indexOf_7cf53 ∈ TBL := tb_tab (List.mem_of_getElem? (i := 426) (by decide +kernel)) rfl
def a_J0_indexOf_0f7a4 : AC := [(0, vAload 0 1), (1, vIload 1 2), (2, vI 0 3), (3, vCallT w_J0_indexOf_7cf53 2 6), (6, vIret)]
theorem k_J0_indexOf_0f7a4_0 : look a_J0_indexOf_0f7a4 0 = vAload 0 1 := rfl
theorem k_J0_indexOf_0f7a4_1 : look a_J0_indexOf_0f7a4 1 = vIload 1 2 := rfl
theorem k_J0_indexOf_0f7a4_2 : look a_J0_indexOf_0f7a4 2 = vI 0 3 := rfl
theorem k_J0_indexOf_0f7a4_3 : look a_J0_indexOf_0f7a4 3 = vCallT w_J0_indexOf_7cf53 2 6 := rfl
theorem k_J0_indexOf_0f7a4_6 : look a_J0_indexOf_0f7a4 6 = vIret := rfl
theorem o_J0_indexOf_0f7a4 {X : amX} (e1 : XT X = TT) (e2 : XD X = 3) (hB : amB X RJ0 cJ0_indexOf_0f7a4 (some .int) 2) : ∀ pc, amOK X pc (look a_J0_indexOf_0f7a4 pc) := by
  have hT : amTok (XT X) := e1 ▸ TT_ok
  refine look_ok ?_
  unfold a_J0_indexOf_0f7a4
  refine fc (ok_aload_n hB dJ0_indexOf_0f7a4_0) ?_
  refine fc (ok_iload_n hB dJ0_indexOf_0f7a4_1) ?_
  refine fc (ok_iconst hB dJ0_indexOf_0f7a4_2) ?_
  refine fc (ok_callT hB (e1 ▸ s_J0_indexOf_7cf53) lk_J0_633 (by rw [e2]; decide) rfl wd_425 wd_426 dJ0_indexOf_0f7a4_3) ?_
  refine fc (ok_iret hB dJ0_indexOf_0f7a4_6) ?_
  exact fn

def w_J0_indexOf_0f7a4 : WP := fun av σ Q => ∃ (z : Int) (ch : Int), av = [(4, z), (0, ch)] ∧ (20000 ≤ z ∧ z < 20011 ∧ InR ch ∧ 0 < stl (z + 100) ∧ Q (0, fidx (stv (z + 100)) ch 0 (stl (z + 100)).toNat) σ)
theorem w_J0_indexOf_0f7a4_e (z : Int) (ch : Int) (σ : Mem) (Q : AV → Mem → Prop) : w_J0_indexOf_0f7a4 [(4, z), (0, ch)] σ Q = (20000 ≤ z ∧ z < 20011 ∧ InR ch ∧ 0 < stl (z + 100) ∧ Q (0, fidx (stv (z + 100)) ch 0 (stl (z + 100)).toNat) σ) := by
  apply propext; constructor
  · rintro ⟨z', ch', h9, hb9⟩; cases h9; exact hb9
  · intro hb9; exact ⟨z, ch, rfl, hb9⟩

set_option maxRecDepth 100000 in
set_option maxHeartbeats 4000000 in
theorem s_J0_indexOf_0f7a4 : ∀ av σ Q, w_J0_indexOf_0f7a4 av σ Q → amCall 3 0 0 TT yJ0_indexOf_0f7a4 cJ0_indexOf_0f7a4 2 (some .int) av σ Q := by
  rintro av σ Q ⟨z, ch, rfl, h0, h1, h2, h3, h⟩
  refine am_m0 (own := RJ0) (A := look a_J0_indexOf_0f7a4) (fun X e1 e2 hB => o_J0_indexOf_0f7a4 e1 e2 hB) rfl (by decide +kernel) rfl rfl 60 (w := 2) ?_
  change vcs _ _ _ _ 60 0 [(4, z), (0, ch)] [] σ
  simp only [vI_e, vL_e, vNull_e, vIload_e, vLload_e, vAload_e, vIstore_e, vLstore_e, vAstore_e, vIinc_e, vIadd_e, vIsub_e, vImul_e, vIand_e, vIor_e, vIxor_e, vIshl_e, vIshr_e, vIushr_e, vIdiv_e, vIrem_e, vLadd_e, vLsub_e, vLmul_e, vLand_e, vLor_e, vLxor_e, vLdiv_e, vLrem_e, vLushr_e, vLshl_e, vLcmp_e, vIneg_e, vI2l_e, vL2i_e, vI2b_e, vI2c_e, vDup_e, vPop_e, vDup2_e, vGoto_e, vIcEq_e, vIfEq_e, vIcNe_e, vIfNe_e, vIcLt_e, vIfLt_e, vIcGe_e, vIfGe_e, vIcGt_e, vIfGt_e, vIcLe_e, vIfLe_e, vNonnull_e, vSw_e, vGetI_e, vGetL_e, vGetR_e, vPutI_e, vPutZ_e, vPutL_e, vPutR_e, vIald_e, vIald_s, vLald_e, vBald_e, vBald_s, vAald_e, vIast_e, vLast_e, vBast_e, vAast_e, vAlen_e8, vAlen_e9, vAlen_e10, vAlen_e11, vAlen_e5, vAlen_e3, vGets_e, vCompact_e, vLdcS_e, vIret_e, vZret_e, vCret_e, vBret_e, vLret_e, vVret_e, vAret_e, vCallM_e0, vCallMV_e0, vCallS_e0, vCallSV_e0, vCallM_e1, vCallMV_e1, vCallS_e1, vCallSV_e1, vCallM_e2, vCallMV_e2, vCallS_e2, vCallSV_e2, vCallM_e3, vCallMV_e3, vCallS_e3, vCallSV_e3, vCallM_e4, vCallMV_e4, vCallS_e4, vCallSV_e4, vCallM_e5, vCallMV_e5, vCallS_e5, vCallSV_e5, vCallM_e6, vCallMV_e6, vCallS_e6, vCallSV_e6, vCallM_e7, vCallMV_e7, vCallS_e7, vCallSV_e7, vBad_e, vStrVal_e, vStrCod_e, vForm_e, vCallT_e0, vCallT_e1, vCallT_e2, vCopy_e, rf_0_0, rf_0_1, rf_0_2, rf_0_3, rf_0_4, rf_0_7, rf_0_10, rf_0_11, rf_0_12, rf_0_13, rf_0_14, rf_0_15, rf_0_16, rf_1_0, rf_3_0, rf_3_1, rf_6_0, rf_6_1, rf_9_0, rf_9_1, rf_9_3, rf_13_0, rf_13_1, rf_13_2, rf_16_0, rf_16_1, rf_16_2, rf_16_3, rf_21_0, rf_21_1, rf_21_2, rf_21_3, rf_26_0, rf_26_1, rf_26_2, rf_26_3, rf_26_4, rf_26_5, rf_26_6, rf_31_0, rf_31_2, rf_31_5, rf_31_6, rf_36_0, rf_36_1, rf_36_2, rf_36_3, rf_39_0, rf_39_1, rf_39_2, rf_41_0, rf_41_1, rf_41_2, rf_41_3, rf_5000_1, rf_5000_2, rf_5000_3, rf_5000_4, rf_5000_5, rf_5000_15, rf_5000_16, rf_5000_18, rf_5000_19, rf_5000_20, rf_5000_21, rf_5000_22, rf_5000_23, rf_5000_24, rf_5000_25, rf_5000_26, rf_5000_27, rf_5000_36, rf_5000_37, rf_5000_40, rf_5000_41, rf_5000_42, rf_5000_43, rf_5000_44, rf_5000_45, rf_5000_47, rf_5000_52, rf_5000_54, rf_5000_55, rf_100_0, rf_100_1, rf_103_0, rf_103_1, rf_106_0, rf_106_1, rf_109_0, rf_109_1, al_2, al_4, al_5, al_7, al_8, al_10, al_11, al_12, al_14, al_15, al_17, al_18, al_19, al_20, al_22, al_23, al_24, al_25, al_27, al_28, al_29, al_30, al_32, al_33, al_34, al_35, al_37, al_38, al_40, al_42, al_5001, al_5002, al_5003, al_5004, al_5005, al_5006, al_5007, al_5008, al_5009, al_5010, al_5011, al_5012, al_5013, al_5014, al_5015, al_5016, al_5017, al_5018, al_5019, al_5020, al_5021, al_5022, al_5023, al_5024, al_5025, al_5026, al_9000, al_101, al_102, al_104, al_105, al_107, al_108, al_110, al_111, vcs_e, lg_c0, lg_cs, lg_nil, set_c0, set_cs, okst_0, okst_s, acok_n, acok_c, List.contains_nil, List.contains_cons, Bool.or_false, Bool.false_or, Bool.false_eq_true, if_false, if_true, ite_self, ne_eq, true_and, and_true, not_false_eq_true, not_true_eq_false, false_imp_iff, true_imp_iff, Nat.ble_eq, Bool.and_eq_true, reduceCtorEq, or_false, false_or, or_true, true_or, false_and, and_false, and_self, Int.reduceLE, Int.reduceAdd, Int.reduceSub, Int.reduceMul, Int.reduceNeg, Int.reduceLT, Int.reduceEq, Int.reduceNe, Nat.reduceBEq, Nat.reduceBNe, Nat.reduceEqDiff, amCmp_in, amCmp_lt, amCmp_le, amCmp_gt, amCmp_ge, amCmp_eq, amCmp_ne, Nat.reduceLeDiff, Nat.reduceSub, Bool.and_true, Bool.true_and, Bool.and_self, Bool.or_true, Bool.true_or, isRf_3, isRf_4, isRf_5, isRf_8, isRf_9, isRf_10, isRf_11, isRf_15, isRf_16, isRf_17, isRf_18, isRf_19, isRf_20, isRf_21, isRf_22, isRf_23, isRf_24, isRf_25, isRf_26, isRf_27, isRf_28, k_J0_indexOf_0f7a4_0, k_J0_indexOf_0f7a4_1, k_J0_indexOf_0f7a4_2, k_J0_indexOf_0f7a4_3, k_J0_indexOf_0f7a4_6, w_J0_indexOf_7cf53_e]
  repeat' (first | assumption | apply And.intro | intro _)
  all_goals first | exact h | omega
