/-! Tape: numbers -/
theorem ndig_bd (t : Int → Int) : ∀ (m : Nat) (p : Int), 0 ≤ ndig t p m ∧ ndig t p m ≤ m := by
  intro m
  induction m with
  | zero => intro p; unfold ndig; omega
  | succ m ih =>
    intro p; unfold ndig
    have := ih (p + 1)
    split <;> omega
/-- where the finger stands behind the blanks -/
def tsk (σ : Mem) : Int := skp (tsg σ) (σ 1 2) (σ 1 1 - σ 1 2).toNat
theorem tsk_bd {σ : Mem} (h0 : 0 ≤ σ 1 2) (h1 : σ 1 2 ≤ σ 1 1) : σ 1 2 ≤ tsk σ ∧ tsk σ ≤ σ 1 1 := by
  have := skp_bd (tsg σ) (σ 1 1 - σ 1 2).toNat (σ 1 2)
  unfold tsk; omega
theorem tapeOk_up {σ : Mem} (h : tapeOk σ) (v : Int) : tapeOk (up σ 1 2 v) := by
  unfold tapeOk; rw [up_n σ (Or.inr (by decide)), up_na σ (by decide)]; exact h

theorem wd_545 : Cond.methodLink RX10 32 yX10_ahead ∈ TBL := tb_tab (List.mem_of_getElem? (i := 545) (by decide +kernel)) rfl
theorem wd_411 : Cond.code yX10_ahead cX10_ahead 1 (some .int) ∈ TBL := tb_tab (List.mem_of_getElem? (i := 411) (by decide +kernel)) rfl
theorem lk_X10_32 : amLk RX10 32 yX10_ahead cX10_ahead 1 (some .int) 0 := ⟨wd_545, wd_2, wd_411, by decide +kernel, by decide +kernel, by decide⟩
theorem wd_409 : Cond.instanceMethod yX10_ahead ∈ TBL := tb_tab (List.mem_of_getElem? (i := 409) (by decide +kernel)) rfl
theorem wd_410 : Cond.selects RX10 yX10_ahead yX10_ahead ∈ TBL := tb_tab (List.mem_of_getElem? (i := 410) (by decide +kernel)) rfl
theorem wd_546 : Cond.methodLink RX10 35 yX10_isDigit ∈ TBL := tb_tab (List.mem_of_getElem? (i := 546) (by decide +kernel)) rfl
theorem wd_548 : Cond.code yX10_isDigit cX10_isDigit 1 (some .boolean) ∈ TBL := tb_tab (List.mem_of_getElem? (i := 548) (by decide +kernel)) rfl
theorem lk_X10_35 : amLk RX10 35 yX10_isDigit cX10_isDigit 1 (some .boolean) 1 := ⟨wd_546, wd_2, wd_548, by decide +kernel, by decide +kernel, by decide⟩
theorem wd_547 : Cond.static yX10_isDigit ∈ TBL := tb_tab (List.mem_of_getElem? (i := 547) (by decide +kernel)) rfl
def a_X10_number : AC := [(0, vAload 0 1), (1, vCallM w_X10_ahead 26 0 4), (4, vPop 5), (5, vI 0 6), (6, vIstore 2 7), (7, vI 0 8), (8, vIstore 3 9), (9, vIload 3 10), (10, vIload 1 11), (11, vIcGe 53 14), (14, vAload 0 15), (15, vCallM w_X10_sign 26 0 18), (18, vCallS w_X10_isDigit 1 21), (21, vIfEq 53 24), (24, vI 10 26), (26, vIload 2 27), (27, vImul 28), (28, vAload 0 29), (29, vCallM w_X10_sign 26 0 32), (32, vIadd 33), (33, vI 48 35), (35, vIsub 36), (36, vIstore 2 37), (37, vIinc 3 1 40), (40, vAload 0 41), (41, vDup 42), (42, vGetI 26 2 45), (45, vI 1 46), (46, vIadd 47), (47, vPutI 26 2 50), (50, vGoto 9), (53, vIload 3 54), (54, vIfEq 67 57), (57, vAload 0 58), (58, vCallM w_X10_sign 26 0 61), (61, vCallS w_X10_isDigit 1 64), (64, vIfEq 71 67), (67, vI (-1) 68), (68, vGoto 72), (71, vIload 2 72), (72, vIret)]
theorem k_X10_number_0 : look a_X10_number 0 = vAload 0 1 := rfl
theorem k_X10_number_1 : look a_X10_number 1 = vCallM w_X10_ahead 26 0 4 := rfl
theorem k_X10_number_4 : look a_X10_number 4 = vPop 5 := rfl
theorem k_X10_number_5 : look a_X10_number 5 = vI 0 6 := rfl
theorem k_X10_number_6 : look a_X10_number 6 = vIstore 2 7 := rfl
theorem k_X10_number_7 : look a_X10_number 7 = vI 0 8 := rfl
theorem k_X10_number_8 : look a_X10_number 8 = vIstore 3 9 := rfl
theorem k_X10_number_9 : look a_X10_number 9 = vIload 3 10 := rfl
theorem k_X10_number_10 : look a_X10_number 10 = vIload 1 11 := rfl
theorem k_X10_number_11 : look a_X10_number 11 = vIcGe 53 14 := rfl
theorem k_X10_number_14 : look a_X10_number 14 = vAload 0 15 := rfl
theorem k_X10_number_15 : look a_X10_number 15 = vCallM w_X10_sign 26 0 18 := rfl
theorem k_X10_number_18 : look a_X10_number 18 = vCallS w_X10_isDigit 1 21 := rfl
theorem k_X10_number_21 : look a_X10_number 21 = vIfEq 53 24 := rfl
theorem k_X10_number_24 : look a_X10_number 24 = vI 10 26 := rfl
theorem k_X10_number_26 : look a_X10_number 26 = vIload 2 27 := rfl
theorem k_X10_number_27 : look a_X10_number 27 = vImul 28 := rfl
theorem k_X10_number_28 : look a_X10_number 28 = vAload 0 29 := rfl
theorem k_X10_number_29 : look a_X10_number 29 = vCallM w_X10_sign 26 0 32 := rfl
theorem k_X10_number_32 : look a_X10_number 32 = vIadd 33 := rfl
theorem k_X10_number_33 : look a_X10_number 33 = vI 48 35 := rfl
theorem k_X10_number_35 : look a_X10_number 35 = vIsub 36 := rfl
theorem k_X10_number_36 : look a_X10_number 36 = vIstore 2 37 := rfl
theorem k_X10_number_37 : look a_X10_number 37 = vIinc 3 1 40 := rfl
theorem k_X10_number_40 : look a_X10_number 40 = vAload 0 41 := rfl
theorem k_X10_number_41 : look a_X10_number 41 = vDup 42 := rfl
theorem k_X10_number_42 : look a_X10_number 42 = vGetI 26 2 45 := rfl
theorem k_X10_number_45 : look a_X10_number 45 = vI 1 46 := rfl
theorem k_X10_number_46 : look a_X10_number 46 = vIadd 47 := rfl
theorem k_X10_number_47 : look a_X10_number 47 = vPutI 26 2 50 := rfl
theorem k_X10_number_50 : look a_X10_number 50 = vGoto 9 := rfl
theorem k_X10_number_53 : look a_X10_number 53 = vIload 3 54 := rfl
theorem k_X10_number_54 : look a_X10_number 54 = vIfEq 67 57 := rfl
theorem k_X10_number_57 : look a_X10_number 57 = vAload 0 58 := rfl
theorem k_X10_number_58 : look a_X10_number 58 = vCallM w_X10_sign 26 0 61 := rfl
theorem k_X10_number_61 : look a_X10_number 61 = vCallS w_X10_isDigit 1 64 := rfl
theorem k_X10_number_64 : look a_X10_number 64 = vIfEq 71 67 := rfl
theorem k_X10_number_67 : look a_X10_number 67 = vI (-1) 68 := rfl
theorem k_X10_number_68 : look a_X10_number 68 = vGoto 72 := rfl
theorem k_X10_number_71 : look a_X10_number 71 = vIload 2 72 := rfl
theorem k_X10_number_72 : look a_X10_number 72 = vIret := rfl
theorem o_X10_number {X : amX} (e1 : XT X = TT) (e2 : XD X = 2) (hB : amB X RX10 cX10_number (some .int) 4) : ∀ pc, amOK X pc (look a_X10_number pc) := by
  have hT : amTok (XT X) := e1 ▸ TT_ok
  refine look_ok ?_
  unfold a_X10_number
  refine fc (ok_aload_n hB dX10_number_0) ?_
  refine fc (ok_callM hB hT (e1 ▸ s_X10_ahead) lk_X10_32 (by rw [e2]; decide) (c := 10) rfl rfl rfl wd_409 wd_410 dX10_number_1) ?_
  refine fc (ok_pop hB dX10_number_4) ?_
  refine fc (ok_iconst hB dX10_number_5) ?_
  refine fc (ok_istore_n hB (by decide) dX10_number_6) ?_
  refine fc (ok_iconst hB dX10_number_7) ?_
  refine fc (ok_istore_n hB (by decide) dX10_number_8) ?_
  refine fc (ok_iload_n hB dX10_number_9) ?_
  refine fc (ok_iload_n hB dX10_number_10) ?_
  refine fc (ok_icmp_ge hB (t := 53) (by decide) dX10_number_11) ?_
  refine fc (ok_aload_n hB dX10_number_14) ?_
  refine fc (ok_callM hB hT (e1 ▸ s_X10_sign) lk_X10_22 (by rw [e2]; decide) (c := 10) rfl rfl rfl wd_413 wd_414 dX10_number_15) ?_
  refine fc (ok_callS hB (e1 ▸ s_X10_isDigit) lk_X10_35 (by rw [e2]; decide) wd_547 dX10_number_18) ?_
  refine fc (ok_if_eq hB (t := 53) (by decide) dX10_number_21) ?_
  refine fc (ok_bipush hB dX10_number_24 (by decide)) ?_
  refine fc (ok_iload_n hB dX10_number_26) ?_
  refine fc (ok_imul hB dX10_number_27) ?_
  refine fc (ok_aload_n hB dX10_number_28) ?_
  refine fc (ok_callM hB hT (e1 ▸ s_X10_sign) lk_X10_22 (by rw [e2]; decide) (c := 10) rfl rfl rfl wd_413 wd_414 dX10_number_29) ?_
  refine fc (ok_iadd hB dX10_number_32) ?_
  refine fc (ok_bipush hB dX10_number_33 (by decide)) ?_
  refine fc (ok_isub hB dX10_number_35) ?_
  refine fc (ok_istore_n hB (by decide) dX10_number_36) ?_
  refine fc (ok_iinc hB (by decide) dX10_number_37) ?_
  refine fc (ok_aload_n hB dX10_number_40) ?_
  refine fc (ok_dup hB dX10_number_41) ?_
  refine fc (ok_getI hB hT fl_X10_19 rfl rfl (Or.inl af_10_2) dX10_number_42) ?_
  refine fc (ok_iconst hB dX10_number_45) ?_
  refine fc (ok_iadd hB dX10_number_46) ?_
  refine fc (ok_putI hB hT fp_X10_19 rfl rfl rfl af_10_2 dX10_number_47) ?_
  refine fc (ok_goto hB (t := 9) (by decide) dX10_number_50) ?_
  refine fc (ok_iload_n hB dX10_number_53) ?_
  refine fc (ok_if_eq hB (t := 67) (by decide) dX10_number_54) ?_
  refine fc (ok_aload_n hB dX10_number_57) ?_
  refine fc (ok_callM hB hT (e1 ▸ s_X10_sign) lk_X10_22 (by rw [e2]; decide) (c := 10) rfl rfl rfl wd_413 wd_414 dX10_number_58) ?_
  refine fc (ok_callS hB (e1 ▸ s_X10_isDigit) lk_X10_35 (by rw [e2]; decide) wd_547 dX10_number_61) ?_
  refine fc (ok_if_eq hB (t := 71) (by decide) dX10_number_64) ?_
  refine fc (ok_iconst hB dX10_number_67) ?_
  refine fc (ok_goto hB (t := 72) (by decide) dX10_number_68) ?_
  refine fc (ok_iload_n hB dX10_number_71) ?_
  refine fc (ok_iret hB dX10_number_72) ?_
  exact fn
def inv_number (σ : Mem) (m : Int) (k v : Int) (n pc : Nat) (ls st : List AV) (σ' : Mem) : Prop := pc = 9 ∧ st = [] ∧ ∃ q a d, ls = [(26, 1), (0, m), (0, a), (0, d)] ∧ σ' = up σ 1 2 q ∧ 0 ≤ q ∧ q ≤ σ 1 1 ∧ 0 ≤ d ∧ d + n = m ∧ 0 ≤ a ∧ (d ≤ 3 → a ≤ 999) ∧ a ≤ 9999 ∧ (d ≤ 2 → a ≤ 99) ∧ (d ≤ 1 → a ≤ 9) ∧ (d = 0 → a = 0) ∧ d + ndig (tsg σ) q n = k ∧ nval (tsg σ) q a n = v ∧ q = tsk σ + d
def w_X10_number : WP := fun av σ Q => ∃ (m : Int), av = [(26, 1), (0, m)] ∧ (tapeOk σ ∧ 0 ≤ σ 1 2 ∧ σ 1 2 ≤ σ 1 1 ∧ 1 ≤ m ∧ m ≤ 4 ∧ Q (0, if ndig (tsg σ) (tsk σ) m.toNat = 0 ∨ (48 ≤ tsg σ (tsk σ + ndig (tsg σ) (tsk σ) m.toNat) ∧ tsg σ (tsk σ + ndig (tsg σ) (tsk σ) m.toNat) ≤ 57) then -1 else nval (tsg σ) (tsk σ) 0 m.toNat) (up σ 1 2 (tsk σ + ndig (tsg σ) (tsk σ) m.toNat)))
theorem w_X10_number_e (m : Int) (σ : Mem) (Q : AV → Mem → Prop) : w_X10_number [(26, 1), (0, m)] σ Q = (tapeOk σ ∧ 0 ≤ σ 1 2 ∧ σ 1 2 ≤ σ 1 1 ∧ 1 ≤ m ∧ m ≤ 4 ∧ Q (0, if ndig (tsg σ) (tsk σ) m.toNat = 0 ∨ (48 ≤ tsg σ (tsk σ + ndig (tsg σ) (tsk σ) m.toNat) ∧ tsg σ (tsk σ + ndig (tsg σ) (tsk σ) m.toNat) ≤ 57) then -1 else nval (tsg σ) (tsk σ) 0 m.toNat) (up σ 1 2 (tsk σ + ndig (tsg σ) (tsk σ) m.toNat))) := by
  apply propext; constructor
  · rintro ⟨m', h9, hb9⟩; cases h9; exact hb9
  · intro hb9; exact ⟨m, rfl, hb9⟩

set_option maxRecDepth 100000 in
set_option maxHeartbeats 4000000 in
theorem s_X10_number : ∀ av σ Q, w_X10_number av σ Q → amCall 2 0 0 TT yX10_number cX10_number 4 (some .int) av σ Q := by
  rintro av σ Q ⟨m, rfl, ht, h0, h1, h2, h3, h⟩
  obtain ⟨hk1, hk2⟩ := tsk_bd h0 h1
  have ht0 := ht.1
  have ht1 := ht.2.1
  generalize hk : ndig (tsg σ) (tsk σ) m.toNat = k at h
  generalize hv : nval (tsg σ) (tsk σ) 0 m.toNat = v at h
  refine am_m [9] (inv_number σ m k v) (own := RX10) (A := look a_X10_number) (fun X e1 e2 hB => o_X10_number e1 e2 hB) rfl (by decide +kernel) rfl rfl ?_ ⟨60, ?_⟩ (w := 4)
  · rintro n pc ls st σ' ⟨rfl, rfl, q, a, d, rfl, rfl, hq0, hq1, hd0, hd1, ha0, ha3, ha4, ha2, ha1, ha5, hk', hv', hq⟩
    have hb := tsg_bd ht q
    have e1 : up σ 1 2 q 1 1 = σ 1 1 := up_n σ (Or.inr (by decide))
    refine ⟨120, ?_⟩
    simp only [vI_e, vL_e, vNull_e, vIload_e, vLload_e, vAload_e, vIstore_e, vLstore_e, vAstore_e, vIinc_e, vIadd_e, vIsub_e, vImul_e, vIand_e, vIor_e, vIxor_e, vIshl_e, vIshr_e, vIushr_e, vIdiv_e, vIrem_e, vLadd_e, vLsub_e, vLmul_e, vLand_e, vLor_e, vLxor_e, vLdiv_e, vLrem_e, vLushr_e, vLshl_e, vLcmp_e, vIneg_e, vI2l_e, vL2i_e, vI2b_e, vI2c_e, vDup_e, vPop_e, vDup2_e, vGoto_e, vIcEq_e, vIfEq_e, vIcNe_e, vIfNe_e, vIcLt_e, vIfLt_e, vIcGe_e, vIfGe_e, vIcGt_e, vIfGt_e, vIcLe_e, vIfLe_e, vNonnull_e, vSw_e, vGetI_e, vGetL_e, vGetR_e, vPutI_e, vPutZ_e, vPutL_e, vPutR_e, vIald_e, vIald_s, vLald_e, vBald_e, vBald_s, vAald_e, vIast_e, vLast_e, vBast_e, vAast_e, vAlen_e8, vAlen_e9, vAlen_e10, vAlen_e11, vAlen_e5, vAlen_e3, vGets_e, vCompact_e, vLdcS_e, vIret_e, vZret_e, vCret_e, vBret_e, vLret_e, vVret_e, vAret_e, vCallM_e0, vCallMV_e0, vCallS_e0, vCallSV_e0, vCallM_e1, vCallMV_e1, vCallS_e1, vCallSV_e1, vCallM_e2, vCallMV_e2, vCallS_e2, vCallSV_e2, vCallM_e3, vCallMV_e3, vCallS_e3, vCallSV_e3, vCallM_e4, vCallMV_e4, vCallS_e4, vCallSV_e4, vCallM_e5, vCallMV_e5, vCallS_e5, vCallSV_e5, vCallM_e6, vCallMV_e6, vCallS_e6, vCallSV_e6, vCallM_e7, vCallMV_e7, vCallS_e7, vCallSV_e7, vBad_e, vStrVal_e, vStrCod_e, vForm_e, vCallT_e0, vCallT_e1, vCallT_e2, vCopy_e, rf_0_0, rf_0_1, rf_0_2, rf_0_3, rf_0_4, rf_0_7, rf_0_10, rf_0_11, rf_0_12, rf_0_13, rf_0_14, rf_0_15, rf_0_16, rf_1_0, rf_3_0, rf_3_1, rf_6_0, rf_6_1, rf_9_0, rf_9_1, rf_9_3, rf_13_0, rf_13_1, rf_13_2, rf_16_0, rf_16_1, rf_16_2, rf_16_3, rf_21_0, rf_21_1, rf_21_2, rf_21_3, rf_26_0, rf_26_1, rf_26_2, rf_26_3, rf_26_4, rf_26_5, rf_26_6, rf_31_0, rf_31_2, rf_31_5, rf_31_6, rf_36_0, rf_36_1, rf_36_2, rf_36_3, rf_39_0, rf_39_1, rf_39_2, rf_41_0, rf_41_1, rf_41_2, rf_41_3, rf_5000_1, rf_5000_2, rf_5000_3, rf_5000_4, rf_5000_5, rf_5000_15, rf_5000_16, rf_5000_18, rf_5000_19, rf_5000_20, rf_5000_21, rf_5000_22, rf_5000_23, rf_5000_24, rf_5000_25, rf_5000_26, rf_5000_27, rf_5000_36, rf_5000_37, rf_5000_40, rf_5000_41, rf_5000_42, rf_5000_43, rf_5000_44, rf_5000_45, rf_5000_47, rf_5000_52, rf_5000_54, rf_5000_55, rf_100_0, rf_100_1, rf_103_0, rf_103_1, rf_106_0, rf_106_1, rf_109_0, rf_109_1, al_2, al_4, al_5, al_7, al_8, al_10, al_11, al_12, al_14, al_15, al_17, al_18, al_19, al_20, al_22, al_23, al_24, al_25, al_27, al_28, al_29, al_30, al_32, al_33, al_34, al_35, al_37, al_38, al_40, al_42, al_5001, al_5002, al_5003, al_5004, al_5005, al_5006, al_5007, al_5008, al_5009, al_5010, al_5011, al_5012, al_5013, al_5014, al_5015, al_5016, al_5017, al_5018, al_5019, al_5020, al_5021, al_5022, al_5023, al_5024, al_5025, al_5026, al_9000, al_101, al_102, al_104, al_105, al_107, al_108, al_110, al_111, vcs_e, lg_c0, lg_cs, lg_nil, set_c0, set_cs, okst_0, okst_s, acok_n, acok_c, List.contains_nil, List.contains_cons, Bool.or_false, Bool.false_or, Bool.false_eq_true, if_false, if_true, ite_self, ne_eq, true_and, and_true, not_false_eq_true, not_true_eq_false, false_imp_iff, true_imp_iff, Nat.ble_eq, Bool.and_eq_true, reduceCtorEq, or_false, false_or, or_true, true_or, false_and, and_false, and_self, Int.reduceLE, Int.reduceAdd, Int.reduceSub, Int.reduceMul, Int.reduceNeg, Int.reduceLT, Int.reduceEq, Int.reduceNe, Nat.reduceBEq, Nat.reduceBNe, Nat.reduceEqDiff, amCmp_in, amCmp_lt, amCmp_le, amCmp_gt, amCmp_ge, amCmp_eq, amCmp_ne, Nat.reduceLeDiff, Nat.reduceSub, Bool.and_true, Bool.true_and, Bool.and_self, Bool.or_true, Bool.true_or, isRf_3, isRf_4, isRf_5, isRf_8, isRf_9, isRf_10, isRf_11, isRf_15, isRf_16, isRf_17, isRf_18, isRf_19, isRf_20, isRf_21, isRf_22, isRf_23, isRf_24, isRf_25, isRf_26, isRf_27, isRf_28, k_X10_number_0, k_X10_number_1, k_X10_number_4, k_X10_number_5, k_X10_number_6, k_X10_number_7, k_X10_number_8, k_X10_number_9, k_X10_number_10, k_X10_number_11, k_X10_number_14, k_X10_number_15, k_X10_number_18, k_X10_number_21, k_X10_number_24, k_X10_number_26, k_X10_number_27, k_X10_number_28, k_X10_number_29, k_X10_number_32, k_X10_number_33, k_X10_number_35, k_X10_number_36, k_X10_number_37, k_X10_number_40, k_X10_number_41, k_X10_number_42, k_X10_number_45, k_X10_number_46, k_X10_number_47, k_X10_number_50, k_X10_number_53, k_X10_number_54, k_X10_number_57, k_X10_number_58, k_X10_number_61, k_X10_number_64, k_X10_number_67, k_X10_number_68, k_X10_number_71, k_X10_number_72, w_X10_ahead_e, w_X10_isDigit_e, w_X10_sign_e, up_s, e1, tsg_up, up_up]
    cases n with
    | zero =>
      unfold ndig at hk'
      unfold nval at hv'
      subst hv' hq
      rw [show k = d by omega] at h
      by_cases c : 48 ≤ tsg σ (tsk σ + d) ∧ tsg σ (tsk σ + d) ≤ 57
      · rw [if_pos (Or.inr c)] at h
        rw [if_pos c]
        repeat' (first | assumption | apply And.intro | intro _)
        all_goals first | exact h | omega
      · rw [if_neg (by omega)] at h
        rw [if_neg c]
        repeat' (first | assumption | apply And.intro | intro _)
        all_goals first | exact h | omega
    | succ n =>
      unfold ndig at hk'
      unfold nval at hv'
      by_cases c : 48 ≤ tsg σ q ∧ tsg σ q ≤ 57
      · rw [if_pos c] at hk' hv'
        rw [if_pos c]
        have hql : q < σ 1 1 := by
          by_cases h9 : q < σ 1 1
          · exact h9
          · have := hb.2.2.2 (by omega); omega
        repeat' (first | assumption | apply And.intro | intro _)
        all_goals first | omega | exact ⟨n, by omega, rfl, rfl, q + 1, 10 * a + tsg σ q - 48, d + 1, rfl, rfl, by omega, by omega, by omega, by omega, by omega, by omega, by omega, by omega, by omega, by omega, by omega, hv', by omega⟩
      · rw [if_neg c] at hk' hv'
        rw [if_neg c]
        subst hv' hq
        rw [show k = d by omega] at h
        by_cases c0 : d = 0
        · rw [if_pos (Or.inl c0)] at h
          repeat' (first | assumption | apply And.intro | intro _)
          all_goals first | exact h | omega
        · rw [if_neg (by omega)] at h
          repeat' (first | assumption | apply And.intro | intro _)
          all_goals first | exact h | omega
  · change vcs _ _ _ _ 60 0 [(26, 1), (0, m), (6, 0), (6, 0)] [] σ
    simp only [vI_e, vL_e, vNull_e, vIload_e, vLload_e, vAload_e, vIstore_e, vLstore_e, vAstore_e, vIinc_e, vIadd_e, vIsub_e, vImul_e, vIand_e, vIor_e, vIxor_e, vIshl_e, vIshr_e, vIushr_e, vIdiv_e, vIrem_e, vLadd_e, vLsub_e, vLmul_e, vLand_e, vLor_e, vLxor_e, vLdiv_e, vLrem_e, vLushr_e, vLshl_e, vLcmp_e, vIneg_e, vI2l_e, vL2i_e, vI2b_e, vI2c_e, vDup_e, vPop_e, vDup2_e, vGoto_e, vIcEq_e, vIfEq_e, vIcNe_e, vIfNe_e, vIcLt_e, vIfLt_e, vIcGe_e, vIfGe_e, vIcGt_e, vIfGt_e, vIcLe_e, vIfLe_e, vNonnull_e, vSw_e, vGetI_e, vGetL_e, vGetR_e, vPutI_e, vPutZ_e, vPutL_e, vPutR_e, vIald_e, vIald_s, vLald_e, vBald_e, vBald_s, vAald_e, vIast_e, vLast_e, vBast_e, vAast_e, vAlen_e8, vAlen_e9, vAlen_e10, vAlen_e11, vAlen_e5, vAlen_e3, vGets_e, vCompact_e, vLdcS_e, vIret_e, vZret_e, vCret_e, vBret_e, vLret_e, vVret_e, vAret_e, vCallM_e0, vCallMV_e0, vCallS_e0, vCallSV_e0, vCallM_e1, vCallMV_e1, vCallS_e1, vCallSV_e1, vCallM_e2, vCallMV_e2, vCallS_e2, vCallSV_e2, vCallM_e3, vCallMV_e3, vCallS_e3, vCallSV_e3, vCallM_e4, vCallMV_e4, vCallS_e4, vCallSV_e4, vCallM_e5, vCallMV_e5, vCallS_e5, vCallSV_e5, vCallM_e6, vCallMV_e6, vCallS_e6, vCallSV_e6, vCallM_e7, vCallMV_e7, vCallS_e7, vCallSV_e7, vBad_e, vStrVal_e, vStrCod_e, vForm_e, vCallT_e0, vCallT_e1, vCallT_e2, vCopy_e, rf_0_0, rf_0_1, rf_0_2, rf_0_3, rf_0_4, rf_0_7, rf_0_10, rf_0_11, rf_0_12, rf_0_13, rf_0_14, rf_0_15, rf_0_16, rf_1_0, rf_3_0, rf_3_1, rf_6_0, rf_6_1, rf_9_0, rf_9_1, rf_9_3, rf_13_0, rf_13_1, rf_13_2, rf_16_0, rf_16_1, rf_16_2, rf_16_3, rf_21_0, rf_21_1, rf_21_2, rf_21_3, rf_26_0, rf_26_1, rf_26_2, rf_26_3, rf_26_4, rf_26_5, rf_26_6, rf_31_0, rf_31_2, rf_31_5, rf_31_6, rf_36_0, rf_36_1, rf_36_2, rf_36_3, rf_39_0, rf_39_1, rf_39_2, rf_41_0, rf_41_1, rf_41_2, rf_41_3, rf_5000_1, rf_5000_2, rf_5000_3, rf_5000_4, rf_5000_5, rf_5000_15, rf_5000_16, rf_5000_18, rf_5000_19, rf_5000_20, rf_5000_21, rf_5000_22, rf_5000_23, rf_5000_24, rf_5000_25, rf_5000_26, rf_5000_27, rf_5000_36, rf_5000_37, rf_5000_40, rf_5000_41, rf_5000_42, rf_5000_43, rf_5000_44, rf_5000_45, rf_5000_47, rf_5000_52, rf_5000_54, rf_5000_55, rf_100_0, rf_100_1, rf_103_0, rf_103_1, rf_106_0, rf_106_1, rf_109_0, rf_109_1, al_2, al_4, al_5, al_7, al_8, al_10, al_11, al_12, al_14, al_15, al_17, al_18, al_19, al_20, al_22, al_23, al_24, al_25, al_27, al_28, al_29, al_30, al_32, al_33, al_34, al_35, al_37, al_38, al_40, al_42, al_5001, al_5002, al_5003, al_5004, al_5005, al_5006, al_5007, al_5008, al_5009, al_5010, al_5011, al_5012, al_5013, al_5014, al_5015, al_5016, al_5017, al_5018, al_5019, al_5020, al_5021, al_5022, al_5023, al_5024, al_5025, al_5026, al_9000, al_101, al_102, al_104, al_105, al_107, al_108, al_110, al_111, vcs_e, lg_c0, lg_cs, lg_nil, set_c0, set_cs, okst_0, okst_s, acok_n, acok_c, List.contains_nil, List.contains_cons, Bool.or_false, Bool.false_or, Bool.false_eq_true, if_false, if_true, ite_self, ne_eq, true_and, and_true, not_false_eq_true, not_true_eq_false, false_imp_iff, true_imp_iff, Nat.ble_eq, Bool.and_eq_true, reduceCtorEq, or_false, false_or, or_true, true_or, false_and, and_false, and_self, Int.reduceLE, Int.reduceAdd, Int.reduceSub, Int.reduceMul, Int.reduceNeg, Int.reduceLT, Int.reduceEq, Int.reduceNe, Nat.reduceBEq, Nat.reduceBNe, Nat.reduceEqDiff, amCmp_in, amCmp_lt, amCmp_le, amCmp_gt, amCmp_ge, amCmp_eq, amCmp_ne, Nat.reduceLeDiff, Nat.reduceSub, Bool.and_true, Bool.true_and, Bool.and_self, Bool.or_true, Bool.true_or, isRf_3, isRf_4, isRf_5, isRf_8, isRf_9, isRf_10, isRf_11, isRf_15, isRf_16, isRf_17, isRf_18, isRf_19, isRf_20, isRf_21, isRf_22, isRf_23, isRf_24, isRf_25, isRf_26, isRf_27, isRf_28, k_X10_number_0, k_X10_number_1, k_X10_number_4, k_X10_number_5, k_X10_number_6, k_X10_number_7, k_X10_number_8, k_X10_number_9, k_X10_number_10, k_X10_number_11, k_X10_number_14, k_X10_number_15, k_X10_number_18, k_X10_number_21, k_X10_number_24, k_X10_number_26, k_X10_number_27, k_X10_number_28, k_X10_number_29, k_X10_number_32, k_X10_number_33, k_X10_number_35, k_X10_number_36, k_X10_number_37, k_X10_number_40, k_X10_number_41, k_X10_number_42, k_X10_number_45, k_X10_number_46, k_X10_number_47, k_X10_number_50, k_X10_number_53, k_X10_number_54, k_X10_number_57, k_X10_number_58, k_X10_number_61, k_X10_number_64, k_X10_number_67, k_X10_number_68, k_X10_number_71, k_X10_number_72, w_X10_ahead_e, w_X10_isDigit_e, w_X10_sign_e]
    refine ⟨ht, h0, h1, m.toNat, rfl, rfl, tsk σ, 0, 0, rfl, rfl, by omega, by omega, by omega, by omega, by omega, by omega, by omega, by omega, by omega, by omega, by omega, hv, by omega⟩
def a_X10_digit : AC := [(0, vAload 0 1), (1, vCallM w_X10_ahead 26 0 4), (4, vIstore 1 5), (5, vIload 1 6), (6, vCallS w_X10_isDigit 1 9), (9, vIfNe 14 12), (12, vI (-1) 13), (13, vIret), (14, vAload 0 15), (15, vDup 16), (16, vGetI 26 2 19), (19, vI 1 20), (20, vIadd 21), (21, vPutI 26 2 24), (24, vIload 1 25), (25, vI 48 27), (27, vIsub 28), (28, vIret)]
theorem k_X10_digit_0 : look a_X10_digit 0 = vAload 0 1 := rfl
theorem k_X10_digit_1 : look a_X10_digit 1 = vCallM w_X10_ahead 26 0 4 := rfl
theorem k_X10_digit_4 : look a_X10_digit 4 = vIstore 1 5 := rfl
theorem k_X10_digit_5 : look a_X10_digit 5 = vIload 1 6 := rfl
theorem k_X10_digit_6 : look a_X10_digit 6 = vCallS w_X10_isDigit 1 9 := rfl
theorem k_X10_digit_9 : look a_X10_digit 9 = vIfNe 14 12 := rfl
theorem k_X10_digit_12 : look a_X10_digit 12 = vI (-1) 13 := rfl
theorem k_X10_digit_13 : look a_X10_digit 13 = vIret := rfl
theorem k_X10_digit_14 : look a_X10_digit 14 = vAload 0 15 := rfl
theorem k_X10_digit_15 : look a_X10_digit 15 = vDup 16 := rfl
theorem k_X10_digit_16 : look a_X10_digit 16 = vGetI 26 2 19 := rfl
theorem k_X10_digit_19 : look a_X10_digit 19 = vI 1 20 := rfl
theorem k_X10_digit_20 : look a_X10_digit 20 = vIadd 21 := rfl
theorem k_X10_digit_21 : look a_X10_digit 21 = vPutI 26 2 24 := rfl
theorem k_X10_digit_24 : look a_X10_digit 24 = vIload 1 25 := rfl
theorem k_X10_digit_25 : look a_X10_digit 25 = vI 48 27 := rfl
theorem k_X10_digit_27 : look a_X10_digit 27 = vIsub 28 := rfl
theorem k_X10_digit_28 : look a_X10_digit 28 = vIret := rfl
theorem o_X10_digit {X : amX} (e1 : XT X = TT) (e2 : XD X = 2) (hB : amB X RX10 cX10_digit (some .int) 2) : ∀ pc, amOK X pc (look a_X10_digit pc) := by
  have hT : amTok (XT X) := e1 ▸ TT_ok
  refine look_ok ?_
  unfold a_X10_digit
  refine fc (ok_aload_n hB dX10_digit_0) ?_
  refine fc (ok_callM hB hT (e1 ▸ s_X10_ahead) lk_X10_32 (by rw [e2]; decide) (c := 10) rfl rfl rfl wd_409 wd_410 dX10_digit_1) ?_
  refine fc (ok_istore_n hB (by decide) dX10_digit_4) ?_
  refine fc (ok_iload_n hB dX10_digit_5) ?_
  refine fc (ok_callS hB (e1 ▸ s_X10_isDigit) lk_X10_35 (by rw [e2]; decide) wd_547 dX10_digit_6) ?_
  refine fc (ok_if_ne hB (t := 14) (by decide) dX10_digit_9) ?_
  refine fc (ok_iconst hB dX10_digit_12) ?_
  refine fc (ok_iret hB dX10_digit_13) ?_
  refine fc (ok_aload_n hB dX10_digit_14) ?_
  refine fc (ok_dup hB dX10_digit_15) ?_
  refine fc (ok_getI hB hT fl_X10_19 rfl rfl (Or.inl af_10_2) dX10_digit_16) ?_
  refine fc (ok_iconst hB dX10_digit_19) ?_
  refine fc (ok_iadd hB dX10_digit_20) ?_
  refine fc (ok_putI hB hT fp_X10_19 rfl rfl rfl af_10_2 dX10_digit_21) ?_
  refine fc (ok_iload_n hB dX10_digit_24) ?_
  refine fc (ok_bipush hB dX10_digit_25 (by decide)) ?_
  refine fc (ok_isub hB dX10_digit_27) ?_
  refine fc (ok_iret hB dX10_digit_28) ?_
  exact fn

def w_X10_digit : WP := fun av σ Q => av = [(26, 1)] ∧ (tapeOk σ ∧ 0 ≤ σ 1 2 ∧ σ 1 2 ≤ σ 1 1 ∧ (if 48 ≤ tsg σ (tsk σ) ∧ tsg σ (tsk σ) ≤ 57 then Q (0, tsg σ (tsk σ) - 48) (up σ 1 2 (tsk σ + 1)) else Q (0, -1) (up σ 1 2 (tsk σ))))
theorem w_X10_digit_e  (σ : Mem) (Q : AV → Mem → Prop) : w_X10_digit [(26, 1)] σ Q = (tapeOk σ ∧ 0 ≤ σ 1 2 ∧ σ 1 2 ≤ σ 1 1 ∧ (if 48 ≤ tsg σ (tsk σ) ∧ tsg σ (tsk σ) ≤ 57 then Q (0, tsg σ (tsk σ) - 48) (up σ 1 2 (tsk σ + 1)) else Q (0, -1) (up σ 1 2 (tsk σ)))) := by
  apply propext; constructor
  · rintro ⟨h9, hb9⟩; cases h9; exact hb9
  · intro hb9; exact ⟨rfl, hb9⟩

set_option maxRecDepth 100000 in
set_option maxHeartbeats 4000000 in
theorem s_X10_digit : ∀ av σ Q, w_X10_digit av σ Q → amCall 2 0 0 TT yX10_digit cX10_digit 2 (some .int) av σ Q := by
  rintro av σ Q ⟨rfl, ht, h0, h1, h⟩
  obtain ⟨hk1, hk2⟩ := tsk_bd h0 h1
  have hb := tsg_bd ht (tsk σ)
  have ht1 := ht.2.1
  refine am_m0 (own := RX10) (A := look a_X10_digit) (fun X e1 e2 hB => o_X10_digit e1 e2 hB) rfl (by decide +kernel) rfl rfl 60 (w := 2) ?_
  change vcs _ _ _ _ 60 0 [(26, 1), (6, 0)] [] σ
  simp only [vI_e, vL_e, vNull_e, vIload_e, vLload_e, vAload_e, vIstore_e, vLstore_e, vAstore_e, vIinc_e, vIadd_e, vIsub_e, vImul_e, vIand_e, vIor_e, vIxor_e, vIshl_e, vIshr_e, vIushr_e, vIdiv_e, vIrem_e, vLadd_e, vLsub_e, vLmul_e, vLand_e, vLor_e, vLxor_e, vLdiv_e, vLrem_e, vLushr_e, vLshl_e, vLcmp_e, vIneg_e, vI2l_e, vL2i_e, vI2b_e, vI2c_e, vDup_e, vPop_e, vDup2_e, vGoto_e, vIcEq_e, vIfEq_e, vIcNe_e, vIfNe_e, vIcLt_e, vIfLt_e, vIcGe_e, vIfGe_e, vIcGt_e, vIfGt_e, vIcLe_e, vIfLe_e, vNonnull_e, vSw_e, vGetI_e, vGetL_e, vGetR_e, vPutI_e, vPutZ_e, vPutL_e, vPutR_e, vIald_e, vIald_s, vLald_e, vBald_e, vBald_s, vAald_e, vIast_e, vLast_e, vBast_e, vAast_e, vAlen_e8, vAlen_e9, vAlen_e10, vAlen_e11, vAlen_e5, vAlen_e3, vGets_e, vCompact_e, vLdcS_e, vIret_e, vZret_e, vCret_e, vBret_e, vLret_e, vVret_e, vAret_e, vCallM_e0, vCallMV_e0, vCallS_e0, vCallSV_e0, vCallM_e1, vCallMV_e1, vCallS_e1, vCallSV_e1, vCallM_e2, vCallMV_e2, vCallS_e2, vCallSV_e2, vCallM_e3, vCallMV_e3, vCallS_e3, vCallSV_e3, vCallM_e4, vCallMV_e4, vCallS_e4, vCallSV_e4, vCallM_e5, vCallMV_e5, vCallS_e5, vCallSV_e5, vCallM_e6, vCallMV_e6, vCallS_e6, vCallSV_e6, vCallM_e7, vCallMV_e7, vCallS_e7, vCallSV_e7, vBad_e, vStrVal_e, vStrCod_e, vForm_e, vCallT_e0, vCallT_e1, vCallT_e2, vCopy_e, rf_0_0, rf_0_1, rf_0_2, rf_0_3, rf_0_4, rf_0_7, rf_0_10, rf_0_11, rf_0_12, rf_0_13, rf_0_14, rf_0_15, rf_0_16, rf_1_0, rf_3_0, rf_3_1, rf_6_0, rf_6_1, rf_9_0, rf_9_1, rf_9_3, rf_13_0, rf_13_1, rf_13_2, rf_16_0, rf_16_1, rf_16_2, rf_16_3, rf_21_0, rf_21_1, rf_21_2, rf_21_3, rf_26_0, rf_26_1, rf_26_2, rf_26_3, rf_26_4, rf_26_5, rf_26_6, rf_31_0, rf_31_2, rf_31_5, rf_31_6, rf_36_0, rf_36_1, rf_36_2, rf_36_3, rf_39_0, rf_39_1, rf_39_2, rf_41_0, rf_41_1, rf_41_2, rf_41_3, rf_5000_1, rf_5000_2, rf_5000_3, rf_5000_4, rf_5000_5, rf_5000_15, rf_5000_16, rf_5000_18, rf_5000_19, rf_5000_20, rf_5000_21, rf_5000_22, rf_5000_23, rf_5000_24, rf_5000_25, rf_5000_26, rf_5000_27, rf_5000_36, rf_5000_37, rf_5000_40, rf_5000_41, rf_5000_42, rf_5000_43, rf_5000_44, rf_5000_45, rf_5000_47, rf_5000_52, rf_5000_54, rf_5000_55, rf_100_0, rf_100_1, rf_103_0, rf_103_1, rf_106_0, rf_106_1, rf_109_0, rf_109_1, al_2, al_4, al_5, al_7, al_8, al_10, al_11, al_12, al_14, al_15, al_17, al_18, al_19, al_20, al_22, al_23, al_24, al_25, al_27, al_28, al_29, al_30, al_32, al_33, al_34, al_35, al_37, al_38, al_40, al_42, al_5001, al_5002, al_5003, al_5004, al_5005, al_5006, al_5007, al_5008, al_5009, al_5010, al_5011, al_5012, al_5013, al_5014, al_5015, al_5016, al_5017, al_5018, al_5019, al_5020, al_5021, al_5022, al_5023, al_5024, al_5025, al_5026, al_9000, al_101, al_102, al_104, al_105, al_107, al_108, al_110, al_111, vcs_e, lg_c0, lg_cs, lg_nil, set_c0, set_cs, okst_0, okst_s, acok_n, acok_c, List.contains_nil, List.contains_cons, Bool.or_false, Bool.false_or, Bool.false_eq_true, if_false, if_true, ite_self, ne_eq, true_and, and_true, not_false_eq_true, not_true_eq_false, false_imp_iff, true_imp_iff, Nat.ble_eq, Bool.and_eq_true, reduceCtorEq, or_false, false_or, or_true, true_or, false_and, and_false, and_self, Int.reduceLE, Int.reduceAdd, Int.reduceSub, Int.reduceMul, Int.reduceNeg, Int.reduceLT, Int.reduceEq, Int.reduceNe, Nat.reduceBEq, Nat.reduceBNe, Nat.reduceEqDiff, amCmp_in, amCmp_lt, amCmp_le, amCmp_gt, amCmp_ge, amCmp_eq, amCmp_ne, Nat.reduceLeDiff, Nat.reduceSub, Bool.and_true, Bool.true_and, Bool.and_self, Bool.or_true, Bool.true_or, isRf_3, isRf_4, isRf_5, isRf_8, isRf_9, isRf_10, isRf_11, isRf_15, isRf_16, isRf_17, isRf_18, isRf_19, isRf_20, isRf_21, isRf_22, isRf_23, isRf_24, isRf_25, isRf_26, isRf_27, isRf_28, k_X10_digit_0, k_X10_digit_1, k_X10_digit_4, k_X10_digit_5, k_X10_digit_6, k_X10_digit_9, k_X10_digit_12, k_X10_digit_13, k_X10_digit_14, k_X10_digit_15, k_X10_digit_16, k_X10_digit_19, k_X10_digit_20, k_X10_digit_21, k_X10_digit_24, k_X10_digit_25, k_X10_digit_27, k_X10_digit_28, w_X10_ahead_e, w_X10_isDigit_e]
  rw [← show tsk σ = skp (tsg σ) (σ 1 2) (σ 1 1 - σ 1 2).toNat from rfl]
  simp only [up_s, up_up]
  split at h
  · rename_i c
    rw [if_pos c]
    repeat' (first | assumption | apply And.intro | intro _)
    all_goals first | exact h | exact ht | omega
  · rename_i c
    rw [if_neg c]
    repeat' (first | assumption | apply And.intro | intro _)
    all_goals first | exact h | exact ht | omega
