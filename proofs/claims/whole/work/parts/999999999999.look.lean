theorem A : True := True.intro
theorem G0 : True := True.intro
theorem G1 : True := True.intro
theorem L : True := True.intro
theorem P : True := True.intro
theorem Q9 : True := True.intro
theorem R : True := True.intro
theorem S : True := True.intro
theorem T0 : True := True.intro
theorem X : True := True.intro
theorem a : True := True.intro
theorem a0 : True := True.intro
theorem a1 : True := True.intro
theorem al : True := True.intro
theorem b : True := True.intro
theorem b16 : True := True.intro
theorem c : True := True.intro
theorem c0 : True := True.intro
theorem c1 : True := True.intro
theorem c2 : True := True.intro
theorem c3 : True := True.intro
theorem c4 : True := True.intro
theorem cp : True := True.intro
theorem cw : True := True.intro
theorem d : True := True.intro
theorem d0 : True := True.intro
theorem d1 : True := True.intro
theorem d2 : True := True.intro
theorem d3 : True := True.intro
theorem e : True := True.intro
theorem e0 : True := True.intro
theorem e1 : True := True.intro
theorem e15 : True := True.intro
theorem e2 : True := True.intro
theorem e28 : True := True.intro
theorem e3 : True := True.intro
theorem e4 : True := True.intro
theorem e5 : True := True.intro
theorem e9 : True := True.intro
theorem ev : True := True.intro
theorem f0 : True := True.intro
theorem f1 : True := True.intro
theorem f2 : True := True.intro
theorem f3 : True := True.intro
theorem ff : True := True.intro
theorem fin : True := True.intro
theorem g3 : True := True.intro
theorem hB : True := True.intro
theorem hS : True := True.intro
theorem hT : True := True.intro
theorem hb : True := True.intro
theorem hc : True := True.intro
theorem hid : True := True.intro
theorem hm : True := True.intro
theorem i : True := True.intro
theorem i0 : True := True.intro
theorem i1 : True := True.intro
theorem i8 : True := True.intro
theorem i9 : True := True.intro
theorem j : True := True.intro
theorem k : True := True.intro
theorem k0 : True := True.intro
theorem k1 : True := True.intro
theorem k2 : True := True.intro
theorem k3 : True := True.intro
theorem key : True := True.intro
theorem kn : True := True.intro
theorem m : True := True.intro
theorem m0 : True := True.intro
theorem m1 : True := True.intro
theorem m2 : True := True.intro
theorem m3 : True := True.intro
theorem m4 : True := True.intro
theorem n : True := True.intro
theorem n0 : True := True.intro
theorem n1 : True := True.intro
theorem n28 : True := True.intro
theorem n30 : True := True.intro
theorem own : True := True.intro
theorem p : True := True.intro
theorem q : True := True.intro
theorem q1 : True := True.intro
theorem q7 : True := True.intro
theorem q8 : True := True.intro
theorem q9 : True := True.intro
theorem r1 : True := True.intro
theorem row : True := True.intro
theorem s : True := True.intro
theorem s0 : True := True.intro
theorem s1 : True := True.intro
theorem s2 : True := True.intro
theorem s3 : True := True.intro
theorem s4 : True := True.intro
theorem sb : True := True.intro
theorem st : True := True.intro
theorem t : True := True.intro
theorem t0 : True := True.intro
theorem t1 : True := True.intro
theorem t3 : True := True.intro
theorem tb : True := True.intro
theorem tc : True := True.intro
theorem told : True := True.intro
theorem u1 : True := True.intro
theorem u2 : True := True.intro
theorem uB : True := True.intro
theorem v : True := True.intro
theorem v0 : True := True.intro
theorem w : True := True.intro
theorem w0 : True := True.intro
theorem w1 : True := True.intro
theorem w2 : True := True.intro
theorem y : True := True.intro
theorem z : True := True.intro
/-! the reference reads SEASONS: season 5013 (the one read: from 192 on), seasonLong 5014 (4) -/
theorem u10_rd (σ : Mem) (v : Int) : up σ 5000 10 v = rdM σ v (σ 5000 11) (σ 5000 12) := by
  have := rd_u10 σ (σ 5000 10) (σ 5000 11) (σ 5000 12) v
  rw [rd_id] at this; exact this
theorem mtx_u10 {σ : Mem} (h : txOk σ) (v : Int) : mtx (up σ 5000 10 v) = mtx σ := by rw [u10_rd, mtx_rd h]
theorem txOk_u10 {σ : Mem} (h : txOk σ) (v : Int) : txOk (up σ 5000 10 v) := by rw [u10_rd]; exact txOk_rd h _ _ _

def a_X12_digit : AC := [(0, vAload 0 1), (1, vCallM w_X12_look 28 0 4), (4, vIstore 1 5), (5, vAload 0 6), (6, vCallM w_X12_isDigit 28 0 9), (9, vIfNe 19 12), (12, vAload 0 13), (13, vCallM w_X12_fails 28 0 16), (16, vPop 17), (17, vI 0 18), (18, vIret), (19, vAload 0 20), (20, vDup 21), (21, vGetI 28 10 24), (24, vI 1 25), (25, vIadd 26), (26, vPutI 28 10 29), (29, vIload 1 30), (30, vI 48 32), (32, vIsub 33), (33, vIret)]
theorem k_X12_digit_0 : look a_X12_digit 0 = vAload 0 1 := rfl
theorem k_X12_digit_1 : look a_X12_digit 1 = vCallM w_X12_look 28 0 4 := rfl
theorem k_X12_digit_4 : look a_X12_digit 4 = vIstore 1 5 := rfl
theorem k_X12_digit_5 : look a_X12_digit 5 = vAload 0 6 := rfl
theorem k_X12_digit_6 : look a_X12_digit 6 = vCallM w_X12_isDigit 28 0 9 := rfl
theorem k_X12_digit_9 : look a_X12_digit 9 = vIfNe 19 12 := rfl
theorem k_X12_digit_12 : look a_X12_digit 12 = vAload 0 13 := rfl
theorem k_X12_digit_13 : look a_X12_digit 13 = vCallM w_X12_fails 28 0 16 := rfl
theorem k_X12_digit_16 : look a_X12_digit 16 = vPop 17 := rfl
theorem k_X12_digit_17 : look a_X12_digit 17 = vI 0 18 := rfl
theorem k_X12_digit_18 : look a_X12_digit 18 = vIret := rfl
theorem k_X12_digit_19 : look a_X12_digit 19 = vAload 0 20 := rfl
theorem k_X12_digit_20 : look a_X12_digit 20 = vDup 21 := rfl
theorem k_X12_digit_21 : look a_X12_digit 21 = vGetI 28 10 24 := rfl
theorem k_X12_digit_24 : look a_X12_digit 24 = vI 1 25 := rfl
theorem k_X12_digit_25 : look a_X12_digit 25 = vIadd 26 := rfl
theorem k_X12_digit_26 : look a_X12_digit 26 = vPutI 28 10 29 := rfl
theorem k_X12_digit_29 : look a_X12_digit 29 = vIload 1 30 := rfl
theorem k_X12_digit_30 : look a_X12_digit 30 = vI 48 32 := rfl
theorem k_X12_digit_32 : look a_X12_digit 32 = vIsub 33 := rfl
theorem k_X12_digit_33 : look a_X12_digit 33 = vIret := rfl
theorem o_X12_digit {X : amX} (e1 : XT X = TT) (e2 : XD X = 1) (hB : amB X RX12 cX12_digit (some .int) 2) : ∀ pc, amOK X pc (look a_X12_digit pc) := by
  have hT : amTok (XT X) := e1 ▸ TT_ok
  refine look_ok ?_
  unfold a_X12_digit
  refine fc (ok_aload_n hB dX12_digit_0) ?_
  refine fc (ok_callM hB hT (e1 ▸ s_X12_look) lk_X12_153 (by rw [e2]; decide) (c := 12) rfl rfl rfl wd_1521 sl_X12_look dX12_digit_1) ?_
  refine fc (ok_istore_n hB (by decide) dX12_digit_4) ?_
  refine fc (ok_aload_n hB dX12_digit_5) ?_
  refine fc (ok_callM hB hT (e1 ▸ s_X12_isDigit) lk_X12_183 (by rw [e2]; decide) (c := 12) rfl rfl rfl wd_1552 sl_X12_isDigit dX12_digit_6) ?_
  refine fc (ok_if_ne hB (t := 19) (by decide) dX12_digit_9) ?_
  refine fc (ok_aload_n hB dX12_digit_12) ?_
  refine fc (ok_callM hB hT (e1 ▸ s_X12_fails) lk_X12_149 (by rw [e2]; decide) (c := 12) rfl rfl rfl wd_1525 sl_X12_fails dX12_digit_13) ?_
  refine fc (ok_pop hB dX12_digit_16) ?_
  refine fc (ok_iconst hB dX12_digit_17) ?_
  refine fc (ok_iret hB dX12_digit_18) ?_
  refine fc (ok_aload_n hB dX12_digit_19) ?_
  refine fc (ok_dup hB dX12_digit_20) ?_
  refine fc (ok_getI hB hT fl_X12_134 rfl rfl (Or.inl af_12_10) dX12_digit_21) ?_
  refine fc (ok_iconst hB dX12_digit_24) ?_
  refine fc (ok_iadd hB dX12_digit_25) ?_
  refine fc (ok_putI hB hT fp_X12_134 rfl rfl rfl af_12_10 dX12_digit_26) ?_
  refine fc (ok_iload_n hB dX12_digit_29) ?_
  refine fc (ok_bipush hB dX12_digit_30 (by decide)) ?_
  refine fc (ok_isub hB dX12_digit_32) ?_
  refine fc (ok_iret hB dX12_digit_33) ?_
  exact fn

def w_X12_digit : WP := fun av σ Q => av = [(28, 5000)] ∧ (txOk σ ∧ 0 ≤ σ 5000 10 ∧ σ 5000 10 ≤ σ 5000 9 ∧ InR (σ 5000 11) ∧ (48 ≤ mtx σ (msk σ) ∧ mtx σ (msk σ) ≤ 57 → Q (0, mtx σ (msk σ) - 48) (up σ 5000 10 (msk σ + 1))) ∧ (¬ (48 ≤ mtx σ (msk σ) ∧ mtx σ (msk σ) ≤ 57) → Q (0, 0) (faM (up σ 5000 10 (msk σ)))))
theorem w_X12_digit_e  (σ : Mem) (Q : AV → Mem → Prop) : w_X12_digit [(28, 5000)] σ Q = (txOk σ ∧ 0 ≤ σ 5000 10 ∧ σ 5000 10 ≤ σ 5000 9 ∧ InR (σ 5000 11) ∧ (48 ≤ mtx σ (msk σ) ∧ mtx σ (msk σ) ≤ 57 → Q (0, mtx σ (msk σ) - 48) (up σ 5000 10 (msk σ + 1))) ∧ (¬ (48 ≤ mtx σ (msk σ) ∧ mtx σ (msk σ) ≤ 57) → Q (0, 0) (faM (up σ 5000 10 (msk σ))))) := by
  apply propext; constructor
  · rintro ⟨h9, hb9⟩; cases h9; exact hb9
  · intro hb9; exact ⟨rfl, hb9⟩

set_option maxRecDepth 100000 in
set_option maxHeartbeats 4000000 in
theorem s_X12_digit : ∀ av σ Q, w_X12_digit av σ Q → amCall 1 0 0 TT yX12_digit cX12_digit 2 (some .int) av σ Q := by
  rintro av σ Q ⟨rfl, ht, h0, h1, hf, hq1, hq2⟩
  have hsb : σ 5000 10 ≤ msk σ ∧ msk σ ≤ σ 5000 9 := sk_b (mtx σ) h1
  have tb := mtx_b ht (msk σ)
  have n1 := ht.2.1
  have et : ∀ v, mtx (up σ 5000 10 v) = mtx σ := fun v => mtx_u10 ht v
  have hto := txOk_u10 ht (msk σ)
  have u9 : ∀ v, up σ 5000 10 v 5000 9 = σ 5000 9 := fun v => up_nj _ (by decide)
  have u11 : ∀ v, up σ 5000 10 v 5000 11 = σ 5000 11 := fun v => up_nj _ (by decide)
  generalize hg : msk σ = p at *
  by_cases c : 48 ≤ mtx σ p ∧ mtx σ p ≤ 57
  · have q8 := hq1 c
    refine am_m0 (own := RX12) (A := look a_X12_digit) (fun X e1 e2 hB => o_X12_digit e1 e2 hB) rfl (by decide +kernel) rfl rfl 190 (w := 2) ?_
    change vcs _ _ _ _ 190 0 [(28, 5000), (6, 0)] [] σ
    simp only [↓reduceIte, inR_0, inR_1, inR_m, vSw2_e, swP_n, swP_c, vI_e, vL_e, vNull_e, vIload_e, vLload_e, vAload_e, vIstore_e, vLstore_e, vAstore_e, vIinc_e, vIadd_e, vIsub_e, vImul_e, vIand_e, vIor_e, vIxor_e, vIshl_e, vIshr_e, vIushr_e, vIdiv_e, vIrem_e, vLadd_e, vLsub_e, vLmul_e, vLand_e, vLor_e, vLxor_e, vLdiv_e, vLrem_e, vLushr_e, vLshl_e, vLcmp_e, vIneg_e, vI2l_e, vL2i_e, vI2b_e, vI2c_e, vDup_e, vPop_e, vDup2_e, vGoto_e, vIcEq_e, vIfEq_e, vIcNe_e, vIfNe_e, vIcLt_e, vIfLt_e, vIcGe_e, vIfGe_e, vIcGt_e, vIfGt_e, vIcLe_e, vIfLe_e, vNonnull_e, vSw_e, vGetI_e, vGetL_e, vGetR_e, vPutI_e, vPutZ_e, vPutL_e, vPutR_e, vIald_e, vIald_s, vLald_e, vBald_e, vBald_s, vAald_e, vIast_e, vLast_e, vBast_e, vAast_e, vAlen_e8, vAlen_e9, vAlen_e10, vAlen_e11, vAlen_e5, vAlen_e3, vGets_e, vCompact_e, vLdcS_e, vIret_e, vZret_e, vCret_e, vBret_e, vLret_e, vVret_e, vAret_e, vCallM_e0, vCallMV_e0, vCallS_e0, vCallSV_e0, vCallM_e1, vCallMV_e1, vCallS_e1, vCallSV_e1, vCallM_e2, vCallMV_e2, vCallS_e2, vCallSV_e2, vCallM_e3, vCallMV_e3, vCallS_e3, vCallSV_e3, vCallM_e4, vCallMV_e4, vCallS_e4, vCallSV_e4, vCallM_e5, vCallMV_e5, vCallS_e5, vCallSV_e5, vCallM_e6, vCallMV_e6, vCallS_e6, vCallSV_e6, vCallM_e7, vCallMV_e7, vCallS_e7, vCallSV_e7, vBad_e, vStrVal_e, vStrCod_e, vForm_e, vCallT_e0, vCallT_e1, vCallT_e2, vCopy_e, rf_0_0, rf_0_1, rf_0_2, rf_0_3, rf_0_4, rf_0_7, rf_0_10, rf_0_11, rf_0_12, rf_0_13, rf_0_14, rf_0_15, rf_0_16, rf_1_0, rf_3_0, rf_3_1, rf_6_0, rf_6_1, rf_9_0, rf_9_1, rf_9_3, rf_13_0, rf_13_1, rf_13_2, rf_16_0, rf_16_1, rf_16_2, rf_16_3, rf_21_0, rf_21_1, rf_21_2, rf_21_3, rf_26_0, rf_26_1, rf_26_2, rf_26_3, rf_26_4, rf_26_5, rf_26_6, rf_31_0, rf_31_2, rf_31_5, rf_31_6, rf_36_0, rf_36_1, rf_36_2, rf_36_3, rf_39_0, rf_39_1, rf_39_2, rf_41_0, rf_41_1, rf_41_2, rf_41_3, rf_5000_1, rf_5000_2, rf_5000_3, rf_5000_4, rf_5000_5, rf_5000_15, rf_5000_16, rf_5000_18, rf_5000_19, rf_5000_20, rf_5000_21, rf_5000_22, rf_5000_23, rf_5000_24, rf_5000_25, rf_5000_26, rf_5000_27, rf_5000_36, rf_5000_37, rf_5000_40, rf_5000_41, rf_5000_42, rf_5000_43, rf_5000_44, rf_5000_45, rf_5000_47, rf_5000_52, rf_5000_54, rf_5000_55, rf_100_0, rf_100_1, rf_103_0, rf_103_1, rf_106_0, rf_106_1, rf_109_0, rf_109_1, al_2, al_4, al_5, al_7, al_8, al_10, al_11, al_12, al_14, al_15, al_17, al_18, al_19, al_20, al_22, al_23, al_24, al_25, al_27, al_28, al_29, al_30, al_32, al_33, al_34, al_35, al_37, al_38, al_40, al_42, al_5001, al_5002, al_5003, al_5004, al_5005, al_5006, al_5007, al_5008, al_5009, al_5010, al_5011, al_5012, al_5013, al_5014, al_5015, al_5016, al_5017, al_5018, al_5019, al_5020, al_5021, al_5022, al_5023, al_5024, al_5025, al_5026, al_9000, al_101, al_102, al_104, al_105, al_107, al_108, al_110, al_111, vcs_e, lg_c0, lg_cs, lg_nil, set_c0, set_cs, okst_0, okst_s, acok_n, acok_c, List.contains_nil, List.contains_cons, Bool.or_false, Bool.false_or, Bool.false_eq_true, if_false, if_true, ite_self, ne_eq, true_and, and_true, not_false_eq_true, not_true_eq_false, false_imp_iff, true_imp_iff, Nat.ble_eq, Bool.and_eq_true, reduceCtorEq, or_false, false_or, or_true, true_or, false_and, and_false, and_self, Int.reduceLE, Int.reduceAdd, Int.reduceSub, Int.reduceMul, Int.reduceNeg, Int.reduceLT, Int.reduceEq, Int.reduceNe, Nat.reduceBEq, Nat.reduceBNe, Nat.reduceEqDiff, amCmp_in, amCmp_lt, amCmp_le, amCmp_gt, amCmp_ge, amCmp_eq, amCmp_ne, Nat.reduceLeDiff, Nat.reduceSub, Bool.and_true, Bool.true_and, Bool.and_self, Bool.or_true, Bool.true_or, isRf_3, isRf_4, isRf_5, isRf_8, isRf_9, isRf_10, isRf_11, isRf_15, isRf_16, isRf_17, isRf_18, isRf_19, isRf_20, isRf_21, isRf_22, isRf_23, isRf_24, isRf_25, isRf_26, isRf_27, isRf_28, k_X12_digit_0, k_X12_digit_1, k_X12_digit_4, k_X12_digit_5, k_X12_digit_6, k_X12_digit_9, k_X12_digit_12, k_X12_digit_13, k_X12_digit_16, k_X12_digit_17, k_X12_digit_18, k_X12_digit_19, k_X12_digit_20, k_X12_digit_21, k_X12_digit_24, k_X12_digit_25, k_X12_digit_26, k_X12_digit_29, k_X12_digit_30, k_X12_digit_32, k_X12_digit_33, w_X12_fails_e, w_X12_isDigit_e, w_X12_look_e, up_s, up_nj, up_na, up_up, savR_o, cpy_o, fillm_o, setAud_o, setv_o, setv_s, Int.reduceNe, Int.reduceEq, Int.reduceLT, Int.reduceAdd, not_false_eq_true, ne_eq, or_true, true_or, hg, et, u9, u11, up_s, up_up, if_pos c]
    repeat' (first | assumption | exact ht | exact hto | apply And.intro | intro _)
    all_goals first | omega | exact absurd trivial (by assumption) | exact q8 | skip
  · have q8 := hq2 c
    refine am_m0 (own := RX12) (A := look a_X12_digit) (fun X e1 e2 hB => o_X12_digit e1 e2 hB) rfl (by decide +kernel) rfl rfl 190 (w := 2) ?_
    change vcs _ _ _ _ 190 0 [(28, 5000), (6, 0)] [] σ
    simp only [↓reduceIte, inR_0, inR_1, inR_m, vSw2_e, swP_n, swP_c, vI_e, vL_e, vNull_e, vIload_e, vLload_e, vAload_e, vIstore_e, vLstore_e, vAstore_e, vIinc_e, vIadd_e, vIsub_e, vImul_e, vIand_e, vIor_e, vIxor_e, vIshl_e, vIshr_e, vIushr_e, vIdiv_e, vIrem_e, vLadd_e, vLsub_e, vLmul_e, vLand_e, vLor_e, vLxor_e, vLdiv_e, vLrem_e, vLushr_e, vLshl_e, vLcmp_e, vIneg_e, vI2l_e, vL2i_e, vI2b_e, vI2c_e, vDup_e, vPop_e, vDup2_e, vGoto_e, vIcEq_e, vIfEq_e, vIcNe_e, vIfNe_e, vIcLt_e, vIfLt_e, vIcGe_e, vIfGe_e, vIcGt_e, vIfGt_e, vIcLe_e, vIfLe_e, vNonnull_e, vSw_e, vGetI_e, vGetL_e, vGetR_e, vPutI_e, vPutZ_e, vPutL_e, vPutR_e, vIald_e, vIald_s, vLald_e, vBald_e, vBald_s, vAald_e, vIast_e, vLast_e, vBast_e, vAast_e, vAlen_e8, vAlen_e9, vAlen_e10, vAlen_e11, vAlen_e5, vAlen_e3, vGets_e, vCompact_e, vLdcS_e, vIret_e, vZret_e, vCret_e, vBret_e, vLret_e, vVret_e, vAret_e, vCallM_e0, vCallMV_e0, vCallS_e0, vCallSV_e0, vCallM_e1, vCallMV_e1, vCallS_e1, vCallSV_e1, vCallM_e2, vCallMV_e2, vCallS_e2, vCallSV_e2, vCallM_e3, vCallMV_e3, vCallS_e3, vCallSV_e3, vCallM_e4, vCallMV_e4, vCallS_e4, vCallSV_e4, vCallM_e5, vCallMV_e5, vCallS_e5, vCallSV_e5, vCallM_e6, vCallMV_e6, vCallS_e6, vCallSV_e6, vCallM_e7, vCallMV_e7, vCallS_e7, vCallSV_e7, vBad_e, vStrVal_e, vStrCod_e, vForm_e, vCallT_e0, vCallT_e1, vCallT_e2, vCopy_e, rf_0_0, rf_0_1, rf_0_2, rf_0_3, rf_0_4, rf_0_7, rf_0_10, rf_0_11, rf_0_12, rf_0_13, rf_0_14, rf_0_15, rf_0_16, rf_1_0, rf_3_0, rf_3_1, rf_6_0, rf_6_1, rf_9_0, rf_9_1, rf_9_3, rf_13_0, rf_13_1, rf_13_2, rf_16_0, rf_16_1, rf_16_2, rf_16_3, rf_21_0, rf_21_1, rf_21_2, rf_21_3, rf_26_0, rf_26_1, rf_26_2, rf_26_3, rf_26_4, rf_26_5, rf_26_6, rf_31_0, rf_31_2, rf_31_5, rf_31_6, rf_36_0, rf_36_1, rf_36_2, rf_36_3, rf_39_0, rf_39_1, rf_39_2, rf_41_0, rf_41_1, rf_41_2, rf_41_3, rf_5000_1, rf_5000_2, rf_5000_3, rf_5000_4, rf_5000_5, rf_5000_15, rf_5000_16, rf_5000_18, rf_5000_19, rf_5000_20, rf_5000_21, rf_5000_22, rf_5000_23, rf_5000_24, rf_5000_25, rf_5000_26, rf_5000_27, rf_5000_36, rf_5000_37, rf_5000_40, rf_5000_41, rf_5000_42, rf_5000_43, rf_5000_44, rf_5000_45, rf_5000_47, rf_5000_52, rf_5000_54, rf_5000_55, rf_100_0, rf_100_1, rf_103_0, rf_103_1, rf_106_0, rf_106_1, rf_109_0, rf_109_1, al_2, al_4, al_5, al_7, al_8, al_10, al_11, al_12, al_14, al_15, al_17, al_18, al_19, al_20, al_22, al_23, al_24, al_25, al_27, al_28, al_29, al_30, al_32, al_33, al_34, al_35, al_37, al_38, al_40, al_42, al_5001, al_5002, al_5003, al_5004, al_5005, al_5006, al_5007, al_5008, al_5009, al_5010, al_5011, al_5012, al_5013, al_5014, al_5015, al_5016, al_5017, al_5018, al_5019, al_5020, al_5021, al_5022, al_5023, al_5024, al_5025, al_5026, al_9000, al_101, al_102, al_104, al_105, al_107, al_108, al_110, al_111, vcs_e, lg_c0, lg_cs, lg_nil, set_c0, set_cs, okst_0, okst_s, acok_n, acok_c, List.contains_nil, List.contains_cons, Bool.or_false, Bool.false_or, Bool.false_eq_true, if_false, if_true, ite_self, ne_eq, true_and, and_true, not_false_eq_true, not_true_eq_false, false_imp_iff, true_imp_iff, Nat.ble_eq, Bool.and_eq_true, reduceCtorEq, or_false, false_or, or_true, true_or, false_and, and_false, and_self, Int.reduceLE, Int.reduceAdd, Int.reduceSub, Int.reduceMul, Int.reduceNeg, Int.reduceLT, Int.reduceEq, Int.reduceNe, Nat.reduceBEq, Nat.reduceBNe, Nat.reduceEqDiff, amCmp_in, amCmp_lt, amCmp_le, amCmp_gt, amCmp_ge, amCmp_eq, amCmp_ne, Nat.reduceLeDiff, Nat.reduceSub, Bool.and_true, Bool.true_and, Bool.and_self, Bool.or_true, Bool.true_or, isRf_3, isRf_4, isRf_5, isRf_8, isRf_9, isRf_10, isRf_11, isRf_15, isRf_16, isRf_17, isRf_18, isRf_19, isRf_20, isRf_21, isRf_22, isRf_23, isRf_24, isRf_25, isRf_26, isRf_27, isRf_28, k_X12_digit_0, k_X12_digit_1, k_X12_digit_4, k_X12_digit_5, k_X12_digit_6, k_X12_digit_9, k_X12_digit_12, k_X12_digit_13, k_X12_digit_16, k_X12_digit_17, k_X12_digit_18, k_X12_digit_19, k_X12_digit_20, k_X12_digit_21, k_X12_digit_24, k_X12_digit_25, k_X12_digit_26, k_X12_digit_29, k_X12_digit_30, k_X12_digit_32, k_X12_digit_33, w_X12_fails_e, w_X12_isDigit_e, w_X12_look_e, up_s, up_nj, up_na, up_up, savR_o, cpy_o, fillm_o, setAud_o, setv_o, setv_s, Int.reduceNe, Int.reduceEq, Int.reduceLT, Int.reduceAdd, not_false_eq_true, ne_eq, or_true, true_or, hg, et, u9, u11, up_s, up_up, if_neg c]
    repeat' (first | assumption | exact ht | exact hto | apply And.intro | intro _)
    all_goals first | omega | exact absurd trivial (by assumption) | exact q8
/-- while a SEASON is read -/
def seM (m : Mem) (p f : Int) (v : Int → Int) : Mem := fun b j => if b = 5013 ∧ 192 ≤ j ∧ j < 240 then v (j - 192) else rdM m p f (m 5000 12) b j
theorem se_5 (m : Mem) (p f : Int) (v : Int → Int) : seM m p f v 5000 = rdM m p f (m 5000 12) 5000 := by
  funext j; unfold seM; rw [if_neg (by omega)]
theorem se_10 (m : Mem) (p f : Int) (v : Int → Int) : seM m p f v 5000 10 = p := by rw [se_5]; exact rd_10 _ _ _ _
theorem se_11 (m : Mem) (p f : Int) (v : Int → Int) : seM m p f v 5000 11 = f := by rw [se_5]; exact rd_11 _ _ _ _
theorem se_9 (m : Mem) (p f : Int) (v : Int → Int) : seM m p f v 5000 9 = m 5000 9 := by rw [se_5]; exact rd_9 _ _ _ _
theorem se_k (m : Mem) (p f : Int) (v : Int → Int) {k : Int} (h : k < 10 ∨ 12 < k) : seM m p f v 5000 k = m 5000 k := by rw [se_5]; exact rd_o _ _ _ _ h
theorem se_o (m : Mem) (p f : Int) (v : Int → Int) {b : Int} (h : b ≠ 5000) (h' : b ≠ 5013) : seM m p f v b = m b := by
  funext j; unfold seM; rw [if_neg (fun q => h' q.1), rd_r m p f _ h]
theorem se_13 (m : Mem) (p f : Int) (v : Int → Int) {k : Int} (h0 : 0 ≤ k) (h1 : k < 48) : seM m p f v 5013 (192 + k) = v k := by
  unfold seM; rw [if_pos ⟨rfl, by omega, by omega⟩]; congr 1; omega
theorem se_13o (m : Mem) (p f : Int) (v : Int → Int) {j : Int} (h : j < 192) : seM m p f v 5013 j = m 5013 j := by
  unfold seM; rw [if_neg (by omega), rd_r m p f _ (by decide)]
theorem se_u10 (m : Mem) (p f x : Int) (v : Int → Int) : up (seM m p f v) 5000 10 x = seM m x f v := by
  funext b j; unfold up seM rdM; (repeat' split) <;> first | rfl | omega
theorem se_u11 (m : Mem) (p f x : Int) (v : Int → Int) : up (seM m p f v) 5000 11 x = seM m p x v := by
  funext b j; unfold up seM rdM; (repeat' split) <;> first | rfl | omega
theorem se_w (m : Mem) (p f x : Int) (v : Int → Int) {k : Int} (h0 : 192 ≤ k) (h1 : k < 240) : up (seM m p f v) 5013 k x = seM m p f (upf v (k - 192) x) := by
  funext b j; unfold up seM upf
  by_cases h : b = 5013 ∧ j = k
  · rw [if_pos h, if_pos ⟨h.1, by omega, by omega⟩, if_pos (by omega)]
  · rw [if_neg h]
    by_cases h2 : b = 5013 ∧ 192 ≤ j ∧ j < 240
    · rw [if_pos h2, if_pos h2, if_neg (by omega)]
    · rw [if_neg h2, if_neg h2]
theorem se_fa (m : Mem) (p : Int) (v : Int → Int) : faM (seM m p (-1) v) = seM m p p v := by
  unfold faM; rw [if_pos (se_11 _ _ _ _), se_10, se_u11]
theorem se_tx {m : Mem} (h : txOk m) (p f : Int) (v : Int → Int) : mtx (seM m p f v) = mtx m ∧ txOk (seM m p f v) := by
  have hT := tx_T h
  have e5 := se_k m p f v (k := 5) (by decide)
  have e8 := se_k m p f v (k := 8) (by decide)
  constructor
  · funext i; unfold mtx; rw [se_9, e5, e8, se_o m p f v (by omega) (by omega)]
  · unfold txOk; rw [se_9, e5, e8, se_o m p f v (by omega) (by omega)]; exact h
theorem upf_upf (v : Int → Int) (k x y : Int) : upf (upf v k x) k y = upf v k y := by
  funext j; unfold upf; split <;> rfl
theorem fidx_m1 : fidx (stv 20103) (-1) 0 3 = -1 := by decide
theorem stv_exi : stv 20110 = stv 20103 := rfl
theorem stl_exi : stl 20110 = 3 := rfl
theorem wd_1533 : Cond.methodLink RX12 240 yX12_spotOf ∈ TBL := tb_tab (List.mem_of_getElem? (i := 1533) (by decide +kernel)) rfl
theorem wd_1535 : Cond.code yX12_spotOf cX12_spotOf 3 (some .int) ∈ TBL := tb_tab (List.mem_of_getElem? (i := 1535) (by decide +kernel)) rfl
theorem lk_X12_240 : amLk RX12 240 yX12_spotOf cX12_spotOf 3 (some .int) 2 := ⟨wd_1533, wd_12, wd_1535, by decide +kernel, by decide +kernel, by decide⟩
theorem wd_1534 : Cond.static yX12_spotOf ∈ TBL := tb_tab (List.mem_of_getElem? (i := 1534) (by decide +kernel)) rfl
theorem wd_1633 : Cond.methodLink RX12 289 yX12_digit ∈ TBL := tb_tab (List.mem_of_getElem? (i := 1633) (by decide +kernel)) rfl
theorem wd_1636 : Cond.code yX12_digit cX12_digit 2 (some .int) ∈ TBL := tb_tab (List.mem_of_getElem? (i := 1636) (by decide +kernel)) rfl
theorem lk_X12_289 : amLk RX12 289 yX12_digit cX12_digit 2 (some .int) 0 := ⟨wd_1633, wd_12, wd_1636, by decide +kernel, by decide +kernel, by decide⟩
theorem wd_1635 : Cond.instanceMethod yX12_digit ∈ TBL := tb_tab (List.mem_of_getElem? (i := 1635) (by decide +kernel)) rfl
theorem sl_X12_digit : Cond.selects RX12 yX12_digit yX12_digit ∈ TBL := tb_sel (List.mem_of_getElem? (i := 71) (by decide +kernel)) rfl
def a_X12_readStep : AC := [(0, vLdcS 20010 3), (3, vAload 0 4), (4, vCallM w_X12_look 28 0 7), (7, vCallS w_X12_spotOf 2 10), (10, vIstore 2 11), (11, vIload 2 12), (12, vI (-1) 13), (13, vIcNe 22 16), (16, vAload 0 17), (17, vCallM w_X12_fails 28 0 20), (20, vPop 21), (21, vVret), (22, vAload 0 23), (23, vDup 24), (24, vGetI 28 10 27), (27, vI 1 28), (28, vIadd 29), (29, vPutI 28 10 32), (32, vAload 0 33), (33, vGetR TT 28 26 8 36), (36, vIload 1 37), (37, vIload 2 38), (38, vIast TT 39), (39, vAload 0 40), (40, vGetR TT 28 26 8 43), (43, vIload 1 44), (44, vI 1 45), (45, vIadd 46), (46, vAload 0 47), (47, vCallM w_X12_digit 28 0 50), (50, vIast TT 51), (51, vAload 0 52), (52, vGetR TT 28 26 8 55), (55, vIload 1 56), (56, vI 2 57), (57, vIadd 58), (58, vI (-1) 59), (59, vIast TT 60), (60, vAload 0 61), (61, vGetI 28 11 64), (64, vI (-1) 65), (65, vIcNe 85 68), (68, vIload 2 69), (69, vI 1 70), (70, vIcNe 85 73), (73, vAload 0 74), (74, vGetR TT 28 26 8 77), (77, vIload 1 78), (78, vI 2 79), (79, vIadd 80), (80, vAload 0 81), (81, vCallM w_X12_digit 28 0 84), (84, vIast TT 85), (85, vVret)]
theorem k_X12_readStep_0 : look a_X12_readStep 0 = vLdcS 20010 3 := rfl
theorem k_X12_readStep_3 : look a_X12_readStep 3 = vAload 0 4 := rfl
theorem k_X12_readStep_4 : look a_X12_readStep 4 = vCallM w_X12_look 28 0 7 := rfl
theorem k_X12_readStep_7 : look a_X12_readStep 7 = vCallS w_X12_spotOf 2 10 := rfl
theorem k_X12_readStep_10 : look a_X12_readStep 10 = vIstore 2 11 := rfl
theorem k_X12_readStep_11 : look a_X12_readStep 11 = vIload 2 12 := rfl
theorem k_X12_readStep_12 : look a_X12_readStep 12 = vI (-1) 13 := rfl
theorem k_X12_readStep_13 : look a_X12_readStep 13 = vIcNe 22 16 := rfl
theorem k_X12_readStep_16 : look a_X12_readStep 16 = vAload 0 17 := rfl
theorem k_X12_readStep_17 : look a_X12_readStep 17 = vCallM w_X12_fails 28 0 20 := rfl
theorem k_X12_readStep_20 : look a_X12_readStep 20 = vPop 21 := rfl
theorem k_X12_readStep_21 : look a_X12_readStep 21 = vVret := rfl
theorem k_X12_readStep_22 : look a_X12_readStep 22 = vAload 0 23 := rfl
theorem k_X12_readStep_23 : look a_X12_readStep 23 = vDup 24 := rfl
theorem k_X12_readStep_24 : look a_X12_readStep 24 = vGetI 28 10 27 := rfl
theorem k_X12_readStep_27 : look a_X12_readStep 27 = vI 1 28 := rfl
theorem k_X12_readStep_28 : look a_X12_readStep 28 = vIadd 29 := rfl
theorem k_X12_readStep_29 : look a_X12_readStep 29 = vPutI 28 10 32 := rfl
theorem k_X12_readStep_32 : look a_X12_readStep 32 = vAload 0 33 := rfl
theorem k_X12_readStep_33 : look a_X12_readStep 33 = vGetR TT 28 26 8 36 := rfl
theorem k_X12_readStep_36 : look a_X12_readStep 36 = vIload 1 37 := rfl
theorem k_X12_readStep_37 : look a_X12_readStep 37 = vIload 2 38 := rfl
theorem k_X12_readStep_38 : look a_X12_readStep 38 = vIast TT 39 := rfl
theorem k_X12_readStep_39 : look a_X12_readStep 39 = vAload 0 40 := rfl
theorem k_X12_readStep_40 : look a_X12_readStep 40 = vGetR TT 28 26 8 43 := rfl
theorem k_X12_readStep_43 : look a_X12_readStep 43 = vIload 1 44 := rfl
theorem k_X12_readStep_44 : look a_X12_readStep 44 = vI 1 45 := rfl
theorem k_X12_readStep_45 : look a_X12_readStep 45 = vIadd 46 := rfl
theorem k_X12_readStep_46 : look a_X12_readStep 46 = vAload 0 47 := rfl
theorem k_X12_readStep_47 : look a_X12_readStep 47 = vCallM w_X12_digit 28 0 50 := rfl
theorem k_X12_readStep_50 : look a_X12_readStep 50 = vIast TT 51 := rfl
theorem k_X12_readStep_51 : look a_X12_readStep 51 = vAload 0 52 := rfl
theorem k_X12_readStep_52 : look a_X12_readStep 52 = vGetR TT 28 26 8 55 := rfl
theorem k_X12_readStep_55 : look a_X12_readStep 55 = vIload 1 56 := rfl
theorem k_X12_readStep_56 : look a_X12_readStep 56 = vI 2 57 := rfl
theorem k_X12_readStep_57 : look a_X12_readStep 57 = vIadd 58 := rfl
theorem k_X12_readStep_58 : look a_X12_readStep 58 = vI (-1) 59 := rfl
theorem k_X12_readStep_59 : look a_X12_readStep 59 = vIast TT 60 := rfl
theorem k_X12_readStep_60 : look a_X12_readStep 60 = vAload 0 61 := rfl
theorem k_X12_readStep_61 : look a_X12_readStep 61 = vGetI 28 11 64 := rfl
theorem k_X12_readStep_64 : look a_X12_readStep 64 = vI (-1) 65 := rfl
theorem k_X12_readStep_65 : look a_X12_readStep 65 = vIcNe 85 68 := rfl
theorem k_X12_readStep_68 : look a_X12_readStep 68 = vIload 2 69 := rfl
theorem k_X12_readStep_69 : look a_X12_readStep 69 = vI 1 70 := rfl
theorem k_X12_readStep_70 : look a_X12_readStep 70 = vIcNe 85 73 := rfl
theorem k_X12_readStep_73 : look a_X12_readStep 73 = vAload 0 74 := rfl
theorem k_X12_readStep_74 : look a_X12_readStep 74 = vGetR TT 28 26 8 77 := rfl
theorem k_X12_readStep_77 : look a_X12_readStep 77 = vIload 1 78 := rfl
theorem k_X12_readStep_78 : look a_X12_readStep 78 = vI 2 79 := rfl
theorem k_X12_readStep_79 : look a_X12_readStep 79 = vIadd 80 := rfl
theorem k_X12_readStep_80 : look a_X12_readStep 80 = vAload 0 81 := rfl
theorem k_X12_readStep_81 : look a_X12_readStep 81 = vCallM w_X12_digit 28 0 84 := rfl
theorem k_X12_readStep_84 : look a_X12_readStep 84 = vIast TT 85 := rfl
theorem k_X12_readStep_85 : look a_X12_readStep 85 = vVret := rfl
theorem o_X12_readStep {X : amX} (e1 : XT X = TT) (e2 : XD X = 5) (hB : amB X RX12 cX12_readStep (none) 3) : ∀ pc, amOK X pc (look a_X12_readStep pc) := by
  have hT : amTok (XT X) := e1 ▸ TT_ok
  refine look_ok ?_
  unfold a_X12_readStep
  refine fc (ok_ldcwS hB (k := 10) rfl rfl rfl rfl dX12_readStep_0) ?_
  refine fc (ok_aload_n hB dX12_readStep_3) ?_
  refine fc (ok_callM hB hT (e1 ▸ s_X12_look) lk_X12_153 (by rw [e2]; decide) (c := 12) rfl rfl rfl wd_1521 sl_X12_look dX12_readStep_4) ?_
  refine fc (ok_callS hB (e1 ▸ s_X12_spotOf) lk_X12_240 (by rw [e2]; decide) wd_1534 dX12_readStep_7) ?_
  refine fc (ok_istore_n hB (by decide) dX12_readStep_10) ?_
  refine fc (ok_iload_n hB dX12_readStep_11) ?_
  refine fc (ok_iconst hB dX12_readStep_12) ?_
  refine fc (ok_icmp_ne hB (t := 22) (by decide) dX12_readStep_13) ?_
  refine fc (ok_aload_n hB dX12_readStep_16) ?_
  refine fc (ok_callM hB hT (e1 ▸ s_X12_fails) lk_X12_149 (by rw [e2]; decide) (c := 12) rfl rfl rfl wd_1525 sl_X12_fails dX12_readStep_17) ?_
  refine fc (ok_pop hB dX12_readStep_20) ?_
  refine fc (ok_vret hB dX12_readStep_21) ?_
  refine fc (ok_aload_n hB dX12_readStep_22) ?_
  refine fc (ok_dup hB dX12_readStep_23) ?_
  refine fc (ok_getI hB hT fl_X12_134 rfl rfl (Or.inl af_12_10) dX12_readStep_24) ?_
  refine fc (ok_iconst hB dX12_readStep_27) ?_
  refine fc (ok_iadd hB dX12_readStep_28) ?_
  refine fc (ok_putI hB hT fp_X12_134 rfl rfl rfl af_12_10 dX12_readStep_29) ?_
  refine fc (ok_aload_n hB dX12_readStep_32) ?_
  refine fc (okt_getR e1 hB hT fl_X12_61 rfl af_12_26 at_12_26 (by decide) dX12_readStep_33) ?_
  refine fc (ok_iload_n hB dX12_readStep_36) ?_
  refine fc (ok_iload_n hB dX12_readStep_37) ?_
  refine fc (okt_iastore e1 hB dX12_readStep_38) ?_
  refine fc (ok_aload_n hB dX12_readStep_39) ?_
  refine fc (okt_getR e1 hB hT fl_X12_61 rfl af_12_26 at_12_26 (by decide) dX12_readStep_40) ?_
  refine fc (ok_iload_n hB dX12_readStep_43) ?_
  refine fc (ok_iconst hB dX12_readStep_44) ?_
  refine fc (ok_iadd hB dX12_readStep_45) ?_
  refine fc (ok_aload_n hB dX12_readStep_46) ?_
  refine fc (ok_callM hB hT (e1 ▸ s_X12_digit) lk_X12_289 (by rw [e2]; decide) (c := 12) rfl rfl rfl wd_1635 sl_X12_digit dX12_readStep_47) ?_
  refine fc (okt_iastore e1 hB dX12_readStep_50) ?_
  refine fc (ok_aload_n hB dX12_readStep_51) ?_
  refine fc (okt_getR e1 hB hT fl_X12_61 rfl af_12_26 at_12_26 (by decide) dX12_readStep_52) ?_
  refine fc (ok_iload_n hB dX12_readStep_55) ?_
  refine fc (ok_iconst hB dX12_readStep_56) ?_
  refine fc (ok_iadd hB dX12_readStep_57) ?_
  refine fc (ok_iconst hB dX12_readStep_58) ?_
  refine fc (okt_iastore e1 hB dX12_readStep_59) ?_
  refine fc (ok_aload_n hB dX12_readStep_60) ?_
  refine fc (ok_getI hB hT fl_X12_143 rfl rfl (Or.inl af_12_11) dX12_readStep_61) ?_
  refine fc (ok_iconst hB dX12_readStep_64) ?_
  refine fc (ok_icmp_ne hB (t := 85) (by decide) dX12_readStep_65) ?_
  refine fc (ok_iload_n hB dX12_readStep_68) ?_
  refine fc (ok_iconst hB dX12_readStep_69) ?_
  refine fc (ok_icmp_ne hB (t := 85) (by decide) dX12_readStep_70) ?_
  refine fc (ok_aload_n hB dX12_readStep_73) ?_
  refine fc (okt_getR e1 hB hT fl_X12_61 rfl af_12_26 at_12_26 (by decide) dX12_readStep_74) ?_
  refine fc (ok_iload_n hB dX12_readStep_77) ?_
  refine fc (ok_iconst hB dX12_readStep_78) ?_
  refine fc (ok_iadd hB dX12_readStep_79) ?_
  refine fc (ok_aload_n hB dX12_readStep_80) ?_
  refine fc (ok_callM hB hT (e1 ▸ s_X12_digit) lk_X12_289 (by rw [e2]; decide) (c := 12) rfl rfl rfl wd_1635 sl_X12_digit dX12_readStep_81) ?_
  refine fc (okt_iastore e1 hB dX12_readStep_84) ?_
  refine fc (ok_vret hB dX12_readStep_85) ?_
  exact fn

def w_X12_readStep : WP := fun av σ Q => ∃ (to : Int), av = [(28, 5000), (0, to)] ∧ (∃ (m : Mem) (p : Int) (v : Int → Int), σ = seM m p (-1) v ∧ txOk m ∧ 0 ≤ p ∧ p ≤ m 5000 9 ∧ 192 ≤ to ∧ to ≤ 237 ∧ ((stepF (mtx m) (m 5000 9) p).1 = -1 → ∀ v' q, Q (6, 0) (seM m q (stepF (mtx m) (m 5000 9) p).2.1 v')) ∧ ((stepF (mtx m) (m 5000 9) p).1 ≠ -1 → Q (6, 0) (seM m (stepF (mtx m) (m 5000 9) p).2.1 (-1) (upf (upf (upf v (to - 192) (stepF (mtx m) (m 5000 9) p).1) (to + 1 - 192) (stepF (mtx m) (m 5000 9) p).2.2.1) (to + 2 - 192) (stepF (mtx m) (m 5000 9) p).2.2.2))))
theorem w_X12_readStep_e (to : Int) (σ : Mem) (Q : AV → Mem → Prop) : w_X12_readStep [(28, 5000), (0, to)] σ Q = (∃ (m : Mem) (p : Int) (v : Int → Int), σ = seM m p (-1) v ∧ txOk m ∧ 0 ≤ p ∧ p ≤ m 5000 9 ∧ 192 ≤ to ∧ to ≤ 237 ∧ ((stepF (mtx m) (m 5000 9) p).1 = -1 → ∀ v' q, Q (6, 0) (seM m q (stepF (mtx m) (m 5000 9) p).2.1 v')) ∧ ((stepF (mtx m) (m 5000 9) p).1 ≠ -1 → Q (6, 0) (seM m (stepF (mtx m) (m 5000 9) p).2.1 (-1) (upf (upf (upf v (to - 192) (stepF (mtx m) (m 5000 9) p).1) (to + 1 - 192) (stepF (mtx m) (m 5000 9) p).2.2.1) (to + 2 - 192) (stepF (mtx m) (m 5000 9) p).2.2.2)))) := by
  apply propext; constructor
  · rintro ⟨to', h9, hb9⟩; cases h9; exact hb9
  · intro hb9; exact ⟨to, rfl, hb9⟩

set_option maxRecDepth 100000 in
set_option maxHeartbeats 4000000 in
theorem s_X12_readStep : ∀ av σ Q, w_X12_readStep av σ Q → amCall 5 0 0 TT yX12_readStep cX12_readStep 3 (none) av σ Q := by
  rintro av σ Q ⟨to, rfl, m, p, v, rfl, ht, h0, h1, h2, h3, hq1, hq2⟩
  have n0 := ht.1
  have n1 := ht.2.1
  have hte := mtx_n ht
  have Mt : ∀ p f v, mtx (seM m p f v) = mtx m := fun p f v => (se_tx ht p f v).1
  have MtO : ∀ p f v, txOk (seM m p f v) = True := fun p f v => eq_true (se_tx ht p f v).2
  have w0 : ∀ p f v x, up (seM m p f v) 5013 to x = seM m p f (upf v (to - 192) x) := fun p f v x => se_w m p f x v (by omega) (by omega)
  have w1 : ∀ p f v x, up (seM m p f v) 5013 (to + 1) x = seM m p f (upf v (to + 1 - 192) x) := fun p f v x => se_w m p f x v (by omega) (by omega)
  have w2 : ∀ p f v x, up (seM m p f v) 5013 (to + 2) x = seM m p f (upf v (to + 2 - 192) x) := fun p f v x => se_w m p f x v (by omega) (by omega)
  have t3 : (3 : Int).toNat = 3 := rfl
  have s1 := sk_b (mtx m) h1
  have b1 := mtx_b ht (sk (mtx m) (m 5000 9) p)
  have fb := fidx_b (stv 20103) (mtx m (sk (mtx m) (m 5000 9) p)) 3 0 (by omega)
  have z1 : mtx m (sk (mtx m) (m 5000 9) p) = -1 → fidx (stv 20103) (mtx m (sk (mtx m) (m 5000 9) p)) 0 3 = -1 := fun e => by rw [e]; exact fidx_m1
  refine am_m0 (own := RX12) (A := look a_X12_readStep) (fun X e1 e2 hB => o_X12_readStep e1 e2 hB) rfl (by decide +kernel) rfl rfl 120 (w := 3) ?_
  change vcs _ _ _ _ 120 0 [(28, 5000), (0, to), (6, 0)] [] (seM m p (-1) v)
  simp only [↓reduceIte, inR_0, inR_1, inR_m, vSw2_e, swP_n, swP_c, vI_e, vL_e, vNull_e, vIload_e, vLload_e, vAload_e, vIstore_e, vLstore_e, vAstore_e, vIinc_e, vIadd_e, vIsub_e, vImul_e, vIand_e, vIor_e, vIxor_e, vIshl_e, vIshr_e, vIushr_e, vIdiv_e, vIrem_e, vLadd_e, vLsub_e, vLmul_e, vLand_e, vLor_e, vLxor_e, vLdiv_e, vLrem_e, vLushr_e, vLshl_e, vLcmp_e, vIneg_e, vI2l_e, vL2i_e, vI2b_e, vI2c_e, vDup_e, vPop_e, vDup2_e, vGoto_e, vIcEq_e, vIfEq_e, vIcNe_e, vIfNe_e, vIcLt_e, vIfLt_e, vIcGe_e, vIfGe_e, vIcGt_e, vIfGt_e, vIcLe_e, vIfLe_e, vNonnull_e, vSw_e, vGetI_e, vGetL_e, vGetR_e, vPutI_e, vPutZ_e, vPutL_e, vPutR_e, vIald_e, vIald_s, vLald_e, vBald_e, vBald_s, vAald_e, vIast_e, vLast_e, vBast_e, vAast_e, vAlen_e8, vAlen_e9, vAlen_e10, vAlen_e11, vAlen_e5, vAlen_e3, vGets_e, vCompact_e, vLdcS_e, vIret_e, vZret_e, vCret_e, vBret_e, vLret_e, vVret_e, vAret_e, vCallM_e0, vCallMV_e0, vCallS_e0, vCallSV_e0, vCallM_e1, vCallMV_e1, vCallS_e1, vCallSV_e1, vCallM_e2, vCallMV_e2, vCallS_e2, vCallSV_e2, vCallM_e3, vCallMV_e3, vCallS_e3, vCallSV_e3, vCallM_e4, vCallMV_e4, vCallS_e4, vCallSV_e4, vCallM_e5, vCallMV_e5, vCallS_e5, vCallSV_e5, vCallM_e6, vCallMV_e6, vCallS_e6, vCallSV_e6, vCallM_e7, vCallMV_e7, vCallS_e7, vCallSV_e7, vBad_e, vStrVal_e, vStrCod_e, vForm_e, vCallT_e0, vCallT_e1, vCallT_e2, vCopy_e, rf_0_0, rf_0_1, rf_0_2, rf_0_3, rf_0_4, rf_0_7, rf_0_10, rf_0_11, rf_0_12, rf_0_13, rf_0_14, rf_0_15, rf_0_16, rf_1_0, rf_3_0, rf_3_1, rf_6_0, rf_6_1, rf_9_0, rf_9_1, rf_9_3, rf_13_0, rf_13_1, rf_13_2, rf_16_0, rf_16_1, rf_16_2, rf_16_3, rf_21_0, rf_21_1, rf_21_2, rf_21_3, rf_26_0, rf_26_1, rf_26_2, rf_26_3, rf_26_4, rf_26_5, rf_26_6, rf_31_0, rf_31_2, rf_31_5, rf_31_6, rf_36_0, rf_36_1, rf_36_2, rf_36_3, rf_39_0, rf_39_1, rf_39_2, rf_41_0, rf_41_1, rf_41_2, rf_41_3, rf_5000_1, rf_5000_2, rf_5000_3, rf_5000_4, rf_5000_5, rf_5000_15, rf_5000_16, rf_5000_18, rf_5000_19, rf_5000_20, rf_5000_21, rf_5000_22, rf_5000_23, rf_5000_24, rf_5000_25, rf_5000_26, rf_5000_27, rf_5000_36, rf_5000_37, rf_5000_40, rf_5000_41, rf_5000_42, rf_5000_43, rf_5000_44, rf_5000_45, rf_5000_47, rf_5000_52, rf_5000_54, rf_5000_55, rf_100_0, rf_100_1, rf_103_0, rf_103_1, rf_106_0, rf_106_1, rf_109_0, rf_109_1, al_2, al_4, al_5, al_7, al_8, al_10, al_11, al_12, al_14, al_15, al_17, al_18, al_19, al_20, al_22, al_23, al_24, al_25, al_27, al_28, al_29, al_30, al_32, al_33, al_34, al_35, al_37, al_38, al_40, al_42, al_5001, al_5002, al_5003, al_5004, al_5005, al_5006, al_5007, al_5008, al_5009, al_5010, al_5011, al_5012, al_5013, al_5014, al_5015, al_5016, al_5017, al_5018, al_5019, al_5020, al_5021, al_5022, al_5023, al_5024, al_5025, al_5026, al_9000, al_101, al_102, al_104, al_105, al_107, al_108, al_110, al_111, vcs_e, lg_c0, lg_cs, lg_nil, set_c0, set_cs, okst_0, okst_s, acok_n, acok_c, List.contains_nil, List.contains_cons, Bool.or_false, Bool.false_or, Bool.false_eq_true, if_false, if_true, ite_self, ne_eq, true_and, and_true, not_false_eq_true, not_true_eq_false, false_imp_iff, true_imp_iff, Nat.ble_eq, Bool.and_eq_true, reduceCtorEq, or_false, false_or, or_true, true_or, false_and, and_false, and_self, Int.reduceLE, Int.reduceAdd, Int.reduceSub, Int.reduceMul, Int.reduceNeg, Int.reduceLT, Int.reduceEq, Int.reduceNe, Nat.reduceBEq, Nat.reduceBNe, Nat.reduceEqDiff, amCmp_in, amCmp_lt, amCmp_le, amCmp_gt, amCmp_ge, amCmp_eq, amCmp_ne, Nat.reduceLeDiff, Nat.reduceSub, Bool.and_true, Bool.true_and, Bool.and_self, Bool.or_true, Bool.true_or, isRf_3, isRf_4, isRf_5, isRf_8, isRf_9, isRf_10, isRf_11, isRf_15, isRf_16, isRf_17, isRf_18, isRf_19, isRf_20, isRf_21, isRf_22, isRf_23, isRf_24, isRf_25, isRf_26, isRf_27, isRf_28, k_X12_readStep_0, k_X12_readStep_3, k_X12_readStep_4, k_X12_readStep_7, k_X12_readStep_10, k_X12_readStep_11, k_X12_readStep_12, k_X12_readStep_13, k_X12_readStep_16, k_X12_readStep_17, k_X12_readStep_20, k_X12_readStep_21, k_X12_readStep_22, k_X12_readStep_23, k_X12_readStep_24, k_X12_readStep_27, k_X12_readStep_28, k_X12_readStep_29, k_X12_readStep_32, k_X12_readStep_33, k_X12_readStep_36, k_X12_readStep_37, k_X12_readStep_38, k_X12_readStep_39, k_X12_readStep_40, k_X12_readStep_43, k_X12_readStep_44, k_X12_readStep_45, k_X12_readStep_46, k_X12_readStep_47, k_X12_readStep_50, k_X12_readStep_51, k_X12_readStep_52, k_X12_readStep_55, k_X12_readStep_56, k_X12_readStep_57, k_X12_readStep_58, k_X12_readStep_59, k_X12_readStep_60, k_X12_readStep_61, k_X12_readStep_64, k_X12_readStep_65, k_X12_readStep_68, k_X12_readStep_69, k_X12_readStep_70, k_X12_readStep_73, k_X12_readStep_74, k_X12_readStep_77, k_X12_readStep_78, k_X12_readStep_79, k_X12_readStep_80, k_X12_readStep_81, k_X12_readStep_84, k_X12_readStep_85, w_X12_digit_e, w_X12_fails_e, w_X12_look_e, w_X12_spotOf_e, msk, Mt, MtO, se_10, se_11, se_9, se_u10, se_u11, se_fa, w0, w1, w2, Int.reduceAdd, stv_exi, stl_exi, t3]
  unfold stepF at hq1 hq2
  generalize hk : fidx (stv 20103) (mtx m (sk (mtx m) (m 5000 9) p)) 0 3 = kd at *
  by_cases c1 : kd = -1
  · rw [if_pos (Or.inr c1)] at hq1
    have h9 := hq1 rfl
    subst c1
    repeat' (first | apply And.intro | intro _)
    all_goals first | omega | exact absurd trivial (by assumption) | exact h9 _ _ | skip
  · have c0 : ¬ (mtx m (sk (mtx m) (m 5000 9) p) = -1 ∨ kd = -1) := by omega
    rw [if_neg c0] at hq1 hq2
    have s2 := sk_lt hte (q := sk (mtx m) (m 5000 9) p) (by omega)
    have s3 := sk_b (mtx m) (n := m 5000 9) (p := sk (mtx m) (m 5000 9) p + 1) (by omega)
    have b2 := mtx_b ht (sk (mtx m) (m 5000 9) (sk (mtx m) (m 5000 9) p + 1))
    by_cases c2 : 48 ≤ mtx m (sk (mtx m) (m 5000 9) (sk (mtx m) (m 5000 9) p + 1)) ∧ mtx m (sk (mtx m) (m 5000 9) (sk (mtx m) (m 5000 9) p + 1)) ≤ 57
    · rw [if_neg (fun g => g c2)] at hq1 hq2
      have s4 := sk_lt hte (q := sk (mtx m) (m 5000 9) (sk (mtx m) (m 5000 9) p + 1)) (by omega)
      by_cases c3 : kd = 1
      · rw [if_neg (fun g => g c3)] at hq1 hq2
        have s5 := sk_b (mtx m) (n := m 5000 9) (p := sk (mtx m) (m 5000 9) (sk (mtx m) (m 5000 9) p + 1) + 1) (by omega)
        have b3 := mtx_b ht (sk (mtx m) (m 5000 9) (sk (mtx m) (m 5000 9) (sk (mtx m) (m 5000 9) p + 1) + 1))
        by_cases c4 : 48 ≤ mtx m (sk (mtx m) (m 5000 9) (sk (mtx m) (m 5000 9) (sk (mtx m) (m 5000 9) p + 1) + 1)) ∧ mtx m (sk (mtx m) (m 5000 9) (sk (mtx m) (m 5000 9) (sk (mtx m) (m 5000 9) p + 1) + 1)) ≤ 57
        · rw [if_neg (fun g => g c4)] at hq2
          have h9 := hq2 (show (1 : Int) ≠ -1 by decide)
          dsimp only at h9
          subst c3
          simp only [upf_upf]
          repeat' (first | apply And.intro | intro _)
          all_goals first | omega | exact absurd trivial (by assumption) | exact h9 | skip
        · rw [if_pos c4] at hq1
          have h9 := hq1 rfl
          dsimp only at h9
          subst c3
          simp only [upf_upf]
          repeat' (first | apply And.intro | intro _)
          all_goals first | omega | exact absurd trivial (by assumption) | exact h9 _ _ | skip
      · rw [if_pos c3] at hq2
        have h9 := hq2 c1
        dsimp only at h9
        repeat' (first | apply And.intro | intro _)
        all_goals first | omega | exact absurd trivial (by assumption) | exact h9 | skip
    · rw [if_pos c2] at hq1
      have h9 := hq1 rfl
      dsimp only at h9
      repeat' (first | apply And.intro | intro _)
      all_goals first | omega | exact absurd trivial (by assumption) | exact h9 _ _ | skip
theorem sts_tx {σ : Mem} {a b n : Int} (h : txtOk σ a b n) : txOk (stsM σ a b n) ∧ mtx (stsM σ a b n) = txt σ a b n ∧ stsM σ a b n 5000 9 = n := by
  obtain ⟨h0, h1, h2, h3⟩ := h
  have e9 : stsM σ a b n 5000 9 = n := rfl
  have e5 : stsM σ a b n 5000 5 = a := rfl
  have e8 : stsM σ a b n 5000 8 = b := rfl
  have eo : ∀ c, c ≠ 5000 → stsM σ a b n c = σ c := fun c hc => by unfold stsM; simp only [up_na _ hc]
  refine ⟨?_, ?_, e9⟩
  · unfold txOk
    rw [e9, e5, e8, eo a (by omega)]
    exact ⟨h0, h1, h2, h3⟩
  · funext i; unfold mtx txt
    rw [e9, e5, e8, eo a (by omega)]
theorem se_id {m : Mem} {p f : Int} (h1 : m 5000 10 = p) (h2 : m 5000 11 = f) : seM m p f (fun k => m 5013 (192 + k)) = m := by
  funext b j; unfold seM
  by_cases h : b = 5013 ∧ 192 ≤ j ∧ j < 240
  · rw [if_pos h, h.1]; show m 5013 (192 + (j - 192)) = _; congr 1; omega
  · rw [if_neg h, ← h1, ← h2, rd_id]
/-- what reading a SEASON may change -/
def SEF (σ τ : Mem) : Prop := (∀ b, b ≠ 5000 → b ≠ 5013 → b ≠ 5014 → τ b = σ b) ∧ (∀ j, j < 192 → τ 5013 j = σ 5013 j) ∧ (∀ j, j ≠ 4 → τ 5014 j = σ 5014 j) ∧ ∀ k, k ≠ 5 → (k < 8 ∨ 12 < k) → τ 5000 k = σ 5000 k
theorem SEF_se (σ : Mem) (a b n p f : Int) (v : Int → Int) : SEF σ (seM (stsM σ a b n) p f v) := by
  have eo : ∀ c, c ≠ 5000 → stsM σ a b n c = σ c := fun c hc => by unfold stsM; simp only [up_na _ hc]
  refine ⟨fun c h1 h2 h3 => ?_, fun j hj => ?_, fun j hj => ?_, fun k h1 h2 => ?_⟩
  · rw [se_o _ _ _ _ h1 h2, eo c h1]
  · rw [se_13o _ _ _ _ hj, eo _ (by decide)]
  · rw [se_o _ _ _ _ (by decide) (by decide), eo _ (by decide)]
  · rw [se_k _ _ _ _ (by omega)]
    unfold stsM
    rw [up_nj _ (by omega), up_nj _ (by omega), up_nj _ (by omega), up_nj _ (by omega), up_nj _ (by omega)]
theorem SEF_14 {σ τ : Mem} (h : SEF σ τ) (x : Int) : SEF σ (up τ 5014 4 x) := by
  obtain ⟨h1, h2, h3, h4⟩ := h
  exact ⟨fun b a1 a2 a3 => by rw [up_na _ a3]; exact h1 b a1 a2 a3, fun j hj => by rw [up_na _ (by decide)]; exact h2 j hj, fun j hj => by rw [up_nj _ hj]; exact h3 j hj, fun k a1 a2 => by rw [up_na _ (by decide)]; exact h4 k a1 a2⟩
/-! the reference reads SEASONS, whole -/
theorem s14_5 (τ : Mem) (x : Int) : up τ 5014 4 x 5000 = τ 5000 := up_na _ (by decide)
theorem s14_c (τ : Mem) (x y : Int) : up (up τ 5014 4 x) 5000 10 y = up (up τ 5000 10 y) 5014 4 x := by
  funext b j; unfold up; (repeat' split) <;> first | rfl | omega
theorem s14_fa (m : Mem) (p x : Int) (v : Int → Int) : faM (up (seM m p (-1) v) 5014 4 x) = up (seM m p p v) 5014 4 x := by
  unfold faM
  rw [s14_5, if_pos (se_11 _ _ _ _), se_10, ← se_u11 m p (-1) p v]
  funext b j; unfold up; (repeat' split) <;> first | rfl | omega
theorem s14_tx {m : Mem} (h : txOk m) (p f x : Int) (v : Int → Int) : mtx (up (seM m p f v) 5014 4 x) = mtx m ∧ txOk (up (seM m p f v) 5014 4 x) := by
  obtain ⟨a, b⟩ := se_tx h p f v
  have hT := tx_T b
  rw [← a]
  constructor
  · funext i; unfold mtx; rw [s14_5, up_na _ (by omega)]
  · unfold txOk; rw [s14_5, up_na _ (by omega)]; exact b

theorem wd_1628 : Cond.methodLink RX12 292 yX12_readStep ∈ TBL := tb_tab (List.mem_of_getElem? (i := 1628) (by decide +kernel)) rfl
theorem wd_1631 : Cond.code yX12_readStep cX12_readStep 3 (none) ∈ TBL := tb_tab (List.mem_of_getElem? (i := 1631) (by decide +kernel)) rfl
theorem lk_X12_292 : amLk RX12 292 yX12_readStep cX12_readStep 3 (none) 1 := ⟨wd_1628, wd_12, wd_1631, by decide +kernel, by decide +kernel, by decide⟩
theorem wd_1630 : Cond.instanceMethod yX12_readStep ∈ TBL := tb_tab (List.mem_of_getElem? (i := 1630) (by decide +kernel)) rfl
theorem sl_X12_readStep : Cond.selects RX12 yX12_readStep yX12_readStep ∈ TBL := tb_sel (List.mem_of_getElem? (i := 70) (by decide +kernel)) rfl
def a_X12_readSeason : AC := [(0, vAload 0 1), (1, vAload 0 2), (2, vGetR TT 28 1 10 5), (5, vI 0 6), (6, vAload 0 7), (7, vGetI 28 6 10), (10, vCallMV w_X12_starts 28 3 13), (13, vI 0 14), (14, vIstore 1 15), (15, vI 1 16), (16, vIstore 2 17), (17, vIload 2 18), (18, vIfEq 91 21), (21, vAload 0 22), (22, vI 3 23), (23, vI 64 25), (25, vIload 1 26), (26, vIadd 27), (27, vImul 28), (28, vCallMV w_X12_readStep 28 1 31), (31, vAload 0 32), (32, vGetI 28 11 35), (35, vI (-1) 36), (36, vIcEq 40 39), (39, vVret), (40, vIinc 1 1 43), (43, vAload 0 44), (44, vCallM w_X12_look 28 0 47), (47, vI 59 49), (49, vIcNe 56 52), (52, vI 1 53), (53, vGoto 57), (56, vI 0 57), (57, vIstore 2 58), (58, vIload 2 59), (59, vIfEq 74 62), (62, vIload 1 63), (63, vI 16 65), (65, vIcNe 74 68), (68, vAload 0 69), (69, vCallM w_X12_fails 28 0 72), (72, vPop 73), (73, vVret), (74, vIload 2 75), (75, vIfEq 17 78), (78, vAload 0 79), (79, vDup 80), (80, vGetI 28 10 83), (83, vI 1 84), (84, vIadd 85), (85, vPutI 28 10 88), (88, vGoto 17), (91, vAload 0 92), (92, vGetR TT 28 27 8 95), (95, vI 4 96), (96, vIload 1 97), (97, vIast TT 98), (98, vAload 0 99), (99, vCallM w_X12_look 28 0 102), (102, vI (-1) 103), (103, vIcEq 111 106), (106, vAload 0 107), (107, vCallM w_X12_fails 28 0 110), (110, vPop 111), (111, vVret)]
theorem k_X12_readSeason_0 : look a_X12_readSeason 0 = vAload 0 1 := rfl
theorem k_X12_readSeason_1 : look a_X12_readSeason 1 = vAload 0 2 := rfl
theorem k_X12_readSeason_2 : look a_X12_readSeason 2 = vGetR TT 28 1 10 5 := rfl
theorem k_X12_readSeason_5 : look a_X12_readSeason 5 = vI 0 6 := rfl
theorem k_X12_readSeason_6 : look a_X12_readSeason 6 = vAload 0 7 := rfl
theorem k_X12_readSeason_7 : look a_X12_readSeason 7 = vGetI 28 6 10 := rfl
theorem k_X12_readSeason_10 : look a_X12_readSeason 10 = vCallMV w_X12_starts 28 3 13 := rfl
theorem k_X12_readSeason_13 : look a_X12_readSeason 13 = vI 0 14 := rfl
theorem k_X12_readSeason_14 : look a_X12_readSeason 14 = vIstore 1 15 := rfl
theorem k_X12_readSeason_15 : look a_X12_readSeason 15 = vI 1 16 := rfl
theorem k_X12_readSeason_16 : look a_X12_readSeason 16 = vIstore 2 17 := rfl
theorem k_X12_readSeason_17 : look a_X12_readSeason 17 = vIload 2 18 := rfl
theorem k_X12_readSeason_18 : look a_X12_readSeason 18 = vIfEq 91 21 := rfl
theorem k_X12_readSeason_21 : look a_X12_readSeason 21 = vAload 0 22 := rfl
theorem k_X12_readSeason_22 : look a_X12_readSeason 22 = vI 3 23 := rfl
theorem k_X12_readSeason_23 : look a_X12_readSeason 23 = vI 64 25 := rfl
theorem k_X12_readSeason_25 : look a_X12_readSeason 25 = vIload 1 26 := rfl
theorem k_X12_readSeason_26 : look a_X12_readSeason 26 = vIadd 27 := rfl
theorem k_X12_readSeason_27 : look a_X12_readSeason 27 = vImul 28 := rfl
theorem k_X12_readSeason_28 : look a_X12_readSeason 28 = vCallMV w_X12_readStep 28 1 31 := rfl
theorem k_X12_readSeason_31 : look a_X12_readSeason 31 = vAload 0 32 := rfl
theorem k_X12_readSeason_32 : look a_X12_readSeason 32 = vGetI 28 11 35 := rfl
theorem k_X12_readSeason_35 : look a_X12_readSeason 35 = vI (-1) 36 := rfl
theorem k_X12_readSeason_36 : look a_X12_readSeason 36 = vIcEq 40 39 := rfl
theorem k_X12_readSeason_39 : look a_X12_readSeason 39 = vVret := rfl
theorem k_X12_readSeason_40 : look a_X12_readSeason 40 = vIinc 1 1 43 := rfl
theorem k_X12_readSeason_43 : look a_X12_readSeason 43 = vAload 0 44 := rfl
theorem k_X12_readSeason_44 : look a_X12_readSeason 44 = vCallM w_X12_look 28 0 47 := rfl
theorem k_X12_readSeason_47 : look a_X12_readSeason 47 = vI 59 49 := rfl
theorem k_X12_readSeason_49 : look a_X12_readSeason 49 = vIcNe 56 52 := rfl
theorem k_X12_readSeason_52 : look a_X12_readSeason 52 = vI 1 53 := rfl
theorem k_X12_readSeason_53 : look a_X12_readSeason 53 = vGoto 57 := rfl
theorem k_X12_readSeason_56 : look a_X12_readSeason 56 = vI 0 57 := rfl
theorem k_X12_readSeason_57 : look a_X12_readSeason 57 = vIstore 2 58 := rfl
theorem k_X12_readSeason_58 : look a_X12_readSeason 58 = vIload 2 59 := rfl
theorem k_X12_readSeason_59 : look a_X12_readSeason 59 = vIfEq 74 62 := rfl
theorem k_X12_readSeason_62 : look a_X12_readSeason 62 = vIload 1 63 := rfl
theorem k_X12_readSeason_63 : look a_X12_readSeason 63 = vI 16 65 := rfl
theorem k_X12_readSeason_65 : look a_X12_readSeason 65 = vIcNe 74 68 := rfl
theorem k_X12_readSeason_68 : look a_X12_readSeason 68 = vAload 0 69 := rfl
theorem k_X12_readSeason_69 : look a_X12_readSeason 69 = vCallM w_X12_fails 28 0 72 := rfl
theorem k_X12_readSeason_72 : look a_X12_readSeason 72 = vPop 73 := rfl
theorem k_X12_readSeason_73 : look a_X12_readSeason 73 = vVret := rfl
theorem k_X12_readSeason_74 : look a_X12_readSeason 74 = vIload 2 75 := rfl
theorem k_X12_readSeason_75 : look a_X12_readSeason 75 = vIfEq 17 78 := rfl
theorem k_X12_readSeason_78 : look a_X12_readSeason 78 = vAload 0 79 := rfl
theorem k_X12_readSeason_79 : look a_X12_readSeason 79 = vDup 80 := rfl
theorem k_X12_readSeason_80 : look a_X12_readSeason 80 = vGetI 28 10 83 := rfl
theorem k_X12_readSeason_83 : look a_X12_readSeason 83 = vI 1 84 := rfl
theorem k_X12_readSeason_84 : look a_X12_readSeason 84 = vIadd 85 := rfl
theorem k_X12_readSeason_85 : look a_X12_readSeason 85 = vPutI 28 10 88 := rfl
theorem k_X12_readSeason_88 : look a_X12_readSeason 88 = vGoto 17 := rfl
theorem k_X12_readSeason_91 : look a_X12_readSeason 91 = vAload 0 92 := rfl
theorem k_X12_readSeason_92 : look a_X12_readSeason 92 = vGetR TT 28 27 8 95 := rfl
theorem k_X12_readSeason_95 : look a_X12_readSeason 95 = vI 4 96 := rfl
theorem k_X12_readSeason_96 : look a_X12_readSeason 96 = vIload 1 97 := rfl
theorem k_X12_readSeason_97 : look a_X12_readSeason 97 = vIast TT 98 := rfl
theorem k_X12_readSeason_98 : look a_X12_readSeason 98 = vAload 0 99 := rfl
theorem k_X12_readSeason_99 : look a_X12_readSeason 99 = vCallM w_X12_look 28 0 102 := rfl
theorem k_X12_readSeason_102 : look a_X12_readSeason 102 = vI (-1) 103 := rfl
theorem k_X12_readSeason_103 : look a_X12_readSeason 103 = vIcEq 111 106 := rfl
theorem k_X12_readSeason_106 : look a_X12_readSeason 106 = vAload 0 107 := rfl
theorem k_X12_readSeason_107 : look a_X12_readSeason 107 = vCallM w_X12_fails 28 0 110 := rfl
theorem k_X12_readSeason_110 : look a_X12_readSeason 110 = vPop 111 := rfl
theorem k_X12_readSeason_111 : look a_X12_readSeason 111 = vVret := rfl
theorem o_X12_readSeason {X : amX} (e1 : XT X = TT) (e2 : XD X = 6) (hB : amB X RX12 cX12_readSeason (none) 3) : ∀ pc, amOK X pc (look a_X12_readSeason pc) := by
  have hT : amTok (XT X) := e1 ▸ TT_ok
  refine look_ok ?_
  unfold a_X12_readSeason
  refine fc (ok_aload_n hB dX12_readSeason_0) ?_
  refine fc (ok_aload_n hB dX12_readSeason_1) ?_
  refine fc (okt_getR e1 hB hT fl_X12_9 rfl af_12_1 at_12_1 (by decide) dX12_readSeason_2) ?_
  refine fc (ok_iconst hB dX12_readSeason_5) ?_
  refine fc (ok_aload_n hB dX12_readSeason_6) ?_
  refine fc (ok_getI hB hT fl_X12_124 rfl rfl (Or.inl af_12_6) dX12_readSeason_7) ?_
  refine fc (ok_callMV hB hT (e1 ▸ s_X12_starts) lk_X12_222 (by rw [e2]; decide) (c := 12) rfl rfl rfl wd_1510 sl_X12_starts dX12_readSeason_10) ?_
  refine fc (ok_iconst hB dX12_readSeason_13) ?_
  refine fc (ok_istore_n hB (by decide) dX12_readSeason_14) ?_
  refine fc (ok_iconst hB dX12_readSeason_15) ?_
  refine fc (ok_istore_n hB (by decide) dX12_readSeason_16) ?_
  refine fc (ok_iload_n hB dX12_readSeason_17) ?_
  refine fc (ok_if_eq hB (t := 91) (by decide) dX12_readSeason_18) ?_
  refine fc (ok_aload_n hB dX12_readSeason_21) ?_
  refine fc (ok_iconst hB dX12_readSeason_22) ?_
  refine fc (ok_bipush hB dX12_readSeason_23 (by decide)) ?_
  refine fc (ok_iload_n hB dX12_readSeason_25) ?_
  refine fc (ok_iadd hB dX12_readSeason_26) ?_
  refine fc (ok_imul hB dX12_readSeason_27) ?_
  refine fc (ok_callMV hB hT (e1 ▸ s_X12_readStep) lk_X12_292 (by rw [e2]; decide) (c := 12) rfl rfl rfl wd_1630 sl_X12_readStep dX12_readSeason_28) ?_
  refine fc (ok_aload_n hB dX12_readSeason_31) ?_
  refine fc (ok_getI hB hT fl_X12_143 rfl rfl (Or.inl af_12_11) dX12_readSeason_32) ?_
  refine fc (ok_iconst hB dX12_readSeason_35) ?_
  refine fc (ok_icmp_eq hB (t := 40) (by decide) dX12_readSeason_36) ?_
  refine fc (ok_vret hB dX12_readSeason_39) ?_
  refine fc (ok_iinc hB (by decide) dX12_readSeason_40) ?_
  refine fc (ok_aload_n hB dX12_readSeason_43) ?_
  refine fc (ok_callM hB hT (e1 ▸ s_X12_look) lk_X12_153 (by rw [e2]; decide) (c := 12) rfl rfl rfl wd_1521 sl_X12_look dX12_readSeason_44) ?_
  refine fc (ok_bipush hB dX12_readSeason_47 (by decide)) ?_
  refine fc (ok_icmp_ne hB (t := 56) (by decide) dX12_readSeason_49) ?_
  refine fc (ok_iconst hB dX12_readSeason_52) ?_
  refine fc (ok_goto hB (t := 57) (by decide) dX12_readSeason_53) ?_
  refine fc (ok_iconst hB dX12_readSeason_56) ?_
  refine fc (ok_istore_n hB (by decide) dX12_readSeason_57) ?_
  refine fc (ok_iload_n hB dX12_readSeason_58) ?_
  refine fc (ok_if_eq hB (t := 74) (by decide) dX12_readSeason_59) ?_
  refine fc (ok_iload_n hB dX12_readSeason_62) ?_
  refine fc (ok_bipush hB dX12_readSeason_63 (by decide)) ?_
  refine fc (ok_icmp_ne hB (t := 74) (by decide) dX12_readSeason_65) ?_
  refine fc (ok_aload_n hB dX12_readSeason_68) ?_
  refine fc (ok_callM hB hT (e1 ▸ s_X12_fails) lk_X12_149 (by rw [e2]; decide) (c := 12) rfl rfl rfl wd_1525 sl_X12_fails dX12_readSeason_69) ?_
  refine fc (ok_pop hB dX12_readSeason_72) ?_
  refine fc (ok_vret hB dX12_readSeason_73) ?_
  refine fc (ok_iload_n hB dX12_readSeason_74) ?_
  refine fc (ok_if_eq hB (t := 17) (by decide) dX12_readSeason_75) ?_
  refine fc (ok_aload_n hB dX12_readSeason_78) ?_
  refine fc (ok_dup hB dX12_readSeason_79) ?_
  refine fc (ok_getI hB hT fl_X12_134 rfl rfl (Or.inl af_12_10) dX12_readSeason_80) ?_
  refine fc (ok_iconst hB dX12_readSeason_83) ?_
  refine fc (ok_iadd hB dX12_readSeason_84) ?_
  refine fc (ok_putI hB hT fp_X12_134 rfl rfl rfl af_12_10 dX12_readSeason_85) ?_
  refine fc (ok_goto hB (t := 17) (by decide) dX12_readSeason_88) ?_
  refine fc (ok_aload_n hB dX12_readSeason_91) ?_
  refine fc (okt_getR e1 hB hT fl_X12_64 rfl af_12_27 at_12_27 (by decide) dX12_readSeason_92) ?_
  refine fc (ok_iconst hB dX12_readSeason_95) ?_
  refine fc (ok_iload_n hB dX12_readSeason_96) ?_
  refine fc (okt_iastore e1 hB dX12_readSeason_97) ?_
  refine fc (ok_aload_n hB dX12_readSeason_98) ?_
  refine fc (ok_callM hB hT (e1 ▸ s_X12_look) lk_X12_153 (by rw [e2]; decide) (c := 12) rfl rfl rfl wd_1521 sl_X12_look dX12_readSeason_99) ?_
  refine fc (ok_iconst hB dX12_readSeason_102) ?_
  refine fc (ok_icmp_eq hB (t := 111) (by decide) dX12_readSeason_103) ?_
  refine fc (ok_aload_n hB dX12_readSeason_106) ?_
  refine fc (ok_callM hB hT (e1 ▸ s_X12_fails) lk_X12_149 (by rw [e2]; decide) (c := 12) rfl rfl rfl wd_1525 sl_X12_fails dX12_readSeason_107) ?_
  refine fc (ok_pop hB dX12_readSeason_110) ?_
  refine fc (ok_vret hB dX12_readSeason_111) ?_
  exact fn
def inv_rse (m : Mem) (R : Int × Int × (Int → Int)) (n pc : Nat) (ls st : List AV) (σ' : Mem) : Prop := st = [] ∧ ∃ (i : Int) (vF : Int → Int), 0 ≤ i ∧
  ((∃ (k' : Nat) (p : Int) (v : Int → Int), pc = 17 ∧ n = 2 * k' + 1 ∧ i + k' = 16 ∧ 1 ≤ k' ∧ ls = [(28, 5000), (0, i), (0, 1)] ∧ σ' = seM m p (-1) v ∧ 0 ≤ p ∧ p ≤ m 5000 9 ∧ (∀ k, 0 ≤ k → k < i * 3 → v k = vF k) ∧ seasF (mtx m) (m 5000 9) k' i p vF = R) ∨
   (∃ (p : Int) (v : Int → Int), pc = 17 ∧ n = 0 ∧ i ≤ 16 ∧ ls = [(28, 5000), (0, i), (0, 0)] ∧ σ' = seM m p (-1) v ∧ 0 ≤ p ∧ p ≤ m 5000 9 ∧ (∀ k, 0 ≤ k → k < i * 3 → v k = vF k) ∧ (mtx m (sk (mtx m) (m 5000 9) p) = -1 → R = (-1, i, vF)) ∧ (mtx m (sk (mtx m) (m 5000 9) p) ≠ -1 → R.1 = sk (mtx m) (m 5000 9) p)) ∨
   (∃ (f q : Int) (v : Int → Int), pc = 31 ∧ ls = [(28, 5000), (0, i), (0, 1)] ∧ i < 16 ∧ σ' = seM m q f v ∧ 0 ≤ f ∧ f ≤ 240 ∧ R.1 = f) ∨
   (∃ (k' : Nat) (p : Int) (v : Int → Int), pc = 31 ∧ n = 2 * k' + 2 ∧ i + 1 + k' = 16 ∧ ls = [(28, 5000), (0, i), (0, 1)] ∧ σ' = seM m p (-1) v ∧ 0 ≤ p ∧ p ≤ m 5000 9 ∧ (∀ k, 0 ≤ k → k < (i + 1) * 3 → v k = vF k) ∧ (mtx m (sk (mtx m) (m 5000 9) p) = -1 → R = (-1, i + 1, vF)) ∧ (mtx m (sk (mtx m) (m 5000 9) p) ≠ -1 → mtx m (sk (mtx m) (m 5000 9) p) ≠ 59 ∨ i + 1 = 16 → R.1 = sk (mtx m) (m 5000 9) p) ∧ (mtx m (sk (mtx m) (m 5000 9) p) = 59 → i + 1 ≠ 16 → seasF (mtx m) (m 5000 9) k' (i + 1) (sk (mtx m) (m 5000 9) p + 1) vF = R)))
def w_X12_readSeason : WP := fun av σ Q => av = [(28, 5000)] ∧ (txtOk σ 5001 0 (σ 5000 6) ∧ ((seasF (txt σ 5001 0 (σ 5000 6)) (σ 5000 6) 16 0 0 (fun _ => 0)).1 ≠ -1 → ∀ τ, SEF σ τ → τ 5000 11 = (seasF (txt σ 5001 0 (σ 5000 6)) (σ 5000 6) 16 0 0 (fun _ => 0)).1 → Q (6, 0) τ) ∧ ((seasF (txt σ 5001 0 (σ 5000 6)) (σ 5000 6) 16 0 0 (fun _ => 0)).1 = -1 → ∀ τ, SEF σ τ → τ 5000 11 = -1 → τ 5014 4 = (seasF (txt σ 5001 0 (σ 5000 6)) (σ 5000 6) 16 0 0 (fun _ => 0)).2.1 → (∀ k, 0 ≤ k → k < (seasF (txt σ 5001 0 (σ 5000 6)) (σ 5000 6) 16 0 0 (fun _ => 0)).2.1 * 3 → τ 5013 (192 + k) = (seasF (txt σ 5001 0 (σ 5000 6)) (σ 5000 6) 16 0 0 (fun _ => 0)).2.2 k) → Q (6, 0) τ))
theorem w_X12_readSeason_e  (σ : Mem) (Q : AV → Mem → Prop) : w_X12_readSeason [(28, 5000)] σ Q = (txtOk σ 5001 0 (σ 5000 6) ∧ ((seasF (txt σ 5001 0 (σ 5000 6)) (σ 5000 6) 16 0 0 (fun _ => 0)).1 ≠ -1 → ∀ τ, SEF σ τ → τ 5000 11 = (seasF (txt σ 5001 0 (σ 5000 6)) (σ 5000 6) 16 0 0 (fun _ => 0)).1 → Q (6, 0) τ) ∧ ((seasF (txt σ 5001 0 (σ 5000 6)) (σ 5000 6) 16 0 0 (fun _ => 0)).1 = -1 → ∀ τ, SEF σ τ → τ 5000 11 = -1 → τ 5014 4 = (seasF (txt σ 5001 0 (σ 5000 6)) (σ 5000 6) 16 0 0 (fun _ => 0)).2.1 → (∀ k, 0 ≤ k → k < (seasF (txt σ 5001 0 (σ 5000 6)) (σ 5000 6) 16 0 0 (fun _ => 0)).2.1 * 3 → τ 5013 (192 + k) = (seasF (txt σ 5001 0 (σ 5000 6)) (σ 5000 6) 16 0 0 (fun _ => 0)).2.2 k) → Q (6, 0) τ)) := by
  apply propext; constructor
  · rintro ⟨h9, hb9⟩; cases h9; exact hb9
  · intro hb9; exact ⟨rfl, hb9⟩

set_option maxRecDepth 100000 in
set_option maxHeartbeats 4000000 in
theorem s_X12_readSeason : ∀ av σ Q, w_X12_readSeason av σ Q → amCall 6 0 0 TT yX12_readSeason cX12_readSeason 3 (none) av σ Q := by
  rintro av σ Q ⟨rfl, htx, hq1, hq2⟩
  obtain ⟨ht, em, e9⟩ := sts_tx htx
  have hS := SEF_se σ 5001 0 (σ 5000 6)
  generalize hR : seasF (txt σ 5001 0 (σ 5000 6)) (σ 5000 6) 16 0 0 (fun _ => 0) = R at hq1 hq2
  have hid := se_id (m := stsM σ 5001 0 (σ 5000 6)) (p := 0) (f := -1) rfl rfl
  rw [← em] at hR
  generalize hm : stsM σ 5001 0 (σ 5000 6) = m at *
  rw [← e9] at hR
  have n0 := ht.1
  have n1 := ht.2.1
  have hte := mtx_n ht
  have Mt : ∀ p f v, mtx (seM m p f v) = mtx m := fun p f v => (se_tx ht p f v).1
  have MtO : ∀ p f v, txOk (seM m p f v) = True := fun p f v => eq_true (se_tx ht p f v).2
  have Mt4 : ∀ p f v x, mtx (up (seM m p f v) 5014 4 x) = mtx m := fun p f v x => (s14_tx ht p f x v).1
  have MtO4 : ∀ p f v x, txOk (up (seM m p f v) 5014 4 x) = True := fun p f v x => eq_true (s14_tx ht p f x v).2
  refine am_m [17, 31] (inv_rse m R) (own := RX12) (A := look a_X12_readSeason) (fun X e1 e2 hB => o_X12_readSeason e1 e2 hB) rfl (by decide +kernel) rfl rfl ?_ ⟨60, ?_⟩ (w := 3)
  · rintro n pc ls st σ' ⟨rfl, i, vF, i0, ⟨k', p, v, rfl, rfl, hk, k1, rfl, rfl, p0, p1, hv, hs⟩ | ⟨p, v, rfl, rfl, i16, rfl, rfl, p0, p1, hv, hA, hB⟩ | ⟨f, q, v, rfl, rfl, i16, rfl, f0, f1, hf⟩ | ⟨k', p, v, rfl, rfl, hk, rfl, rfl, p0, p1, hv, hA, hB, hC⟩⟩
    · obtain ⟨k2, rfl⟩ : ∃ k2, k' = k2 + 1 := ⟨k' - 1, by omega⟩
      unfold seasF at hs
      have sb := stepF_b hte ⟨p0, p1⟩
      have i9 : (stepF (mtx m) (m 5000 9) p).1 = -1 → ∀ v' q, ∃ k3, k3 < 2 * (k2 + 1) + 1 ∧ inv_rse m R k3 31 [(28, 5000), (0, i), (0, 1)] [] (seM m q (stepF (mtx m) (m 5000 9) p).2.1 v') := fun e v' q =>
        ⟨0, by omega, rfl, i, vF, i0, Or.inr (Or.inr (Or.inl ⟨_, q, v', rfl, rfl, by omega, rfl, by omega, by omega, by rw [if_pos e] at hs; rw [← hs]⟩))⟩
      have i8 : (stepF (mtx m) (m 5000 9) p).1 ≠ -1 → ∃ k3, k3 < 2 * (k2 + 1) + 1 ∧ inv_rse m R k3 31 [(28, 5000), (0, i), (0, 1)] [] (seM m (stepF (mtx m) (m 5000 9) p).2.1 (-1) (upf (upf (upf v (3 * (64 + i) - 192) (stepF (mtx m) (m 5000 9) p).1) (3 * (64 + i) + 1 - 192) (stepF (mtx m) (m 5000 9) p).2.2.1) (3 * (64 + i) + 2 - 192) (stepF (mtx m) (m 5000 9) p).2.2.2)) := fun e => by
        rw [if_neg e] at hs
        refine ⟨2 * k2 + 2, by omega, rfl, i, upf (upf (upf vF (i * 3) (stepF (mtx m) (m 5000 9) p).1) (i * 3 + 1) (stepF (mtx m) (m 5000 9) p).2.2.1) (i * 3 + 2) (stepF (mtx m) (m 5000 9) p).2.2.2, i0, Or.inr (Or.inr (Or.inr ⟨k2, _, _, rfl, rfl, by omega, rfl, rfl, by omega, by omega, fun k h0 h1 => ?_, fun a => ?_, fun a b => ?_, fun a b => ?_⟩))⟩
        · rw [show 3 * (64 + i) - 192 = i * 3 by omega, show 3 * (64 + i) + 1 - 192 = i * 3 + 1 by omega, show 3 * (64 + i) + 2 - 192 = i * 3 + 2 by omega]
          unfold upf
          by_cases g2 : k = i * 3 + 2
          · rw [if_pos g2, if_pos g2]
          · rw [if_neg g2, if_neg g2]
            by_cases g1 : k = i * 3 + 1
            · rw [if_pos g1, if_pos g1]
            · rw [if_neg g1, if_neg g1]
              by_cases g0 : k = i * 3
              · rw [if_pos g0, if_pos g0]
              · rw [if_neg g0, if_neg g0]; exact hv k h0 (by omega)
        · rw [if_pos a] at hs; exact hs.symm
        · rw [if_neg a, if_pos b] at hs; rw [← hs]
        · rw [if_neg (by omega), if_neg (by omega)] at hs; exact hs
      refine ⟨60, ?_⟩
      simp only [↓reduceIte, inR_0, inR_1, inR_m, vSw2_e, swP_n, swP_c, vI_e, vL_e, vNull_e, vIload_e, vLload_e, vAload_e, vIstore_e, vLstore_e, vAstore_e, vIinc_e, vIadd_e, vIsub_e, vImul_e, vIand_e, vIor_e, vIxor_e, vIshl_e, vIshr_e, vIushr_e, vIdiv_e, vIrem_e, vLadd_e, vLsub_e, vLmul_e, vLand_e, vLor_e, vLxor_e, vLdiv_e, vLrem_e, vLushr_e, vLshl_e, vLcmp_e, vIneg_e, vI2l_e, vL2i_e, vI2b_e, vI2c_e, vDup_e, vPop_e, vDup2_e, vGoto_e, vIcEq_e, vIfEq_e, vIcNe_e, vIfNe_e, vIcLt_e, vIfLt_e, vIcGe_e, vIfGe_e, vIcGt_e, vIfGt_e, vIcLe_e, vIfLe_e, vNonnull_e, vSw_e, vGetI_e, vGetL_e, vGetR_e, vPutI_e, vPutZ_e, vPutL_e, vPutR_e, vIald_e, vIald_s, vLald_e, vBald_e, vBald_s, vAald_e, vIast_e, vLast_e, vBast_e, vAast_e, vAlen_e8, vAlen_e9, vAlen_e10, vAlen_e11, vAlen_e5, vAlen_e3, vGets_e, vCompact_e, vLdcS_e, vIret_e, vZret_e, vCret_e, vBret_e, vLret_e, vVret_e, vAret_e, vCallM_e0, vCallMV_e0, vCallS_e0, vCallSV_e0, vCallM_e1, vCallMV_e1, vCallS_e1, vCallSV_e1, vCallM_e2, vCallMV_e2, vCallS_e2, vCallSV_e2, vCallM_e3, vCallMV_e3, vCallS_e3, vCallSV_e3, vCallM_e4, vCallMV_e4, vCallS_e4, vCallSV_e4, vCallM_e5, vCallMV_e5, vCallS_e5, vCallSV_e5, vCallM_e6, vCallMV_e6, vCallS_e6, vCallSV_e6, vCallM_e7, vCallMV_e7, vCallS_e7, vCallSV_e7, vBad_e, vStrVal_e, vStrCod_e, vForm_e, vCallT_e0, vCallT_e1, vCallT_e2, vCopy_e, rf_0_0, rf_0_1, rf_0_2, rf_0_3, rf_0_4, rf_0_7, rf_0_10, rf_0_11, rf_0_12, rf_0_13, rf_0_14, rf_0_15, rf_0_16, rf_1_0, rf_3_0, rf_3_1, rf_6_0, rf_6_1, rf_9_0, rf_9_1, rf_9_3, rf_13_0, rf_13_1, rf_13_2, rf_16_0, rf_16_1, rf_16_2, rf_16_3, rf_21_0, rf_21_1, rf_21_2, rf_21_3, rf_26_0, rf_26_1, rf_26_2, rf_26_3, rf_26_4, rf_26_5, rf_26_6, rf_31_0, rf_31_2, rf_31_5, rf_31_6, rf_36_0, rf_36_1, rf_36_2, rf_36_3, rf_39_0, rf_39_1, rf_39_2, rf_41_0, rf_41_1, rf_41_2, rf_41_3, rf_5000_1, rf_5000_2, rf_5000_3, rf_5000_4, rf_5000_5, rf_5000_15, rf_5000_16, rf_5000_18, rf_5000_19, rf_5000_20, rf_5000_21, rf_5000_22, rf_5000_23, rf_5000_24, rf_5000_25, rf_5000_26, rf_5000_27, rf_5000_36, rf_5000_37, rf_5000_40, rf_5000_41, rf_5000_42, rf_5000_43, rf_5000_44, rf_5000_45, rf_5000_47, rf_5000_52, rf_5000_54, rf_5000_55, rf_100_0, rf_100_1, rf_103_0, rf_103_1, rf_106_0, rf_106_1, rf_109_0, rf_109_1, al_2, al_4, al_5, al_7, al_8, al_10, al_11, al_12, al_14, al_15, al_17, al_18, al_19, al_20, al_22, al_23, al_24, al_25, al_27, al_28, al_29, al_30, al_32, al_33, al_34, al_35, al_37, al_38, al_40, al_42, al_5001, al_5002, al_5003, al_5004, al_5005, al_5006, al_5007, al_5008, al_5009, al_5010, al_5011, al_5012, al_5013, al_5014, al_5015, al_5016, al_5017, al_5018, al_5019, al_5020, al_5021, al_5022, al_5023, al_5024, al_5025, al_5026, al_9000, al_101, al_102, al_104, al_105, al_107, al_108, al_110, al_111, vcs_e, lg_c0, lg_cs, lg_nil, set_c0, set_cs, okst_0, okst_s, acok_n, acok_c, List.contains_nil, List.contains_cons, Bool.or_false, Bool.false_or, Bool.false_eq_true, if_false, if_true, ite_self, ne_eq, true_and, and_true, not_false_eq_true, not_true_eq_false, false_imp_iff, true_imp_iff, Nat.ble_eq, Bool.and_eq_true, reduceCtorEq, or_false, false_or, or_true, true_or, false_and, and_false, and_self, Int.reduceLE, Int.reduceAdd, Int.reduceSub, Int.reduceMul, Int.reduceNeg, Int.reduceLT, Int.reduceEq, Int.reduceNe, Nat.reduceBEq, Nat.reduceBNe, Nat.reduceEqDiff, amCmp_in, amCmp_lt, amCmp_le, amCmp_gt, amCmp_ge, amCmp_eq, amCmp_ne, Nat.reduceLeDiff, Nat.reduceSub, Bool.and_true, Bool.true_and, Bool.and_self, Bool.or_true, Bool.true_or, isRf_3, isRf_4, isRf_5, isRf_8, isRf_9, isRf_10, isRf_11, isRf_15, isRf_16, isRf_17, isRf_18, isRf_19, isRf_20, isRf_21, isRf_22, isRf_23, isRf_24, isRf_25, isRf_26, isRf_27, isRf_28, k_X12_readSeason_0, k_X12_readSeason_1, k_X12_readSeason_2, k_X12_readSeason_5, k_X12_readSeason_6, k_X12_readSeason_7, k_X12_readSeason_10, k_X12_readSeason_13, k_X12_readSeason_14, k_X12_readSeason_15, k_X12_readSeason_16, k_X12_readSeason_17, k_X12_readSeason_18, k_X12_readSeason_21, k_X12_readSeason_22, k_X12_readSeason_23, k_X12_readSeason_25, k_X12_readSeason_26, k_X12_readSeason_27, k_X12_readSeason_28, k_X12_readSeason_31, k_X12_readSeason_32, k_X12_readSeason_35, k_X12_readSeason_36, k_X12_readSeason_39, k_X12_readSeason_40, k_X12_readSeason_43, k_X12_readSeason_44, k_X12_readSeason_47, k_X12_readSeason_49, k_X12_readSeason_52, k_X12_readSeason_53, k_X12_readSeason_56, k_X12_readSeason_57, k_X12_readSeason_58, k_X12_readSeason_59, k_X12_readSeason_62, k_X12_readSeason_63, k_X12_readSeason_65, k_X12_readSeason_68, k_X12_readSeason_69, k_X12_readSeason_72, k_X12_readSeason_73, k_X12_readSeason_74, k_X12_readSeason_75, k_X12_readSeason_78, k_X12_readSeason_79, k_X12_readSeason_80, k_X12_readSeason_83, k_X12_readSeason_84, k_X12_readSeason_85, k_X12_readSeason_88, k_X12_readSeason_91, k_X12_readSeason_92, k_X12_readSeason_95, k_X12_readSeason_96, k_X12_readSeason_97, k_X12_readSeason_98, k_X12_readSeason_99, k_X12_readSeason_102, k_X12_readSeason_103, k_X12_readSeason_106, k_X12_readSeason_107, k_X12_readSeason_110, k_X12_readSeason_111, w_X12_fails_e, w_X12_look_e, w_X12_readStep_e, w_X12_starts_e]
      repeat' (first | apply And.intro | intro _)
      all_goals first | omega | exact absurd trivial (by assumption) | skip
      all_goals (exact ⟨m, p, v, rfl, ht, p0, p1, by omega, by omega, i9, i8⟩)
    · have s1 := sk_b (mtx m) p1
      have b1 := mtx_b ht (sk (mtx m) (m 5000 9) p)
      have h8 : mtx m (sk (mtx m) (m 5000 9) p) ≠ -1 → Q (6, 0) (up (seM m (sk (mtx m) (m 5000 9) p) (sk (mtx m) (m 5000 9) p) v) 5014 4 i) := fun e =>
        hq1 (by rw [hB e]; omega) _ (SEF_14 (hS _ _ _) i) (by rw [s14_5, se_11, hB e])
      have h9 : mtx m (sk (mtx m) (m 5000 9) p) = -1 → Q (6, 0) (up (seM m (sk (mtx m) (m 5000 9) p) (-1) v) 5014 4 i) := fun e => by
        have hRe := hA e
        refine hq2 (by rw [hRe]) _ (SEF_14 (hS _ _ _) i) (by rw [s14_5, se_11]) (by rw [hRe, up_s]) (fun k k0 k1 => ?_)
        rw [hRe] at k1 ⊢
        dsimp only at k1 ⊢
        rw [up_na _ (by decide), se_13 _ _ _ _ k0 (by omega)]
        exact hv k k0 (by omega)
      refine ⟨60, ?_⟩
      simp only [↓reduceIte, inR_0, inR_1, inR_m, vSw2_e, swP_n, swP_c, vI_e, vL_e, vNull_e, vIload_e, vLload_e, vAload_e, vIstore_e, vLstore_e, vAstore_e, vIinc_e, vIadd_e, vIsub_e, vImul_e, vIand_e, vIor_e, vIxor_e, vIshl_e, vIshr_e, vIushr_e, vIdiv_e, vIrem_e, vLadd_e, vLsub_e, vLmul_e, vLand_e, vLor_e, vLxor_e, vLdiv_e, vLrem_e, vLushr_e, vLshl_e, vLcmp_e, vIneg_e, vI2l_e, vL2i_e, vI2b_e, vI2c_e, vDup_e, vPop_e, vDup2_e, vGoto_e, vIcEq_e, vIfEq_e, vIcNe_e, vIfNe_e, vIcLt_e, vIfLt_e, vIcGe_e, vIfGe_e, vIcGt_e, vIfGt_e, vIcLe_e, vIfLe_e, vNonnull_e, vSw_e, vGetI_e, vGetL_e, vGetR_e, vPutI_e, vPutZ_e, vPutL_e, vPutR_e, vIald_e, vIald_s, vLald_e, vBald_e, vBald_s, vAald_e, vIast_e, vLast_e, vBast_e, vAast_e, vAlen_e8, vAlen_e9, vAlen_e10, vAlen_e11, vAlen_e5, vAlen_e3, vGets_e, vCompact_e, vLdcS_e, vIret_e, vZret_e, vCret_e, vBret_e, vLret_e, vVret_e, vAret_e, vCallM_e0, vCallMV_e0, vCallS_e0, vCallSV_e0, vCallM_e1, vCallMV_e1, vCallS_e1, vCallSV_e1, vCallM_e2, vCallMV_e2, vCallS_e2, vCallSV_e2, vCallM_e3, vCallMV_e3, vCallS_e3, vCallSV_e3, vCallM_e4, vCallMV_e4, vCallS_e4, vCallSV_e4, vCallM_e5, vCallMV_e5, vCallS_e5, vCallSV_e5, vCallM_e6, vCallMV_e6, vCallS_e6, vCallSV_e6, vCallM_e7, vCallMV_e7, vCallS_e7, vCallSV_e7, vBad_e, vStrVal_e, vStrCod_e, vForm_e, vCallT_e0, vCallT_e1, vCallT_e2, vCopy_e, rf_0_0, rf_0_1, rf_0_2, rf_0_3, rf_0_4, rf_0_7, rf_0_10, rf_0_11, rf_0_12, rf_0_13, rf_0_14, rf_0_15, rf_0_16, rf_1_0, rf_3_0, rf_3_1, rf_6_0, rf_6_1, rf_9_0, rf_9_1, rf_9_3, rf_13_0, rf_13_1, rf_13_2, rf_16_0, rf_16_1, rf_16_2, rf_16_3, rf_21_0, rf_21_1, rf_21_2, rf_21_3, rf_26_0, rf_26_1, rf_26_2, rf_26_3, rf_26_4, rf_26_5, rf_26_6, rf_31_0, rf_31_2, rf_31_5, rf_31_6, rf_36_0, rf_36_1, rf_36_2, rf_36_3, rf_39_0, rf_39_1, rf_39_2, rf_41_0, rf_41_1, rf_41_2, rf_41_3, rf_5000_1, rf_5000_2, rf_5000_3, rf_5000_4, rf_5000_5, rf_5000_15, rf_5000_16, rf_5000_18, rf_5000_19, rf_5000_20, rf_5000_21, rf_5000_22, rf_5000_23, rf_5000_24, rf_5000_25, rf_5000_26, rf_5000_27, rf_5000_36, rf_5000_37, rf_5000_40, rf_5000_41, rf_5000_42, rf_5000_43, rf_5000_44, rf_5000_45, rf_5000_47, rf_5000_52, rf_5000_54, rf_5000_55, rf_100_0, rf_100_1, rf_103_0, rf_103_1, rf_106_0, rf_106_1, rf_109_0, rf_109_1, al_2, al_4, al_5, al_7, al_8, al_10, al_11, al_12, al_14, al_15, al_17, al_18, al_19, al_20, al_22, al_23, al_24, al_25, al_27, al_28, al_29, al_30, al_32, al_33, al_34, al_35, al_37, al_38, al_40, al_42, al_5001, al_5002, al_5003, al_5004, al_5005, al_5006, al_5007, al_5008, al_5009, al_5010, al_5011, al_5012, al_5013, al_5014, al_5015, al_5016, al_5017, al_5018, al_5019, al_5020, al_5021, al_5022, al_5023, al_5024, al_5025, al_5026, al_9000, al_101, al_102, al_104, al_105, al_107, al_108, al_110, al_111, vcs_e, lg_c0, lg_cs, lg_nil, set_c0, set_cs, okst_0, okst_s, acok_n, acok_c, List.contains_nil, List.contains_cons, Bool.or_false, Bool.false_or, Bool.false_eq_true, if_false, if_true, ite_self, ne_eq, true_and, and_true, not_false_eq_true, not_true_eq_false, false_imp_iff, true_imp_iff, Nat.ble_eq, Bool.and_eq_true, reduceCtorEq, or_false, false_or, or_true, true_or, false_and, and_false, and_self, Int.reduceLE, Int.reduceAdd, Int.reduceSub, Int.reduceMul, Int.reduceNeg, Int.reduceLT, Int.reduceEq, Int.reduceNe, Nat.reduceBEq, Nat.reduceBNe, Nat.reduceEqDiff, amCmp_in, amCmp_lt, amCmp_le, amCmp_gt, amCmp_ge, amCmp_eq, amCmp_ne, Nat.reduceLeDiff, Nat.reduceSub, Bool.and_true, Bool.true_and, Bool.and_self, Bool.or_true, Bool.true_or, isRf_3, isRf_4, isRf_5, isRf_8, isRf_9, isRf_10, isRf_11, isRf_15, isRf_16, isRf_17, isRf_18, isRf_19, isRf_20, isRf_21, isRf_22, isRf_23, isRf_24, isRf_25, isRf_26, isRf_27, isRf_28, k_X12_readSeason_0, k_X12_readSeason_1, k_X12_readSeason_2, k_X12_readSeason_5, k_X12_readSeason_6, k_X12_readSeason_7, k_X12_readSeason_10, k_X12_readSeason_13, k_X12_readSeason_14, k_X12_readSeason_15, k_X12_readSeason_16, k_X12_readSeason_17, k_X12_readSeason_18, k_X12_readSeason_21, k_X12_readSeason_22, k_X12_readSeason_23, k_X12_readSeason_25, k_X12_readSeason_26, k_X12_readSeason_27, k_X12_readSeason_28, k_X12_readSeason_31, k_X12_readSeason_32, k_X12_readSeason_35, k_X12_readSeason_36, k_X12_readSeason_39, k_X12_readSeason_40, k_X12_readSeason_43, k_X12_readSeason_44, k_X12_readSeason_47, k_X12_readSeason_49, k_X12_readSeason_52, k_X12_readSeason_53, k_X12_readSeason_56, k_X12_readSeason_57, k_X12_readSeason_58, k_X12_readSeason_59, k_X12_readSeason_62, k_X12_readSeason_63, k_X12_readSeason_65, k_X12_readSeason_68, k_X12_readSeason_69, k_X12_readSeason_72, k_X12_readSeason_73, k_X12_readSeason_74, k_X12_readSeason_75, k_X12_readSeason_78, k_X12_readSeason_79, k_X12_readSeason_80, k_X12_readSeason_83, k_X12_readSeason_84, k_X12_readSeason_85, k_X12_readSeason_88, k_X12_readSeason_91, k_X12_readSeason_92, k_X12_readSeason_95, k_X12_readSeason_96, k_X12_readSeason_97, k_X12_readSeason_98, k_X12_readSeason_99, k_X12_readSeason_102, k_X12_readSeason_103, k_X12_readSeason_106, k_X12_readSeason_107, k_X12_readSeason_110, k_X12_readSeason_111, w_X12_fails_e, w_X12_look_e, w_X12_readStep_e, w_X12_starts_e, msk, Mt, MtO, Mt4, MtO4, s14_5, s14_c, s14_fa, se_10, se_9, se_11, se_u10, se_u11]
      repeat' (first | apply And.intro | intro _)
      all_goals first | omega | exact absurd trivial (by assumption) | exact h8 (by assumption) | exact h9 (by assumption) | exact h9 (by omega) | exact h8 (by omega) | exact ⟨by omega, by omega⟩
    · have h8 := hq1 (by rw [hf]; omega) _ (hS q f v) (by rw [se_11, hf])
      have fn : ¬ f = -1 := by omega
      refine ⟨60, ?_⟩
      simp only [↓reduceIte, inR_0, inR_1, inR_m, vSw2_e, swP_n, swP_c, vI_e, vL_e, vNull_e, vIload_e, vLload_e, vAload_e, vIstore_e, vLstore_e, vAstore_e, vIinc_e, vIadd_e, vIsub_e, vImul_e, vIand_e, vIor_e, vIxor_e, vIshl_e, vIshr_e, vIushr_e, vIdiv_e, vIrem_e, vLadd_e, vLsub_e, vLmul_e, vLand_e, vLor_e, vLxor_e, vLdiv_e, vLrem_e, vLushr_e, vLshl_e, vLcmp_e, vIneg_e, vI2l_e, vL2i_e, vI2b_e, vI2c_e, vDup_e, vPop_e, vDup2_e, vGoto_e, vIcEq_e, vIfEq_e, vIcNe_e, vIfNe_e, vIcLt_e, vIfLt_e, vIcGe_e, vIfGe_e, vIcGt_e, vIfGt_e, vIcLe_e, vIfLe_e, vNonnull_e, vSw_e, vGetI_e, vGetL_e, vGetR_e, vPutI_e, vPutZ_e, vPutL_e, vPutR_e, vIald_e, vIald_s, vLald_e, vBald_e, vBald_s, vAald_e, vIast_e, vLast_e, vBast_e, vAast_e, vAlen_e8, vAlen_e9, vAlen_e10, vAlen_e11, vAlen_e5, vAlen_e3, vGets_e, vCompact_e, vLdcS_e, vIret_e, vZret_e, vCret_e, vBret_e, vLret_e, vVret_e, vAret_e, vCallM_e0, vCallMV_e0, vCallS_e0, vCallSV_e0, vCallM_e1, vCallMV_e1, vCallS_e1, vCallSV_e1, vCallM_e2, vCallMV_e2, vCallS_e2, vCallSV_e2, vCallM_e3, vCallMV_e3, vCallS_e3, vCallSV_e3, vCallM_e4, vCallMV_e4, vCallS_e4, vCallSV_e4, vCallM_e5, vCallMV_e5, vCallS_e5, vCallSV_e5, vCallM_e6, vCallMV_e6, vCallS_e6, vCallSV_e6, vCallM_e7, vCallMV_e7, vCallS_e7, vCallSV_e7, vBad_e, vStrVal_e, vStrCod_e, vForm_e, vCallT_e0, vCallT_e1, vCallT_e2, vCopy_e, rf_0_0, rf_0_1, rf_0_2, rf_0_3, rf_0_4, rf_0_7, rf_0_10, rf_0_11, rf_0_12, rf_0_13, rf_0_14, rf_0_15, rf_0_16, rf_1_0, rf_3_0, rf_3_1, rf_6_0, rf_6_1, rf_9_0, rf_9_1, rf_9_3, rf_13_0, rf_13_1, rf_13_2, rf_16_0, rf_16_1, rf_16_2, rf_16_3, rf_21_0, rf_21_1, rf_21_2, rf_21_3, rf_26_0, rf_26_1, rf_26_2, rf_26_3, rf_26_4, rf_26_5, rf_26_6, rf_31_0, rf_31_2, rf_31_5, rf_31_6, rf_36_0, rf_36_1, rf_36_2, rf_36_3, rf_39_0, rf_39_1, rf_39_2, rf_41_0, rf_41_1, rf_41_2, rf_41_3, rf_5000_1, rf_5000_2, rf_5000_3, rf_5000_4, rf_5000_5, rf_5000_15, rf_5000_16, rf_5000_18, rf_5000_19, rf_5000_20, rf_5000_21, rf_5000_22, rf_5000_23, rf_5000_24, rf_5000_25, rf_5000_26, rf_5000_27, rf_5000_36, rf_5000_37, rf_5000_40, rf_5000_41, rf_5000_42, rf_5000_43, rf_5000_44, rf_5000_45, rf_5000_47, rf_5000_52, rf_5000_54, rf_5000_55, rf_100_0, rf_100_1, rf_103_0, rf_103_1, rf_106_0, rf_106_1, rf_109_0, rf_109_1, al_2, al_4, al_5, al_7, al_8, al_10, al_11, al_12, al_14, al_15, al_17, al_18, al_19, al_20, al_22, al_23, al_24, al_25, al_27, al_28, al_29, al_30, al_32, al_33, al_34, al_35, al_37, al_38, al_40, al_42, al_5001, al_5002, al_5003, al_5004, al_5005, al_5006, al_5007, al_5008, al_5009, al_5010, al_5011, al_5012, al_5013, al_5014, al_5015, al_5016, al_5017, al_5018, al_5019, al_5020, al_5021, al_5022, al_5023, al_5024, al_5025, al_5026, al_9000, al_101, al_102, al_104, al_105, al_107, al_108, al_110, al_111, vcs_e, lg_c0, lg_cs, lg_nil, set_c0, set_cs, okst_0, okst_s, acok_n, acok_c, List.contains_nil, List.contains_cons, Bool.or_false, Bool.false_or, Bool.false_eq_true, if_false, if_true, ite_self, ne_eq, true_and, and_true, not_false_eq_true, not_true_eq_false, false_imp_iff, true_imp_iff, Nat.ble_eq, Bool.and_eq_true, reduceCtorEq, or_false, false_or, or_true, true_or, false_and, and_false, and_self, Int.reduceLE, Int.reduceAdd, Int.reduceSub, Int.reduceMul, Int.reduceNeg, Int.reduceLT, Int.reduceEq, Int.reduceNe, Nat.reduceBEq, Nat.reduceBNe, Nat.reduceEqDiff, amCmp_in, amCmp_lt, amCmp_le, amCmp_gt, amCmp_ge, amCmp_eq, amCmp_ne, Nat.reduceLeDiff, Nat.reduceSub, Bool.and_true, Bool.true_and, Bool.and_self, Bool.or_true, Bool.true_or, isRf_3, isRf_4, isRf_5, isRf_8, isRf_9, isRf_10, isRf_11, isRf_15, isRf_16, isRf_17, isRf_18, isRf_19, isRf_20, isRf_21, isRf_22, isRf_23, isRf_24, isRf_25, isRf_26, isRf_27, isRf_28, k_X12_readSeason_0, k_X12_readSeason_1, k_X12_readSeason_2, k_X12_readSeason_5, k_X12_readSeason_6, k_X12_readSeason_7, k_X12_readSeason_10, k_X12_readSeason_13, k_X12_readSeason_14, k_X12_readSeason_15, k_X12_readSeason_16, k_X12_readSeason_17, k_X12_readSeason_18, k_X12_readSeason_21, k_X12_readSeason_22, k_X12_readSeason_23, k_X12_readSeason_25, k_X12_readSeason_26, k_X12_readSeason_27, k_X12_readSeason_28, k_X12_readSeason_31, k_X12_readSeason_32, k_X12_readSeason_35, k_X12_readSeason_36, k_X12_readSeason_39, k_X12_readSeason_40, k_X12_readSeason_43, k_X12_readSeason_44, k_X12_readSeason_47, k_X12_readSeason_49, k_X12_readSeason_52, k_X12_readSeason_53, k_X12_readSeason_56, k_X12_readSeason_57, k_X12_readSeason_58, k_X12_readSeason_59, k_X12_readSeason_62, k_X12_readSeason_63, k_X12_readSeason_65, k_X12_readSeason_68, k_X12_readSeason_69, k_X12_readSeason_72, k_X12_readSeason_73, k_X12_readSeason_74, k_X12_readSeason_75, k_X12_readSeason_78, k_X12_readSeason_79, k_X12_readSeason_80, k_X12_readSeason_83, k_X12_readSeason_84, k_X12_readSeason_85, k_X12_readSeason_88, k_X12_readSeason_91, k_X12_readSeason_92, k_X12_readSeason_95, k_X12_readSeason_96, k_X12_readSeason_97, k_X12_readSeason_98, k_X12_readSeason_99, k_X12_readSeason_102, k_X12_readSeason_103, k_X12_readSeason_106, k_X12_readSeason_107, k_X12_readSeason_110, k_X12_readSeason_111, w_X12_fails_e, w_X12_look_e, w_X12_readStep_e, w_X12_starts_e, se_11, fn]
      repeat' (first | apply And.intro | intro _)
      all_goals first | omega | exact absurd trivial (by assumption) | exact h8
    · have s1 := sk_b (mtx m) p1
      have b1 := mtx_b ht (sk (mtx m) (m 5000 9) p)
      have ss := sk_sk (mtx m) p1
      have h8 : mtx m (sk (mtx m) (m 5000 9) p) = 59 → i + 1 = 16 → Q (6, 0) (seM m (sk (mtx m) (m 5000 9) p) (sk (mtx m) (m 5000 9) p) v) := fun e e2 =>
        hq1 (by rw [hB (by omega) (Or.inr e2)]; omega) _ (hS _ _ _) (by rw [se_11, hB (by omega) (Or.inr e2)])
      have i9 : mtx m (sk (mtx m) (m 5000 9) p) = 59 → ¬ i + 1 = 16 → ∃ k3, k3 < 2 * k' + 2 ∧ inv_rse m R k3 17 [(28, 5000), (0, i + 1), (0, 1)] [] (seM m (sk (mtx m) (m 5000 9) p + 1) (-1) v) := fun e e2 => by
        have s2 := sk_lt hte (q := sk (mtx m) (m 5000 9) p) (by omega)
        exact ⟨2 * k' + 1, by omega, rfl, i + 1, vF, by omega, Or.inl ⟨k', _, v, rfl, rfl, by omega, by omega, rfl, rfl, by omega, by omega, hv, hC e e2⟩⟩
      have i8 : mtx m (sk (mtx m) (m 5000 9) p) ≠ 59 → ∃ k3, k3 < 2 * k' + 2 ∧ inv_rse m R k3 17 [(28, 5000), (0, i + 1), (0, 0)] [] (seM m (sk (mtx m) (m 5000 9) p) (-1) v) := fun e =>
        ⟨0, by omega, rfl, i + 1, vF, by omega, Or.inr (Or.inl ⟨_, v, rfl, rfl, by omega, rfl, rfl, by omega, by omega, hv, fun a => hA (by rw [ss] at a; exact a), fun a => by rw [ss] at a ⊢; exact hB a (Or.inl e)⟩)⟩
      refine ⟨60, ?_⟩
      simp only [↓reduceIte, inR_0, inR_1, inR_m, vSw2_e, swP_n, swP_c, vI_e, vL_e, vNull_e, vIload_e, vLload_e, vAload_e, vIstore_e, vLstore_e, vAstore_e, vIinc_e, vIadd_e, vIsub_e, vImul_e, vIand_e, vIor_e, vIxor_e, vIshl_e, vIshr_e, vIushr_e, vIdiv_e, vIrem_e, vLadd_e, vLsub_e, vLmul_e, vLand_e, vLor_e, vLxor_e, vLdiv_e, vLrem_e, vLushr_e, vLshl_e, vLcmp_e, vIneg_e, vI2l_e, vL2i_e, vI2b_e, vI2c_e, vDup_e, vPop_e, vDup2_e, vGoto_e, vIcEq_e, vIfEq_e, vIcNe_e, vIfNe_e, vIcLt_e, vIfLt_e, vIcGe_e, vIfGe_e, vIcGt_e, vIfGt_e, vIcLe_e, vIfLe_e, vNonnull_e, vSw_e, vGetI_e, vGetL_e, vGetR_e, vPutI_e, vPutZ_e, vPutL_e, vPutR_e, vIald_e, vIald_s, vLald_e, vBald_e, vBald_s, vAald_e, vIast_e, vLast_e, vBast_e, vAast_e, vAlen_e8, vAlen_e9, vAlen_e10, vAlen_e11, vAlen_e5, vAlen_e3, vGets_e, vCompact_e, vLdcS_e, vIret_e, vZret_e, vCret_e, vBret_e, vLret_e, vVret_e, vAret_e, vCallM_e0, vCallMV_e0, vCallS_e0, vCallSV_e0, vCallM_e1, vCallMV_e1, vCallS_e1, vCallSV_e1, vCallM_e2, vCallMV_e2, vCallS_e2, vCallSV_e2, vCallM_e3, vCallMV_e3, vCallS_e3, vCallSV_e3, vCallM_e4, vCallMV_e4, vCallS_e4, vCallSV_e4, vCallM_e5, vCallMV_e5, vCallS_e5, vCallSV_e5, vCallM_e6, vCallMV_e6, vCallS_e6, vCallSV_e6, vCallM_e7, vCallMV_e7, vCallS_e7, vCallSV_e7, vBad_e, vStrVal_e, vStrCod_e, vForm_e, vCallT_e0, vCallT_e1, vCallT_e2, vCopy_e, rf_0_0, rf_0_1, rf_0_2, rf_0_3, rf_0_4, rf_0_7, rf_0_10, rf_0_11, rf_0_12, rf_0_13, rf_0_14, rf_0_15, rf_0_16, rf_1_0, rf_3_0, rf_3_1, rf_6_0, rf_6_1, rf_9_0, rf_9_1, rf_9_3, rf_13_0, rf_13_1, rf_13_2, rf_16_0, rf_16_1, rf_16_2, rf_16_3, rf_21_0, rf_21_1, rf_21_2, rf_21_3, rf_26_0, rf_26_1, rf_26_2, rf_26_3, rf_26_4, rf_26_5, rf_26_6, rf_31_0, rf_31_2, rf_31_5, rf_31_6, rf_36_0, rf_36_1, rf_36_2, rf_36_3, rf_39_0, rf_39_1, rf_39_2, rf_41_0, rf_41_1, rf_41_2, rf_41_3, rf_5000_1, rf_5000_2, rf_5000_3, rf_5000_4, rf_5000_5, rf_5000_15, rf_5000_16, rf_5000_18, rf_5000_19, rf_5000_20, rf_5000_21, rf_5000_22, rf_5000_23, rf_5000_24, rf_5000_25, rf_5000_26, rf_5000_27, rf_5000_36, rf_5000_37, rf_5000_40, rf_5000_41, rf_5000_42, rf_5000_43, rf_5000_44, rf_5000_45, rf_5000_47, rf_5000_52, rf_5000_54, rf_5000_55, rf_100_0, rf_100_1, rf_103_0, rf_103_1, rf_106_0, rf_106_1, rf_109_0, rf_109_1, al_2, al_4, al_5, al_7, al_8, al_10, al_11, al_12, al_14, al_15, al_17, al_18, al_19, al_20, al_22, al_23, al_24, al_25, al_27, al_28, al_29, al_30, al_32, al_33, al_34, al_35, al_37, al_38, al_40, al_42, al_5001, al_5002, al_5003, al_5004, al_5005, al_5006, al_5007, al_5008, al_5009, al_5010, al_5011, al_5012, al_5013, al_5014, al_5015, al_5016, al_5017, al_5018, al_5019, al_5020, al_5021, al_5022, al_5023, al_5024, al_5025, al_5026, al_9000, al_101, al_102, al_104, al_105, al_107, al_108, al_110, al_111, vcs_e, lg_c0, lg_cs, lg_nil, set_c0, set_cs, okst_0, okst_s, acok_n, acok_c, List.contains_nil, List.contains_cons, Bool.or_false, Bool.false_or, Bool.false_eq_true, if_false, if_true, ite_self, ne_eq, true_and, and_true, not_false_eq_true, not_true_eq_false, false_imp_iff, true_imp_iff, Nat.ble_eq, Bool.and_eq_true, reduceCtorEq, or_false, false_or, or_true, true_or, false_and, and_false, and_self, Int.reduceLE, Int.reduceAdd, Int.reduceSub, Int.reduceMul, Int.reduceNeg, Int.reduceLT, Int.reduceEq, Int.reduceNe, Nat.reduceBEq, Nat.reduceBNe, Nat.reduceEqDiff, amCmp_in, amCmp_lt, amCmp_le, amCmp_gt, amCmp_ge, amCmp_eq, amCmp_ne, Nat.reduceLeDiff, Nat.reduceSub, Bool.and_true, Bool.true_and, Bool.and_self, Bool.or_true, Bool.true_or, isRf_3, isRf_4, isRf_5, isRf_8, isRf_9, isRf_10, isRf_11, isRf_15, isRf_16, isRf_17, isRf_18, isRf_19, isRf_20, isRf_21, isRf_22, isRf_23, isRf_24, isRf_25, isRf_26, isRf_27, isRf_28, k_X12_readSeason_0, k_X12_readSeason_1, k_X12_readSeason_2, k_X12_readSeason_5, k_X12_readSeason_6, k_X12_readSeason_7, k_X12_readSeason_10, k_X12_readSeason_13, k_X12_readSeason_14, k_X12_readSeason_15, k_X12_readSeason_16, k_X12_readSeason_17, k_X12_readSeason_18, k_X12_readSeason_21, k_X12_readSeason_22, k_X12_readSeason_23, k_X12_readSeason_25, k_X12_readSeason_26, k_X12_readSeason_27, k_X12_readSeason_28, k_X12_readSeason_31, k_X12_readSeason_32, k_X12_readSeason_35, k_X12_readSeason_36, k_X12_readSeason_39, k_X12_readSeason_40, k_X12_readSeason_43, k_X12_readSeason_44, k_X12_readSeason_47, k_X12_readSeason_49, k_X12_readSeason_52, k_X12_readSeason_53, k_X12_readSeason_56, k_X12_readSeason_57, k_X12_readSeason_58, k_X12_readSeason_59, k_X12_readSeason_62, k_X12_readSeason_63, k_X12_readSeason_65, k_X12_readSeason_68, k_X12_readSeason_69, k_X12_readSeason_72, k_X12_readSeason_73, k_X12_readSeason_74, k_X12_readSeason_75, k_X12_readSeason_78, k_X12_readSeason_79, k_X12_readSeason_80, k_X12_readSeason_83, k_X12_readSeason_84, k_X12_readSeason_85, k_X12_readSeason_88, k_X12_readSeason_91, k_X12_readSeason_92, k_X12_readSeason_95, k_X12_readSeason_96, k_X12_readSeason_97, k_X12_readSeason_98, k_X12_readSeason_99, k_X12_readSeason_102, k_X12_readSeason_103, k_X12_readSeason_106, k_X12_readSeason_107, k_X12_readSeason_110, k_X12_readSeason_111, w_X12_fails_e, w_X12_look_e, w_X12_readStep_e, w_X12_starts_e, msk, Mt, MtO, se_10, se_9, se_11, se_u10, se_u11, se_fa]
      repeat' (first | apply And.intro | intro _)
      all_goals first | omega | exact absurd trivial (by assumption) | exact i8 (by assumption) | exact h8 (by assumption) (by assumption) | exact i9 (by assumption) (by assumption) | exact h8 (by omega) (by omega) | exact i9 (by omega) (by omega) | exact ⟨by omega, by omega⟩
  · change vcs _ _ _ _ 60 0 [(28, 5000), (6, 0), (6, 0)] [] σ
    have i9 : ∃ k3, inv_rse m R k3 17 [(28, 5000), (0, 0), (0, 1)] [] m := ⟨33, rfl, 0, fun _ => 0, by decide, Or.inl ⟨16, 0, fun k => m 5013 (192 + k), rfl, rfl, by decide, by decide, rfl, hid.symm, by decide, n0, fun k h0 h1 => by omega, hR⟩⟩
    simp only [↓reduceIte, inR_0, inR_1, inR_m, vSw2_e, swP_n, swP_c, vI_e, vL_e, vNull_e, vIload_e, vLload_e, vAload_e, vIstore_e, vLstore_e, vAstore_e, vIinc_e, vIadd_e, vIsub_e, vImul_e, vIand_e, vIor_e, vIxor_e, vIshl_e, vIshr_e, vIushr_e, vIdiv_e, vIrem_e, vLadd_e, vLsub_e, vLmul_e, vLand_e, vLor_e, vLxor_e, vLdiv_e, vLrem_e, vLushr_e, vLshl_e, vLcmp_e, vIneg_e, vI2l_e, vL2i_e, vI2b_e, vI2c_e, vDup_e, vPop_e, vDup2_e, vGoto_e, vIcEq_e, vIfEq_e, vIcNe_e, vIfNe_e, vIcLt_e, vIfLt_e, vIcGe_e, vIfGe_e, vIcGt_e, vIfGt_e, vIcLe_e, vIfLe_e, vNonnull_e, vSw_e, vGetI_e, vGetL_e, vGetR_e, vPutI_e, vPutZ_e, vPutL_e, vPutR_e, vIald_e, vIald_s, vLald_e, vBald_e, vBald_s, vAald_e, vIast_e, vLast_e, vBast_e, vAast_e, vAlen_e8, vAlen_e9, vAlen_e10, vAlen_e11, vAlen_e5, vAlen_e3, vGets_e, vCompact_e, vLdcS_e, vIret_e, vZret_e, vCret_e, vBret_e, vLret_e, vVret_e, vAret_e, vCallM_e0, vCallMV_e0, vCallS_e0, vCallSV_e0, vCallM_e1, vCallMV_e1, vCallS_e1, vCallSV_e1, vCallM_e2, vCallMV_e2, vCallS_e2, vCallSV_e2, vCallM_e3, vCallMV_e3, vCallS_e3, vCallSV_e3, vCallM_e4, vCallMV_e4, vCallS_e4, vCallSV_e4, vCallM_e5, vCallMV_e5, vCallS_e5, vCallSV_e5, vCallM_e6, vCallMV_e6, vCallS_e6, vCallSV_e6, vCallM_e7, vCallMV_e7, vCallS_e7, vCallSV_e7, vBad_e, vStrVal_e, vStrCod_e, vForm_e, vCallT_e0, vCallT_e1, vCallT_e2, vCopy_e, rf_0_0, rf_0_1, rf_0_2, rf_0_3, rf_0_4, rf_0_7, rf_0_10, rf_0_11, rf_0_12, rf_0_13, rf_0_14, rf_0_15, rf_0_16, rf_1_0, rf_3_0, rf_3_1, rf_6_0, rf_6_1, rf_9_0, rf_9_1, rf_9_3, rf_13_0, rf_13_1, rf_13_2, rf_16_0, rf_16_1, rf_16_2, rf_16_3, rf_21_0, rf_21_1, rf_21_2, rf_21_3, rf_26_0, rf_26_1, rf_26_2, rf_26_3, rf_26_4, rf_26_5, rf_26_6, rf_31_0, rf_31_2, rf_31_5, rf_31_6, rf_36_0, rf_36_1, rf_36_2, rf_36_3, rf_39_0, rf_39_1, rf_39_2, rf_41_0, rf_41_1, rf_41_2, rf_41_3, rf_5000_1, rf_5000_2, rf_5000_3, rf_5000_4, rf_5000_5, rf_5000_15, rf_5000_16, rf_5000_18, rf_5000_19, rf_5000_20, rf_5000_21, rf_5000_22, rf_5000_23, rf_5000_24, rf_5000_25, rf_5000_26, rf_5000_27, rf_5000_36, rf_5000_37, rf_5000_40, rf_5000_41, rf_5000_42, rf_5000_43, rf_5000_44, rf_5000_45, rf_5000_47, rf_5000_52, rf_5000_54, rf_5000_55, rf_100_0, rf_100_1, rf_103_0, rf_103_1, rf_106_0, rf_106_1, rf_109_0, rf_109_1, al_2, al_4, al_5, al_7, al_8, al_10, al_11, al_12, al_14, al_15, al_17, al_18, al_19, al_20, al_22, al_23, al_24, al_25, al_27, al_28, al_29, al_30, al_32, al_33, al_34, al_35, al_37, al_38, al_40, al_42, al_5001, al_5002, al_5003, al_5004, al_5005, al_5006, al_5007, al_5008, al_5009, al_5010, al_5011, al_5012, al_5013, al_5014, al_5015, al_5016, al_5017, al_5018, al_5019, al_5020, al_5021, al_5022, al_5023, al_5024, al_5025, al_5026, al_9000, al_101, al_102, al_104, al_105, al_107, al_108, al_110, al_111, vcs_e, lg_c0, lg_cs, lg_nil, set_c0, set_cs, okst_0, okst_s, acok_n, acok_c, List.contains_nil, List.contains_cons, Bool.or_false, Bool.false_or, Bool.false_eq_true, if_false, if_true, ite_self, ne_eq, true_and, and_true, not_false_eq_true, not_true_eq_false, false_imp_iff, true_imp_iff, Nat.ble_eq, Bool.and_eq_true, reduceCtorEq, or_false, false_or, or_true, true_or, false_and, and_false, and_self, Int.reduceLE, Int.reduceAdd, Int.reduceSub, Int.reduceMul, Int.reduceNeg, Int.reduceLT, Int.reduceEq, Int.reduceNe, Nat.reduceBEq, Nat.reduceBNe, Nat.reduceEqDiff, amCmp_in, amCmp_lt, amCmp_le, amCmp_gt, amCmp_ge, amCmp_eq, amCmp_ne, Nat.reduceLeDiff, Nat.reduceSub, Bool.and_true, Bool.true_and, Bool.and_self, Bool.or_true, Bool.true_or, isRf_3, isRf_4, isRf_5, isRf_8, isRf_9, isRf_10, isRf_11, isRf_15, isRf_16, isRf_17, isRf_18, isRf_19, isRf_20, isRf_21, isRf_22, isRf_23, isRf_24, isRf_25, isRf_26, isRf_27, isRf_28, k_X12_readSeason_0, k_X12_readSeason_1, k_X12_readSeason_2, k_X12_readSeason_5, k_X12_readSeason_6, k_X12_readSeason_7, k_X12_readSeason_10, k_X12_readSeason_13, k_X12_readSeason_14, k_X12_readSeason_15, k_X12_readSeason_16, k_X12_readSeason_17, k_X12_readSeason_18, k_X12_readSeason_21, k_X12_readSeason_22, k_X12_readSeason_23, k_X12_readSeason_25, k_X12_readSeason_26, k_X12_readSeason_27, k_X12_readSeason_28, k_X12_readSeason_31, k_X12_readSeason_32, k_X12_readSeason_35, k_X12_readSeason_36, k_X12_readSeason_39, k_X12_readSeason_40, k_X12_readSeason_43, k_X12_readSeason_44, k_X12_readSeason_47, k_X12_readSeason_49, k_X12_readSeason_52, k_X12_readSeason_53, k_X12_readSeason_56, k_X12_readSeason_57, k_X12_readSeason_58, k_X12_readSeason_59, k_X12_readSeason_62, k_X12_readSeason_63, k_X12_readSeason_65, k_X12_readSeason_68, k_X12_readSeason_69, k_X12_readSeason_72, k_X12_readSeason_73, k_X12_readSeason_74, k_X12_readSeason_75, k_X12_readSeason_78, k_X12_readSeason_79, k_X12_readSeason_80, k_X12_readSeason_83, k_X12_readSeason_84, k_X12_readSeason_85, k_X12_readSeason_88, k_X12_readSeason_91, k_X12_readSeason_92, k_X12_readSeason_95, k_X12_readSeason_96, k_X12_readSeason_97, k_X12_readSeason_98, k_X12_readSeason_99, k_X12_readSeason_102, k_X12_readSeason_103, k_X12_readSeason_106, k_X12_readSeason_107, k_X12_readSeason_110, k_X12_readSeason_111, w_X12_fails_e, w_X12_look_e, w_X12_readStep_e, w_X12_starts_e, hm]
    repeat' (first | apply And.intro | intro _)
    all_goals first | omega | exact absurd trivial (by assumption) | exact i9 | exact Or.inl rfl
/-! the reference reads numbers of a HOUSE -/
abbrev dg (x : Int) : Prop := 48 ≤ x ∧ x ≤ 57
theorem fa_u {σ : Mem} (hf : σ 5000 11 = -1) (x : Int) : faM (up σ 5000 10 x) = up (up σ 5000 10 x) 5000 11 x := by
  unfold faM; rw [if_pos (by rw [up_nj _ (by decide)]; exact hf), up_s]
theorem wd_1554 : Cond.methodLink RX12 229 yX12_here ∈ TBL := tb_tab (List.mem_of_getElem? (i := 1554) (by decide +kernel)) rfl
theorem wd_1557 : Cond.code yX12_here cX12_here 1 (some .int) ∈ TBL := tb_tab (List.mem_of_getElem? (i := 1557) (by decide +kernel)) rfl
theorem lk_X12_229 : amLk RX12 229 yX12_here cX12_here 1 (some .int) 0 := ⟨wd_1554, wd_12, wd_1557, by decide +kernel, by decide +kernel, by decide⟩
theorem wd_1556 : Cond.instanceMethod yX12_here ∈ TBL := tb_tab (List.mem_of_getElem? (i := 1556) (by decide +kernel)) rfl
theorem sl_X12_here : Cond.selects RX12 yX12_here yX12_here ∈ TBL := tb_sel (List.mem_of_getElem? (i := 56) (by decide +kernel)) rfl
def a_X12_number : AC := [(0, vAload 0 1), (1, vCallM w_X12_look 28 0 4), (4, vIstore 3 5), (5, vAload 0 6), (6, vCallM w_X12_isDigit 28 0 9), (9, vIfNe 19 12), (12, vAload 0 13), (13, vCallM w_X12_fails 28 0 16), (16, vPop 17), (17, vI 0 18), (18, vIret), (19, vIload 3 20), (20, vI 48 22), (22, vIsub 23), (23, vIstore 4 25), (25, vAload 0 26), (26, vDup 27), (27, vGetI 28 10 30), (30, vI 1 31), (31, vIadd 32), (32, vPutI 28 10 35), (35, vAload 0 36), (36, vCallM w_X12_isDigit 28 0 39), (39, vIfEq 67 42), (42, vI 10 44), (44, vIload 4 46), (46, vImul 47), (47, vAload 0 48), (48, vCallM w_X12_here 28 0 51), (51, vIadd 52), (52, vI 48 54), (54, vIsub 55), (55, vIstore 4 57), (57, vAload 0 58), (58, vDup 59), (59, vGetI 28 10 62), (62, vI 1 63), (63, vIadd 64), (64, vPutI 28 10 67), (67, vAload 0 68), (68, vCallM w_X12_isDigit 28 0 71), (71, vIfEq 81 74), (74, vAload 0 75), (75, vCallM w_X12_fails 28 0 78), (78, vPop 79), (79, vI 0 80), (80, vIret), (81, vIload 4 83), (83, vI2l 84), (84, vIload 1 85), (85, vI2l 86), (86, vIload 2 87), (87, vI2l 88), (88, vCallS w_X12_isIn 3 91), (91, vIfNe 109 94), (94, vAload 0 95), (95, vDup 96), (96, vGetI 28 10 99), (99, vI 1 100), (100, vIsub 101), (101, vPutI 28 10 104), (104, vAload 0 105), (105, vCallM w_X12_fails 28 0 108), (108, vPop 109), (109, vIload 4 111), (111, vIret)]
theorem k_X12_number_0 : look a_X12_number 0 = vAload 0 1 := rfl
theorem k_X12_number_1 : look a_X12_number 1 = vCallM w_X12_look 28 0 4 := rfl
theorem k_X12_number_4 : look a_X12_number 4 = vIstore 3 5 := rfl
theorem k_X12_number_5 : look a_X12_number 5 = vAload 0 6 := rfl
theorem k_X12_number_6 : look a_X12_number 6 = vCallM w_X12_isDigit 28 0 9 := rfl
theorem k_X12_number_9 : look a_X12_number 9 = vIfNe 19 12 := rfl
theorem k_X12_number_12 : look a_X12_number 12 = vAload 0 13 := rfl
theorem k_X12_number_13 : look a_X12_number 13 = vCallM w_X12_fails 28 0 16 := rfl
theorem k_X12_number_16 : look a_X12_number 16 = vPop 17 := rfl
theorem k_X12_number_17 : look a_X12_number 17 = vI 0 18 := rfl
theorem k_X12_number_18 : look a_X12_number 18 = vIret := rfl
theorem k_X12_number_19 : look a_X12_number 19 = vIload 3 20 := rfl
theorem k_X12_number_20 : look a_X12_number 20 = vI 48 22 := rfl
theorem k_X12_number_22 : look a_X12_number 22 = vIsub 23 := rfl
theorem k_X12_number_23 : look a_X12_number 23 = vIstore 4 25 := rfl
theorem k_X12_number_25 : look a_X12_number 25 = vAload 0 26 := rfl
theorem k_X12_number_26 : look a_X12_number 26 = vDup 27 := rfl
theorem k_X12_number_27 : look a_X12_number 27 = vGetI 28 10 30 := rfl
theorem k_X12_number_30 : look a_X12_number 30 = vI 1 31 := rfl
theorem k_X12_number_31 : look a_X12_number 31 = vIadd 32 := rfl
theorem k_X12_number_32 : look a_X12_number 32 = vPutI 28 10 35 := rfl
theorem k_X12_number_35 : look a_X12_number 35 = vAload 0 36 := rfl
theorem k_X12_number_36 : look a_X12_number 36 = vCallM w_X12_isDigit 28 0 39 := rfl
theorem k_X12_number_39 : look a_X12_number 39 = vIfEq 67 42 := rfl
theorem k_X12_number_42 : look a_X12_number 42 = vI 10 44 := rfl
theorem k_X12_number_44 : look a_X12_number 44 = vIload 4 46 := rfl
theorem k_X12_number_46 : look a_X12_number 46 = vImul 47 := rfl
theorem k_X12_number_47 : look a_X12_number 47 = vAload 0 48 := rfl
theorem k_X12_number_48 : look a_X12_number 48 = vCallM w_X12_here 28 0 51 := rfl
theorem k_X12_number_51 : look a_X12_number 51 = vIadd 52 := rfl
theorem k_X12_number_52 : look a_X12_number 52 = vI 48 54 := rfl
theorem k_X12_number_54 : look a_X12_number 54 = vIsub 55 := rfl
theorem k_X12_number_55 : look a_X12_number 55 = vIstore 4 57 := rfl
theorem k_X12_number_57 : look a_X12_number 57 = vAload 0 58 := rfl
theorem k_X12_number_58 : look a_X12_number 58 = vDup 59 := rfl
theorem k_X12_number_59 : look a_X12_number 59 = vGetI 28 10 62 := rfl
theorem k_X12_number_62 : look a_X12_number 62 = vI 1 63 := rfl
theorem k_X12_number_63 : look a_X12_number 63 = vIadd 64 := rfl
theorem k_X12_number_64 : look a_X12_number 64 = vPutI 28 10 67 := rfl
theorem k_X12_number_67 : look a_X12_number 67 = vAload 0 68 := rfl
theorem k_X12_number_68 : look a_X12_number 68 = vCallM w_X12_isDigit 28 0 71 := rfl
theorem k_X12_number_71 : look a_X12_number 71 = vIfEq 81 74 := rfl
theorem k_X12_number_74 : look a_X12_number 74 = vAload 0 75 := rfl
theorem k_X12_number_75 : look a_X12_number 75 = vCallM w_X12_fails 28 0 78 := rfl
theorem k_X12_number_78 : look a_X12_number 78 = vPop 79 := rfl
theorem k_X12_number_79 : look a_X12_number 79 = vI 0 80 := rfl
theorem k_X12_number_80 : look a_X12_number 80 = vIret := rfl
theorem k_X12_number_81 : look a_X12_number 81 = vIload 4 83 := rfl
theorem k_X12_number_83 : look a_X12_number 83 = vI2l 84 := rfl
theorem k_X12_number_84 : look a_X12_number 84 = vIload 1 85 := rfl
theorem k_X12_number_85 : look a_X12_number 85 = vI2l 86 := rfl
theorem k_X12_number_86 : look a_X12_number 86 = vIload 2 87 := rfl
theorem k_X12_number_87 : look a_X12_number 87 = vI2l 88 := rfl
theorem k_X12_number_88 : look a_X12_number 88 = vCallS w_X12_isIn 3 91 := rfl
theorem k_X12_number_91 : look a_X12_number 91 = vIfNe 109 94 := rfl
theorem k_X12_number_94 : look a_X12_number 94 = vAload 0 95 := rfl
theorem k_X12_number_95 : look a_X12_number 95 = vDup 96 := rfl
theorem k_X12_number_96 : look a_X12_number 96 = vGetI 28 10 99 := rfl
theorem k_X12_number_99 : look a_X12_number 99 = vI 1 100 := rfl
theorem k_X12_number_100 : look a_X12_number 100 = vIsub 101 := rfl
theorem k_X12_number_101 : look a_X12_number 101 = vPutI 28 10 104 := rfl
theorem k_X12_number_104 : look a_X12_number 104 = vAload 0 105 := rfl
theorem k_X12_number_105 : look a_X12_number 105 = vCallM w_X12_fails 28 0 108 := rfl
theorem k_X12_number_108 : look a_X12_number 108 = vPop 109 := rfl
theorem k_X12_number_109 : look a_X12_number 109 = vIload 4 111 := rfl
theorem k_X12_number_111 : look a_X12_number 111 = vIret := rfl
theorem o_X12_number {X : amX} (e1 : XT X = TT) (e2 : XD X = 1) (hB : amB X RX12 cX12_number (some .int) 5) : ∀ pc, amOK X pc (look a_X12_number pc) := by
  have hT : amTok (XT X) := e1 ▸ TT_ok
  refine look_ok ?_
  unfold a_X12_number
  refine fc (ok_aload_n hB dX12_number_0) ?_
  refine fc (ok_callM hB hT (e1 ▸ s_X12_look) lk_X12_153 (by rw [e2]; decide) (c := 12) rfl rfl rfl wd_1521 sl_X12_look dX12_number_1) ?_
  refine fc (ok_istore_n hB (by decide) dX12_number_4) ?_
  refine fc (ok_aload_n hB dX12_number_5) ?_
  refine fc (ok_callM hB hT (e1 ▸ s_X12_isDigit) lk_X12_183 (by rw [e2]; decide) (c := 12) rfl rfl rfl wd_1552 sl_X12_isDigit dX12_number_6) ?_
  refine fc (ok_if_ne hB (t := 19) (by decide) dX12_number_9) ?_
  refine fc (ok_aload_n hB dX12_number_12) ?_
  refine fc (ok_callM hB hT (e1 ▸ s_X12_fails) lk_X12_149 (by rw [e2]; decide) (c := 12) rfl rfl rfl wd_1525 sl_X12_fails dX12_number_13) ?_
  refine fc (ok_pop hB dX12_number_16) ?_
  refine fc (ok_iconst hB dX12_number_17) ?_
  refine fc (ok_iret hB dX12_number_18) ?_
  refine fc (ok_iload_n hB dX12_number_19) ?_
  refine fc (ok_bipush hB dX12_number_20 (by decide)) ?_
  refine fc (ok_isub hB dX12_number_22) ?_
  refine fc (ok_istore hB (by decide) dX12_number_23) ?_
  refine fc (ok_aload_n hB dX12_number_25) ?_
  refine fc (ok_dup hB dX12_number_26) ?_
  refine fc (ok_getI hB hT fl_X12_134 rfl rfl (Or.inl af_12_10) dX12_number_27) ?_
  refine fc (ok_iconst hB dX12_number_30) ?_
  refine fc (ok_iadd hB dX12_number_31) ?_
  refine fc (ok_putI hB hT fp_X12_134 rfl rfl rfl af_12_10 dX12_number_32) ?_
  refine fc (ok_aload_n hB dX12_number_35) ?_
  refine fc (ok_callM hB hT (e1 ▸ s_X12_isDigit) lk_X12_183 (by rw [e2]; decide) (c := 12) rfl rfl rfl wd_1552 sl_X12_isDigit dX12_number_36) ?_
  refine fc (ok_if_eq hB (t := 67) (by decide) dX12_number_39) ?_
  refine fc (ok_bipush hB dX12_number_42 (by decide)) ?_
  refine fc (ok_iload hB dX12_number_44) ?_
  refine fc (ok_imul hB dX12_number_46) ?_
  refine fc (ok_aload_n hB dX12_number_47) ?_
  refine fc (ok_callM hB hT (e1 ▸ s_X12_here) lk_X12_229 (by rw [e2]; decide) (c := 12) rfl rfl rfl wd_1556 sl_X12_here dX12_number_48) ?_
  refine fc (ok_iadd hB dX12_number_51) ?_
  refine fc (ok_bipush hB dX12_number_52 (by decide)) ?_
  refine fc (ok_isub hB dX12_number_54) ?_
  refine fc (ok_istore hB (by decide) dX12_number_55) ?_
  refine fc (ok_aload_n hB dX12_number_57) ?_
  refine fc (ok_dup hB dX12_number_58) ?_
  refine fc (ok_getI hB hT fl_X12_134 rfl rfl (Or.inl af_12_10) dX12_number_59) ?_
  refine fc (ok_iconst hB dX12_number_62) ?_
  refine fc (ok_iadd hB dX12_number_63) ?_
  refine fc (ok_putI hB hT fp_X12_134 rfl rfl rfl af_12_10 dX12_number_64) ?_
  refine fc (ok_aload_n hB dX12_number_67) ?_
  refine fc (ok_callM hB hT (e1 ▸ s_X12_isDigit) lk_X12_183 (by rw [e2]; decide) (c := 12) rfl rfl rfl wd_1552 sl_X12_isDigit dX12_number_68) ?_
  refine fc (ok_if_eq hB (t := 81) (by decide) dX12_number_71) ?_
  refine fc (ok_aload_n hB dX12_number_74) ?_
  refine fc (ok_callM hB hT (e1 ▸ s_X12_fails) lk_X12_149 (by rw [e2]; decide) (c := 12) rfl rfl rfl wd_1525 sl_X12_fails dX12_number_75) ?_
  refine fc (ok_pop hB dX12_number_78) ?_
  refine fc (ok_iconst hB dX12_number_79) ?_
  refine fc (ok_iret hB dX12_number_80) ?_
  refine fc (ok_iload hB dX12_number_81) ?_
  refine fc (ok_i2l hB dX12_number_83) ?_
  refine fc (ok_iload_n hB dX12_number_84) ?_
  refine fc (ok_i2l hB dX12_number_85) ?_
  refine fc (ok_iload_n hB dX12_number_86) ?_
  refine fc (ok_i2l hB dX12_number_87) ?_
  refine fc (ok_callS hB (e1 ▸ s_X12_isIn) lk_X12_232 (by rw [e2]; decide) wd_1502 dX12_number_88) ?_
  refine fc (ok_if_ne hB (t := 109) (by decide) dX12_number_91) ?_
  refine fc (ok_aload_n hB dX12_number_94) ?_
  refine fc (ok_dup hB dX12_number_95) ?_
  refine fc (ok_getI hB hT fl_X12_134 rfl rfl (Or.inl af_12_10) dX12_number_96) ?_
  refine fc (ok_iconst hB dX12_number_99) ?_
  refine fc (ok_isub hB dX12_number_100) ?_
  refine fc (ok_putI hB hT fp_X12_134 rfl rfl rfl af_12_10 dX12_number_101) ?_
  refine fc (ok_aload_n hB dX12_number_104) ?_
  refine fc (ok_callM hB hT (e1 ▸ s_X12_fails) lk_X12_149 (by rw [e2]; decide) (c := 12) rfl rfl rfl wd_1525 sl_X12_fails dX12_number_105) ?_
  refine fc (ok_pop hB dX12_number_108) ?_
  refine fc (ok_iload hB dX12_number_109) ?_
  refine fc (ok_iret hB dX12_number_111) ?_
  exact fn

def w_X12_number : WP := fun av σ Q => ∃ (a : Int) (b : Int), av = [(28, 5000), (0, a), (0, b)] ∧ (txOk σ ∧ 0 ≤ σ 5000 10 ∧ σ 5000 10 ≤ σ 5000 9 ∧ σ 5000 11 = -1 ∧ 0 ≤ a ∧ a ≤ 99 ∧ 0 ≤ b ∧ b ≤ 99 ∧ (¬ dg (mtx σ (msk σ)) → Q (0, 0) (up (up σ 5000 10 (msk σ)) 5000 11 (msk σ))) ∧
(dg (mtx σ (msk σ)) → ¬ dg (mtx σ (msk σ + 1)) → (a ≤ mtx σ (msk σ) - 48 ∧ mtx σ (msk σ) - 48 ≤ b → Q (0, mtx σ (msk σ) - 48) (up σ 5000 10 (msk σ + 1))) ∧ (¬ (a ≤ mtx σ (msk σ) - 48 ∧ mtx σ (msk σ) - 48 ≤ b) → Q (0, mtx σ (msk σ) - 48) (up (up σ 5000 10 (msk σ)) 5000 11 (msk σ)))) ∧
(dg (mtx σ (msk σ)) → dg (mtx σ (msk σ + 1)) → dg (mtx σ (msk σ + 2)) → Q (0, 0) (up (up σ 5000 10 (msk σ + 2)) 5000 11 (msk σ + 2))) ∧
(dg (mtx σ (msk σ)) → dg (mtx σ (msk σ + 1)) → ¬ dg (mtx σ (msk σ + 2)) → (a ≤ 10 * (mtx σ (msk σ) - 48) + mtx σ (msk σ + 1) - 48 ∧ 10 * (mtx σ (msk σ) - 48) + mtx σ (msk σ + 1) - 48 ≤ b → Q (0, 10 * (mtx σ (msk σ) - 48) + mtx σ (msk σ + 1) - 48) (up σ 5000 10 (msk σ + 2))) ∧ (¬ (a ≤ 10 * (mtx σ (msk σ) - 48) + mtx σ (msk σ + 1) - 48 ∧ 10 * (mtx σ (msk σ) - 48) + mtx σ (msk σ + 1) - 48 ≤ b) → Q (0, 10 * (mtx σ (msk σ) - 48) + mtx σ (msk σ + 1) - 48) (up (up σ 5000 10 (msk σ + 1)) 5000 11 (msk σ + 1)))))
theorem w_X12_number_e (a : Int) (b : Int) (σ : Mem) (Q : AV → Mem → Prop) : w_X12_number [(28, 5000), (0, a), (0, b)] σ Q = (txOk σ ∧ 0 ≤ σ 5000 10 ∧ σ 5000 10 ≤ σ 5000 9 ∧ σ 5000 11 = -1 ∧ 0 ≤ a ∧ a ≤ 99 ∧ 0 ≤ b ∧ b ≤ 99 ∧ (¬ dg (mtx σ (msk σ)) → Q (0, 0) (up (up σ 5000 10 (msk σ)) 5000 11 (msk σ))) ∧
(dg (mtx σ (msk σ)) → ¬ dg (mtx σ (msk σ + 1)) → (a ≤ mtx σ (msk σ) - 48 ∧ mtx σ (msk σ) - 48 ≤ b → Q (0, mtx σ (msk σ) - 48) (up σ 5000 10 (msk σ + 1))) ∧ (¬ (a ≤ mtx σ (msk σ) - 48 ∧ mtx σ (msk σ) - 48 ≤ b) → Q (0, mtx σ (msk σ) - 48) (up (up σ 5000 10 (msk σ)) 5000 11 (msk σ)))) ∧
(dg (mtx σ (msk σ)) → dg (mtx σ (msk σ + 1)) → dg (mtx σ (msk σ + 2)) → Q (0, 0) (up (up σ 5000 10 (msk σ + 2)) 5000 11 (msk σ + 2))) ∧
(dg (mtx σ (msk σ)) → dg (mtx σ (msk σ + 1)) → ¬ dg (mtx σ (msk σ + 2)) → (a ≤ 10 * (mtx σ (msk σ) - 48) + mtx σ (msk σ + 1) - 48 ∧ 10 * (mtx σ (msk σ) - 48) + mtx σ (msk σ + 1) - 48 ≤ b → Q (0, 10 * (mtx σ (msk σ) - 48) + mtx σ (msk σ + 1) - 48) (up σ 5000 10 (msk σ + 2))) ∧ (¬ (a ≤ 10 * (mtx σ (msk σ) - 48) + mtx σ (msk σ + 1) - 48 ∧ 10 * (mtx σ (msk σ) - 48) + mtx σ (msk σ + 1) - 48 ≤ b) → Q (0, 10 * (mtx σ (msk σ) - 48) + mtx σ (msk σ + 1) - 48) (up (up σ 5000 10 (msk σ + 1)) 5000 11 (msk σ + 1))))) := by
  apply propext; constructor
  · rintro ⟨a', b', h9, hb9⟩; cases h9; exact hb9
  · intro hb9; exact ⟨a, b, rfl, hb9⟩

set_option maxRecDepth 100000 in
set_option maxHeartbeats 4000000 in
theorem s_X12_number : ∀ av σ Q, w_X12_number av σ Q → amCall 1 0 0 TT yX12_number cX12_number 5 (some .int) av σ Q := by
  rintro av σ Q ⟨a, b, rfl, ht, h0, h1, hf, a0, a1, b0, b1, hq1, hq2, hq3, hq4⟩
  have hsb : σ 5000 10 ≤ msk σ ∧ msk σ ≤ σ 5000 9 := sk_b (mtx σ) h1
  have tb := mtx_b ht (msk σ)
  have n1 := ht.2.1
  have et : ∀ v, mtx (up σ 5000 10 v) = mtx σ := fun v => mtx_u10 ht v
  have hto : ∀ v, txOk (up σ 5000 10 v) = True := fun v => eq_true (txOk_u10 ht v)
  have hte := mtx_n ht
  have u9 : ∀ v, up σ 5000 10 v 5000 9 = σ 5000 9 := fun v => up_nj _ (by decide)
  have u11 : ∀ v, up σ 5000 10 v 5000 11 = -1 := fun v => by rw [up_nj _ (by decide)]; exact hf
  have ff := fun x => fa_u hf x
  generalize hg : msk σ = p at *
  by_cases c0 : dg (mtx σ p)
  · have s2 := sk_lt hte (q := p) (by omega)
    have tb1 := mtx_b ht (p + 1)
    have tb2 := mtx_b ht (p + 2)
    have e2 : p + 1 + 1 = p + 2 := by omega
    by_cases c1 : dg (mtx σ (p + 1))
    · have s3 := sk_lt hte (q := p + 1) (by omega)
      by_cases c2 : dg (mtx σ (p + 2))
      · have q8 := hq3 c0 c1 c2
        refine am_m0 (own := RX12) (A := look a_X12_number) (fun X e1 e2 hB => o_X12_number e1 e2 hB) rfl (by decide +kernel) rfl rfl 300 (w := 5) ?_
        change vcs _ _ _ _ 300 0 [(28, 5000), (0, a), (0, b), (6, 0), (6, 0)] [] σ
        simp only [↓reduceIte, inR_0, inR_1, inR_m, vSw2_e, swP_n, swP_c, vI_e, vL_e, vNull_e, vIload_e, vLload_e, vAload_e, vIstore_e, vLstore_e, vAstore_e, vIinc_e, vIadd_e, vIsub_e, vImul_e, vIand_e, vIor_e, vIxor_e, vIshl_e, vIshr_e, vIushr_e, vIdiv_e, vIrem_e, vLadd_e, vLsub_e, vLmul_e, vLand_e, vLor_e, vLxor_e, vLdiv_e, vLrem_e, vLushr_e, vLshl_e, vLcmp_e, vIneg_e, vI2l_e, vL2i_e, vI2b_e, vI2c_e, vDup_e, vPop_e, vDup2_e, vGoto_e, vIcEq_e, vIfEq_e, vIcNe_e, vIfNe_e, vIcLt_e, vIfLt_e, vIcGe_e, vIfGe_e, vIcGt_e, vIfGt_e, vIcLe_e, vIfLe_e, vNonnull_e, vSw_e, vGetI_e, vGetL_e, vGetR_e, vPutI_e, vPutZ_e, vPutL_e, vPutR_e, vIald_e, vIald_s, vLald_e, vBald_e, vBald_s, vAald_e, vIast_e, vLast_e, vBast_e, vAast_e, vAlen_e8, vAlen_e9, vAlen_e10, vAlen_e11, vAlen_e5, vAlen_e3, vGets_e, vCompact_e, vLdcS_e, vIret_e, vZret_e, vCret_e, vBret_e, vLret_e, vVret_e, vAret_e, vCallM_e0, vCallMV_e0, vCallS_e0, vCallSV_e0, vCallM_e1, vCallMV_e1, vCallS_e1, vCallSV_e1, vCallM_e2, vCallMV_e2, vCallS_e2, vCallSV_e2, vCallM_e3, vCallMV_e3, vCallS_e3, vCallSV_e3, vCallM_e4, vCallMV_e4, vCallS_e4, vCallSV_e4, vCallM_e5, vCallMV_e5, vCallS_e5, vCallSV_e5, vCallM_e6, vCallMV_e6, vCallS_e6, vCallSV_e6, vCallM_e7, vCallMV_e7, vCallS_e7, vCallSV_e7, vBad_e, vStrVal_e, vStrCod_e, vForm_e, vCallT_e0, vCallT_e1, vCallT_e2, vCopy_e, rf_0_0, rf_0_1, rf_0_2, rf_0_3, rf_0_4, rf_0_7, rf_0_10, rf_0_11, rf_0_12, rf_0_13, rf_0_14, rf_0_15, rf_0_16, rf_1_0, rf_3_0, rf_3_1, rf_6_0, rf_6_1, rf_9_0, rf_9_1, rf_9_3, rf_13_0, rf_13_1, rf_13_2, rf_16_0, rf_16_1, rf_16_2, rf_16_3, rf_21_0, rf_21_1, rf_21_2, rf_21_3, rf_26_0, rf_26_1, rf_26_2, rf_26_3, rf_26_4, rf_26_5, rf_26_6, rf_31_0, rf_31_2, rf_31_5, rf_31_6, rf_36_0, rf_36_1, rf_36_2, rf_36_3, rf_39_0, rf_39_1, rf_39_2, rf_41_0, rf_41_1, rf_41_2, rf_41_3, rf_5000_1, rf_5000_2, rf_5000_3, rf_5000_4, rf_5000_5, rf_5000_15, rf_5000_16, rf_5000_18, rf_5000_19, rf_5000_20, rf_5000_21, rf_5000_22, rf_5000_23, rf_5000_24, rf_5000_25, rf_5000_26, rf_5000_27, rf_5000_36, rf_5000_37, rf_5000_40, rf_5000_41, rf_5000_42, rf_5000_43, rf_5000_44, rf_5000_45, rf_5000_47, rf_5000_52, rf_5000_54, rf_5000_55, rf_100_0, rf_100_1, rf_103_0, rf_103_1, rf_106_0, rf_106_1, rf_109_0, rf_109_1, al_2, al_4, al_5, al_7, al_8, al_10, al_11, al_12, al_14, al_15, al_17, al_18, al_19, al_20, al_22, al_23, al_24, al_25, al_27, al_28, al_29, al_30, al_32, al_33, al_34, al_35, al_37, al_38, al_40, al_42, al_5001, al_5002, al_5003, al_5004, al_5005, al_5006, al_5007, al_5008, al_5009, al_5010, al_5011, al_5012, al_5013, al_5014, al_5015, al_5016, al_5017, al_5018, al_5019, al_5020, al_5021, al_5022, al_5023, al_5024, al_5025, al_5026, al_9000, al_101, al_102, al_104, al_105, al_107, al_108, al_110, al_111, vcs_e, lg_c0, lg_cs, lg_nil, set_c0, set_cs, okst_0, okst_s, acok_n, acok_c, List.contains_nil, List.contains_cons, Bool.or_false, Bool.false_or, Bool.false_eq_true, if_false, if_true, ite_self, ne_eq, true_and, and_true, not_false_eq_true, not_true_eq_false, false_imp_iff, true_imp_iff, Nat.ble_eq, Bool.and_eq_true, reduceCtorEq, or_false, false_or, or_true, true_or, false_and, and_false, and_self, Int.reduceLE, Int.reduceAdd, Int.reduceSub, Int.reduceMul, Int.reduceNeg, Int.reduceLT, Int.reduceEq, Int.reduceNe, Nat.reduceBEq, Nat.reduceBNe, Nat.reduceEqDiff, amCmp_in, amCmp_lt, amCmp_le, amCmp_gt, amCmp_ge, amCmp_eq, amCmp_ne, Nat.reduceLeDiff, Nat.reduceSub, Bool.and_true, Bool.true_and, Bool.and_self, Bool.or_true, Bool.true_or, isRf_3, isRf_4, isRf_5, isRf_8, isRf_9, isRf_10, isRf_11, isRf_15, isRf_16, isRf_17, isRf_18, isRf_19, isRf_20, isRf_21, isRf_22, isRf_23, isRf_24, isRf_25, isRf_26, isRf_27, isRf_28, k_X12_number_0, k_X12_number_1, k_X12_number_4, k_X12_number_5, k_X12_number_6, k_X12_number_9, k_X12_number_12, k_X12_number_13, k_X12_number_16, k_X12_number_17, k_X12_number_18, k_X12_number_19, k_X12_number_20, k_X12_number_22, k_X12_number_23, k_X12_number_25, k_X12_number_26, k_X12_number_27, k_X12_number_30, k_X12_number_31, k_X12_number_32, k_X12_number_35, k_X12_number_36, k_X12_number_39, k_X12_number_42, k_X12_number_44, k_X12_number_46, k_X12_number_47, k_X12_number_48, k_X12_number_51, k_X12_number_52, k_X12_number_54, k_X12_number_55, k_X12_number_57, k_X12_number_58, k_X12_number_59, k_X12_number_62, k_X12_number_63, k_X12_number_64, k_X12_number_67, k_X12_number_68, k_X12_number_71, k_X12_number_74, k_X12_number_75, k_X12_number_78, k_X12_number_79, k_X12_number_80, k_X12_number_81, k_X12_number_83, k_X12_number_84, k_X12_number_85, k_X12_number_86, k_X12_number_87, k_X12_number_88, k_X12_number_91, k_X12_number_94, k_X12_number_95, k_X12_number_96, k_X12_number_99, k_X12_number_100, k_X12_number_101, k_X12_number_104, k_X12_number_105, k_X12_number_108, k_X12_number_109, k_X12_number_111, w_X12_fails_e, w_X12_here_e, w_X12_isDigit_e, w_X12_isIn_e, w_X12_look_e, up_s, up_nj, up_na, up_up, savR_o, cpy_o, fillm_o, setAud_o, setv_o, setv_s, Int.reduceNe, Int.reduceEq, Int.reduceLT, Int.reduceAdd, not_false_eq_true, ne_eq, or_true, true_or, hg, et, hto, u9, u11, up_s, up_up, ff, e2, if_pos c0, if_pos c1, if_pos c2]
        repeat' (first | assumption | exact ht | apply And.intro | intro _)
        all_goals first | omega | exact absurd trivial (by assumption) | exact q8
      · obtain ⟨q8, q9⟩ := hq4 c0 c1 c2
        have e3 : p + 2 - 1 = p + 1 := by omega
        by_cases c3 : a ≤ 10 * (mtx σ p - 48) + mtx σ (p + 1) - 48 ∧ 10 * (mtx σ p - 48) + mtx σ (p + 1) - 48 ≤ b
        · have q7 := q8 c3
          refine am_m0 (own := RX12) (A := look a_X12_number) (fun X e1 e2 hB => o_X12_number e1 e2 hB) rfl (by decide +kernel) rfl rfl 300 (w := 5) ?_
          change vcs _ _ _ _ 300 0 [(28, 5000), (0, a), (0, b), (6, 0), (6, 0)] [] σ
          simp only [↓reduceIte, inR_0, inR_1, inR_m, vSw2_e, swP_n, swP_c, vI_e, vL_e, vNull_e, vIload_e, vLload_e, vAload_e, vIstore_e, vLstore_e, vAstore_e, vIinc_e, vIadd_e, vIsub_e, vImul_e, vIand_e, vIor_e, vIxor_e, vIshl_e, vIshr_e, vIushr_e, vIdiv_e, vIrem_e, vLadd_e, vLsub_e, vLmul_e, vLand_e, vLor_e, vLxor_e, vLdiv_e, vLrem_e, vLushr_e, vLshl_e, vLcmp_e, vIneg_e, vI2l_e, vL2i_e, vI2b_e, vI2c_e, vDup_e, vPop_e, vDup2_e, vGoto_e, vIcEq_e, vIfEq_e, vIcNe_e, vIfNe_e, vIcLt_e, vIfLt_e, vIcGe_e, vIfGe_e, vIcGt_e, vIfGt_e, vIcLe_e, vIfLe_e, vNonnull_e, vSw_e, vGetI_e, vGetL_e, vGetR_e, vPutI_e, vPutZ_e, vPutL_e, vPutR_e, vIald_e, vIald_s, vLald_e, vBald_e, vBald_s, vAald_e, vIast_e, vLast_e, vBast_e, vAast_e, vAlen_e8, vAlen_e9, vAlen_e10, vAlen_e11, vAlen_e5, vAlen_e3, vGets_e, vCompact_e, vLdcS_e, vIret_e, vZret_e, vCret_e, vBret_e, vLret_e, vVret_e, vAret_e, vCallM_e0, vCallMV_e0, vCallS_e0, vCallSV_e0, vCallM_e1, vCallMV_e1, vCallS_e1, vCallSV_e1, vCallM_e2, vCallMV_e2, vCallS_e2, vCallSV_e2, vCallM_e3, vCallMV_e3, vCallS_e3, vCallSV_e3, vCallM_e4, vCallMV_e4, vCallS_e4, vCallSV_e4, vCallM_e5, vCallMV_e5, vCallS_e5, vCallSV_e5, vCallM_e6, vCallMV_e6, vCallS_e6, vCallSV_e6, vCallM_e7, vCallMV_e7, vCallS_e7, vCallSV_e7, vBad_e, vStrVal_e, vStrCod_e, vForm_e, vCallT_e0, vCallT_e1, vCallT_e2, vCopy_e, rf_0_0, rf_0_1, rf_0_2, rf_0_3, rf_0_4, rf_0_7, rf_0_10, rf_0_11, rf_0_12, rf_0_13, rf_0_14, rf_0_15, rf_0_16, rf_1_0, rf_3_0, rf_3_1, rf_6_0, rf_6_1, rf_9_0, rf_9_1, rf_9_3, rf_13_0, rf_13_1, rf_13_2, rf_16_0, rf_16_1, rf_16_2, rf_16_3, rf_21_0, rf_21_1, rf_21_2, rf_21_3, rf_26_0, rf_26_1, rf_26_2, rf_26_3, rf_26_4, rf_26_5, rf_26_6, rf_31_0, rf_31_2, rf_31_5, rf_31_6, rf_36_0, rf_36_1, rf_36_2, rf_36_3, rf_39_0, rf_39_1, rf_39_2, rf_41_0, rf_41_1, rf_41_2, rf_41_3, rf_5000_1, rf_5000_2, rf_5000_3, rf_5000_4, rf_5000_5, rf_5000_15, rf_5000_16, rf_5000_18, rf_5000_19, rf_5000_20, rf_5000_21, rf_5000_22, rf_5000_23, rf_5000_24, rf_5000_25, rf_5000_26, rf_5000_27, rf_5000_36, rf_5000_37, rf_5000_40, rf_5000_41, rf_5000_42, rf_5000_43, rf_5000_44, rf_5000_45, rf_5000_47, rf_5000_52, rf_5000_54, rf_5000_55, rf_100_0, rf_100_1, rf_103_0, rf_103_1, rf_106_0, rf_106_1, rf_109_0, rf_109_1, al_2, al_4, al_5, al_7, al_8, al_10, al_11, al_12, al_14, al_15, al_17, al_18, al_19, al_20, al_22, al_23, al_24, al_25, al_27, al_28, al_29, al_30, al_32, al_33, al_34, al_35, al_37, al_38, al_40, al_42, al_5001, al_5002, al_5003, al_5004, al_5005, al_5006, al_5007, al_5008, al_5009, al_5010, al_5011, al_5012, al_5013, al_5014, al_5015, al_5016, al_5017, al_5018, al_5019, al_5020, al_5021, al_5022, al_5023, al_5024, al_5025, al_5026, al_9000, al_101, al_102, al_104, al_105, al_107, al_108, al_110, al_111, vcs_e, lg_c0, lg_cs, lg_nil, set_c0, set_cs, okst_0, okst_s, acok_n, acok_c, List.contains_nil, List.contains_cons, Bool.or_false, Bool.false_or, Bool.false_eq_true, if_false, if_true, ite_self, ne_eq, true_and, and_true, not_false_eq_true, not_true_eq_false, false_imp_iff, true_imp_iff, Nat.ble_eq, Bool.and_eq_true, reduceCtorEq, or_false, false_or, or_true, true_or, false_and, and_false, and_self, Int.reduceLE, Int.reduceAdd, Int.reduceSub, Int.reduceMul, Int.reduceNeg, Int.reduceLT, Int.reduceEq, Int.reduceNe, Nat.reduceBEq, Nat.reduceBNe, Nat.reduceEqDiff, amCmp_in, amCmp_lt, amCmp_le, amCmp_gt, amCmp_ge, amCmp_eq, amCmp_ne, Nat.reduceLeDiff, Nat.reduceSub, Bool.and_true, Bool.true_and, Bool.and_self, Bool.or_true, Bool.true_or, isRf_3, isRf_4, isRf_5, isRf_8, isRf_9, isRf_10, isRf_11, isRf_15, isRf_16, isRf_17, isRf_18, isRf_19, isRf_20, isRf_21, isRf_22, isRf_23, isRf_24, isRf_25, isRf_26, isRf_27, isRf_28, k_X12_number_0, k_X12_number_1, k_X12_number_4, k_X12_number_5, k_X12_number_6, k_X12_number_9, k_X12_number_12, k_X12_number_13, k_X12_number_16, k_X12_number_17, k_X12_number_18, k_X12_number_19, k_X12_number_20, k_X12_number_22, k_X12_number_23, k_X12_number_25, k_X12_number_26, k_X12_number_27, k_X12_number_30, k_X12_number_31, k_X12_number_32, k_X12_number_35, k_X12_number_36, k_X12_number_39, k_X12_number_42, k_X12_number_44, k_X12_number_46, k_X12_number_47, k_X12_number_48, k_X12_number_51, k_X12_number_52, k_X12_number_54, k_X12_number_55, k_X12_number_57, k_X12_number_58, k_X12_number_59, k_X12_number_62, k_X12_number_63, k_X12_number_64, k_X12_number_67, k_X12_number_68, k_X12_number_71, k_X12_number_74, k_X12_number_75, k_X12_number_78, k_X12_number_79, k_X12_number_80, k_X12_number_81, k_X12_number_83, k_X12_number_84, k_X12_number_85, k_X12_number_86, k_X12_number_87, k_X12_number_88, k_X12_number_91, k_X12_number_94, k_X12_number_95, k_X12_number_96, k_X12_number_99, k_X12_number_100, k_X12_number_101, k_X12_number_104, k_X12_number_105, k_X12_number_108, k_X12_number_109, k_X12_number_111, w_X12_fails_e, w_X12_here_e, w_X12_isDigit_e, w_X12_isIn_e, w_X12_look_e, up_s, up_nj, up_na, up_up, savR_o, cpy_o, fillm_o, setAud_o, setv_o, setv_s, Int.reduceNe, Int.reduceEq, Int.reduceLT, Int.reduceAdd, not_false_eq_true, ne_eq, or_true, true_or, hg, et, hto, u9, u11, up_s, up_up, ff, e2, e3, if_pos c0, if_pos c1, if_neg c2, if_pos c3]
          repeat' (first | assumption | exact ht | apply And.intro | intro _)
          all_goals first | omega | exact absurd trivial (by assumption) | exact q7
        · have q7 := q9 c3
          refine am_m0 (own := RX12) (A := look a_X12_number) (fun X e1 e2 hB => o_X12_number e1 e2 hB) rfl (by decide +kernel) rfl rfl 300 (w := 5) ?_
          change vcs _ _ _ _ 300 0 [(28, 5000), (0, a), (0, b), (6, 0), (6, 0)] [] σ
          simp only [↓reduceIte, inR_0, inR_1, inR_m, vSw2_e, swP_n, swP_c, vI_e, vL_e, vNull_e, vIload_e, vLload_e, vAload_e, vIstore_e, vLstore_e, vAstore_e, vIinc_e, vIadd_e, vIsub_e, vImul_e, vIand_e, vIor_e, vIxor_e, vIshl_e, vIshr_e, vIushr_e, vIdiv_e, vIrem_e, vLadd_e, vLsub_e, vLmul_e, vLand_e, vLor_e, vLxor_e, vLdiv_e, vLrem_e, vLushr_e, vLshl_e, vLcmp_e, vIneg_e, vI2l_e, vL2i_e, vI2b_e, vI2c_e, vDup_e, vPop_e, vDup2_e, vGoto_e, vIcEq_e, vIfEq_e, vIcNe_e, vIfNe_e, vIcLt_e, vIfLt_e, vIcGe_e, vIfGe_e, vIcGt_e, vIfGt_e, vIcLe_e, vIfLe_e, vNonnull_e, vSw_e, vGetI_e, vGetL_e, vGetR_e, vPutI_e, vPutZ_e, vPutL_e, vPutR_e, vIald_e, vIald_s, vLald_e, vBald_e, vBald_s, vAald_e, vIast_e, vLast_e, vBast_e, vAast_e, vAlen_e8, vAlen_e9, vAlen_e10, vAlen_e11, vAlen_e5, vAlen_e3, vGets_e, vCompact_e, vLdcS_e, vIret_e, vZret_e, vCret_e, vBret_e, vLret_e, vVret_e, vAret_e, vCallM_e0, vCallMV_e0, vCallS_e0, vCallSV_e0, vCallM_e1, vCallMV_e1, vCallS_e1, vCallSV_e1, vCallM_e2, vCallMV_e2, vCallS_e2, vCallSV_e2, vCallM_e3, vCallMV_e3, vCallS_e3, vCallSV_e3, vCallM_e4, vCallMV_e4, vCallS_e4, vCallSV_e4, vCallM_e5, vCallMV_e5, vCallS_e5, vCallSV_e5, vCallM_e6, vCallMV_e6, vCallS_e6, vCallSV_e6, vCallM_e7, vCallMV_e7, vCallS_e7, vCallSV_e7, vBad_e, vStrVal_e, vStrCod_e, vForm_e, vCallT_e0, vCallT_e1, vCallT_e2, vCopy_e, rf_0_0, rf_0_1, rf_0_2, rf_0_3, rf_0_4, rf_0_7, rf_0_10, rf_0_11, rf_0_12, rf_0_13, rf_0_14, rf_0_15, rf_0_16, rf_1_0, rf_3_0, rf_3_1, rf_6_0, rf_6_1, rf_9_0, rf_9_1, rf_9_3, rf_13_0, rf_13_1, rf_13_2, rf_16_0, rf_16_1, rf_16_2, rf_16_3, rf_21_0, rf_21_1, rf_21_2, rf_21_3, rf_26_0, rf_26_1, rf_26_2, rf_26_3, rf_26_4, rf_26_5, rf_26_6, rf_31_0, rf_31_2, rf_31_5, rf_31_6, rf_36_0, rf_36_1, rf_36_2, rf_36_3, rf_39_0, rf_39_1, rf_39_2, rf_41_0, rf_41_1, rf_41_2, rf_41_3, rf_5000_1, rf_5000_2, rf_5000_3, rf_5000_4, rf_5000_5, rf_5000_15, rf_5000_16, rf_5000_18, rf_5000_19, rf_5000_20, rf_5000_21, rf_5000_22, rf_5000_23, rf_5000_24, rf_5000_25, rf_5000_26, rf_5000_27, rf_5000_36, rf_5000_37, rf_5000_40, rf_5000_41, rf_5000_42, rf_5000_43, rf_5000_44, rf_5000_45, rf_5000_47, rf_5000_52, rf_5000_54, rf_5000_55, rf_100_0, rf_100_1, rf_103_0, rf_103_1, rf_106_0, rf_106_1, rf_109_0, rf_109_1, al_2, al_4, al_5, al_7, al_8, al_10, al_11, al_12, al_14, al_15, al_17, al_18, al_19, al_20, al_22, al_23, al_24, al_25, al_27, al_28, al_29, al_30, al_32, al_33, al_34, al_35, al_37, al_38, al_40, al_42, al_5001, al_5002, al_5003, al_5004, al_5005, al_5006, al_5007, al_5008, al_5009, al_5010, al_5011, al_5012, al_5013, al_5014, al_5015, al_5016, al_5017, al_5018, al_5019, al_5020, al_5021, al_5022, al_5023, al_5024, al_5025, al_5026, al_9000, al_101, al_102, al_104, al_105, al_107, al_108, al_110, al_111, vcs_e, lg_c0, lg_cs, lg_nil, set_c0, set_cs, okst_0, okst_s, acok_n, acok_c, List.contains_nil, List.contains_cons, Bool.or_false, Bool.false_or, Bool.false_eq_true, if_false, if_true, ite_self, ne_eq, true_and, and_true, not_false_eq_true, not_true_eq_false, false_imp_iff, true_imp_iff, Nat.ble_eq, Bool.and_eq_true, reduceCtorEq, or_false, false_or, or_true, true_or, false_and, and_false, and_self, Int.reduceLE, Int.reduceAdd, Int.reduceSub, Int.reduceMul, Int.reduceNeg, Int.reduceLT, Int.reduceEq, Int.reduceNe, Nat.reduceBEq, Nat.reduceBNe, Nat.reduceEqDiff, amCmp_in, amCmp_lt, amCmp_le, amCmp_gt, amCmp_ge, amCmp_eq, amCmp_ne, Nat.reduceLeDiff, Nat.reduceSub, Bool.and_true, Bool.true_and, Bool.and_self, Bool.or_true, Bool.true_or, isRf_3, isRf_4, isRf_5, isRf_8, isRf_9, isRf_10, isRf_11, isRf_15, isRf_16, isRf_17, isRf_18, isRf_19, isRf_20, isRf_21, isRf_22, isRf_23, isRf_24, isRf_25, isRf_26, isRf_27, isRf_28, k_X12_number_0, k_X12_number_1, k_X12_number_4, k_X12_number_5, k_X12_number_6, k_X12_number_9, k_X12_number_12, k_X12_number_13, k_X12_number_16, k_X12_number_17, k_X12_number_18, k_X12_number_19, k_X12_number_20, k_X12_number_22, k_X12_number_23, k_X12_number_25, k_X12_number_26, k_X12_number_27, k_X12_number_30, k_X12_number_31, k_X12_number_32, k_X12_number_35, k_X12_number_36, k_X12_number_39, k_X12_number_42, k_X12_number_44, k_X12_number_46, k_X12_number_47, k_X12_number_48, k_X12_number_51, k_X12_number_52, k_X12_number_54, k_X12_number_55, k_X12_number_57, k_X12_number_58, k_X12_number_59, k_X12_number_62, k_X12_number_63, k_X12_number_64, k_X12_number_67, k_X12_number_68, k_X12_number_71, k_X12_number_74, k_X12_number_75, k_X12_number_78, k_X12_number_79, k_X12_number_80, k_X12_number_81, k_X12_number_83, k_X12_number_84, k_X12_number_85, k_X12_number_86, k_X12_number_87, k_X12_number_88, k_X12_number_91, k_X12_number_94, k_X12_number_95, k_X12_number_96, k_X12_number_99, k_X12_number_100, k_X12_number_101, k_X12_number_104, k_X12_number_105, k_X12_number_108, k_X12_number_109, k_X12_number_111, w_X12_fails_e, w_X12_here_e, w_X12_isDigit_e, w_X12_isIn_e, w_X12_look_e, up_s, up_nj, up_na, up_up, savR_o, cpy_o, fillm_o, setAud_o, setv_o, setv_s, Int.reduceNe, Int.reduceEq, Int.reduceLT, Int.reduceAdd, not_false_eq_true, ne_eq, or_true, true_or, hg, et, hto, u9, u11, up_s, up_up, ff, e2, e3, if_pos c0, if_pos c1, if_neg c2, if_neg c3]
          repeat' (first | assumption | exact ht | apply And.intro | intro _)
          all_goals first | omega | exact absurd trivial (by assumption) | exact q7
    · obtain ⟨q8, q9⟩ := hq2 c0 c1
      have e3 : p + 1 - 1 = p := by omega
      by_cases c3 : a ≤ mtx σ p - 48 ∧ mtx σ p - 48 ≤ b
      · have q7 := q8 c3
        refine am_m0 (own := RX12) (A := look a_X12_number) (fun X e1 e2 hB => o_X12_number e1 e2 hB) rfl (by decide +kernel) rfl rfl 300 (w := 5) ?_
        change vcs _ _ _ _ 300 0 [(28, 5000), (0, a), (0, b), (6, 0), (6, 0)] [] σ
        simp only [↓reduceIte, inR_0, inR_1, inR_m, vSw2_e, swP_n, swP_c, vI_e, vL_e, vNull_e, vIload_e, vLload_e, vAload_e, vIstore_e, vLstore_e, vAstore_e, vIinc_e, vIadd_e, vIsub_e, vImul_e, vIand_e, vIor_e, vIxor_e, vIshl_e, vIshr_e, vIushr_e, vIdiv_e, vIrem_e, vLadd_e, vLsub_e, vLmul_e, vLand_e, vLor_e, vLxor_e, vLdiv_e, vLrem_e, vLushr_e, vLshl_e, vLcmp_e, vIneg_e, vI2l_e, vL2i_e, vI2b_e, vI2c_e, vDup_e, vPop_e, vDup2_e, vGoto_e, vIcEq_e, vIfEq_e, vIcNe_e, vIfNe_e, vIcLt_e, vIfLt_e, vIcGe_e, vIfGe_e, vIcGt_e, vIfGt_e, vIcLe_e, vIfLe_e, vNonnull_e, vSw_e, vGetI_e, vGetL_e, vGetR_e, vPutI_e, vPutZ_e, vPutL_e, vPutR_e, vIald_e, vIald_s, vLald_e, vBald_e, vBald_s, vAald_e, vIast_e, vLast_e, vBast_e, vAast_e, vAlen_e8, vAlen_e9, vAlen_e10, vAlen_e11, vAlen_e5, vAlen_e3, vGets_e, vCompact_e, vLdcS_e, vIret_e, vZret_e, vCret_e, vBret_e, vLret_e, vVret_e, vAret_e, vCallM_e0, vCallMV_e0, vCallS_e0, vCallSV_e0, vCallM_e1, vCallMV_e1, vCallS_e1, vCallSV_e1, vCallM_e2, vCallMV_e2, vCallS_e2, vCallSV_e2, vCallM_e3, vCallMV_e3, vCallS_e3, vCallSV_e3, vCallM_e4, vCallMV_e4, vCallS_e4, vCallSV_e4, vCallM_e5, vCallMV_e5, vCallS_e5, vCallSV_e5, vCallM_e6, vCallMV_e6, vCallS_e6, vCallSV_e6, vCallM_e7, vCallMV_e7, vCallS_e7, vCallSV_e7, vBad_e, vStrVal_e, vStrCod_e, vForm_e, vCallT_e0, vCallT_e1, vCallT_e2, vCopy_e, rf_0_0, rf_0_1, rf_0_2, rf_0_3, rf_0_4, rf_0_7, rf_0_10, rf_0_11, rf_0_12, rf_0_13, rf_0_14, rf_0_15, rf_0_16, rf_1_0, rf_3_0, rf_3_1, rf_6_0, rf_6_1, rf_9_0, rf_9_1, rf_9_3, rf_13_0, rf_13_1, rf_13_2, rf_16_0, rf_16_1, rf_16_2, rf_16_3, rf_21_0, rf_21_1, rf_21_2, rf_21_3, rf_26_0, rf_26_1, rf_26_2, rf_26_3, rf_26_4, rf_26_5, rf_26_6, rf_31_0, rf_31_2, rf_31_5, rf_31_6, rf_36_0, rf_36_1, rf_36_2, rf_36_3, rf_39_0, rf_39_1, rf_39_2, rf_41_0, rf_41_1, rf_41_2, rf_41_3, rf_5000_1, rf_5000_2, rf_5000_3, rf_5000_4, rf_5000_5, rf_5000_15, rf_5000_16, rf_5000_18, rf_5000_19, rf_5000_20, rf_5000_21, rf_5000_22, rf_5000_23, rf_5000_24, rf_5000_25, rf_5000_26, rf_5000_27, rf_5000_36, rf_5000_37, rf_5000_40, rf_5000_41, rf_5000_42, rf_5000_43, rf_5000_44, rf_5000_45, rf_5000_47, rf_5000_52, rf_5000_54, rf_5000_55, rf_100_0, rf_100_1, rf_103_0, rf_103_1, rf_106_0, rf_106_1, rf_109_0, rf_109_1, al_2, al_4, al_5, al_7, al_8, al_10, al_11, al_12, al_14, al_15, al_17, al_18, al_19, al_20, al_22, al_23, al_24, al_25, al_27, al_28, al_29, al_30, al_32, al_33, al_34, al_35, al_37, al_38, al_40, al_42, al_5001, al_5002, al_5003, al_5004, al_5005, al_5006, al_5007, al_5008, al_5009, al_5010, al_5011, al_5012, al_5013, al_5014, al_5015, al_5016, al_5017, al_5018, al_5019, al_5020, al_5021, al_5022, al_5023, al_5024, al_5025, al_5026, al_9000, al_101, al_102, al_104, al_105, al_107, al_108, al_110, al_111, vcs_e, lg_c0, lg_cs, lg_nil, set_c0, set_cs, okst_0, okst_s, acok_n, acok_c, List.contains_nil, List.contains_cons, Bool.or_false, Bool.false_or, Bool.false_eq_true, if_false, if_true, ite_self, ne_eq, true_and, and_true, not_false_eq_true, not_true_eq_false, false_imp_iff, true_imp_iff, Nat.ble_eq, Bool.and_eq_true, reduceCtorEq, or_false, false_or, or_true, true_or, false_and, and_false, and_self, Int.reduceLE, Int.reduceAdd, Int.reduceSub, Int.reduceMul, Int.reduceNeg, Int.reduceLT, Int.reduceEq, Int.reduceNe, Nat.reduceBEq, Nat.reduceBNe, Nat.reduceEqDiff, amCmp_in, amCmp_lt, amCmp_le, amCmp_gt, amCmp_ge, amCmp_eq, amCmp_ne, Nat.reduceLeDiff, Nat.reduceSub, Bool.and_true, Bool.true_and, Bool.and_self, Bool.or_true, Bool.true_or, isRf_3, isRf_4, isRf_5, isRf_8, isRf_9, isRf_10, isRf_11, isRf_15, isRf_16, isRf_17, isRf_18, isRf_19, isRf_20, isRf_21, isRf_22, isRf_23, isRf_24, isRf_25, isRf_26, isRf_27, isRf_28, k_X12_number_0, k_X12_number_1, k_X12_number_4, k_X12_number_5, k_X12_number_6, k_X12_number_9, k_X12_number_12, k_X12_number_13, k_X12_number_16, k_X12_number_17, k_X12_number_18, k_X12_number_19, k_X12_number_20, k_X12_number_22, k_X12_number_23, k_X12_number_25, k_X12_number_26, k_X12_number_27, k_X12_number_30, k_X12_number_31, k_X12_number_32, k_X12_number_35, k_X12_number_36, k_X12_number_39, k_X12_number_42, k_X12_number_44, k_X12_number_46, k_X12_number_47, k_X12_number_48, k_X12_number_51, k_X12_number_52, k_X12_number_54, k_X12_number_55, k_X12_number_57, k_X12_number_58, k_X12_number_59, k_X12_number_62, k_X12_number_63, k_X12_number_64, k_X12_number_67, k_X12_number_68, k_X12_number_71, k_X12_number_74, k_X12_number_75, k_X12_number_78, k_X12_number_79, k_X12_number_80, k_X12_number_81, k_X12_number_83, k_X12_number_84, k_X12_number_85, k_X12_number_86, k_X12_number_87, k_X12_number_88, k_X12_number_91, k_X12_number_94, k_X12_number_95, k_X12_number_96, k_X12_number_99, k_X12_number_100, k_X12_number_101, k_X12_number_104, k_X12_number_105, k_X12_number_108, k_X12_number_109, k_X12_number_111, w_X12_fails_e, w_X12_here_e, w_X12_isDigit_e, w_X12_isIn_e, w_X12_look_e, up_s, up_nj, up_na, up_up, savR_o, cpy_o, fillm_o, setAud_o, setv_o, setv_s, Int.reduceNe, Int.reduceEq, Int.reduceLT, Int.reduceAdd, not_false_eq_true, ne_eq, or_true, true_or, hg, et, hto, u9, u11, up_s, up_up, ff, e2, e3, if_pos c0, if_neg c1, if_pos c3]
        repeat' (first | assumption | exact ht | apply And.intro | intro _)
        all_goals first | omega | exact absurd trivial (by assumption) | exact q7
      · have q7 := q9 c3
        refine am_m0 (own := RX12) (A := look a_X12_number) (fun X e1 e2 hB => o_X12_number e1 e2 hB) rfl (by decide +kernel) rfl rfl 300 (w := 5) ?_
        change vcs _ _ _ _ 300 0 [(28, 5000), (0, a), (0, b), (6, 0), (6, 0)] [] σ
        simp only [↓reduceIte, inR_0, inR_1, inR_m, vSw2_e, swP_n, swP_c, vI_e, vL_e, vNull_e, vIload_e, vLload_e, vAload_e, vIstore_e, vLstore_e, vAstore_e, vIinc_e, vIadd_e, vIsub_e, vImul_e, vIand_e, vIor_e, vIxor_e, vIshl_e, vIshr_e, vIushr_e, vIdiv_e, vIrem_e, vLadd_e, vLsub_e, vLmul_e, vLand_e, vLor_e, vLxor_e, vLdiv_e, vLrem_e, vLushr_e, vLshl_e, vLcmp_e, vIneg_e, vI2l_e, vL2i_e, vI2b_e, vI2c_e, vDup_e, vPop_e, vDup2_e, vGoto_e, vIcEq_e, vIfEq_e, vIcNe_e, vIfNe_e, vIcLt_e, vIfLt_e, vIcGe_e, vIfGe_e, vIcGt_e, vIfGt_e, vIcLe_e, vIfLe_e, vNonnull_e, vSw_e, vGetI_e, vGetL_e, vGetR_e, vPutI_e, vPutZ_e, vPutL_e, vPutR_e, vIald_e, vIald_s, vLald_e, vBald_e, vBald_s, vAald_e, vIast_e, vLast_e, vBast_e, vAast_e, vAlen_e8, vAlen_e9, vAlen_e10, vAlen_e11, vAlen_e5, vAlen_e3, vGets_e, vCompact_e, vLdcS_e, vIret_e, vZret_e, vCret_e, vBret_e, vLret_e, vVret_e, vAret_e, vCallM_e0, vCallMV_e0, vCallS_e0, vCallSV_e0, vCallM_e1, vCallMV_e1, vCallS_e1, vCallSV_e1, vCallM_e2, vCallMV_e2, vCallS_e2, vCallSV_e2, vCallM_e3, vCallMV_e3, vCallS_e3, vCallSV_e3, vCallM_e4, vCallMV_e4, vCallS_e4, vCallSV_e4, vCallM_e5, vCallMV_e5, vCallS_e5, vCallSV_e5, vCallM_e6, vCallMV_e6, vCallS_e6, vCallSV_e6, vCallM_e7, vCallMV_e7, vCallS_e7, vCallSV_e7, vBad_e, vStrVal_e, vStrCod_e, vForm_e, vCallT_e0, vCallT_e1, vCallT_e2, vCopy_e, rf_0_0, rf_0_1, rf_0_2, rf_0_3, rf_0_4, rf_0_7, rf_0_10, rf_0_11, rf_0_12, rf_0_13, rf_0_14, rf_0_15, rf_0_16, rf_1_0, rf_3_0, rf_3_1, rf_6_0, rf_6_1, rf_9_0, rf_9_1, rf_9_3, rf_13_0, rf_13_1, rf_13_2, rf_16_0, rf_16_1, rf_16_2, rf_16_3, rf_21_0, rf_21_1, rf_21_2, rf_21_3, rf_26_0, rf_26_1, rf_26_2, rf_26_3, rf_26_4, rf_26_5, rf_26_6, rf_31_0, rf_31_2, rf_31_5, rf_31_6, rf_36_0, rf_36_1, rf_36_2, rf_36_3, rf_39_0, rf_39_1, rf_39_2, rf_41_0, rf_41_1, rf_41_2, rf_41_3, rf_5000_1, rf_5000_2, rf_5000_3, rf_5000_4, rf_5000_5, rf_5000_15, rf_5000_16, rf_5000_18, rf_5000_19, rf_5000_20, rf_5000_21, rf_5000_22, rf_5000_23, rf_5000_24, rf_5000_25, rf_5000_26, rf_5000_27, rf_5000_36, rf_5000_37, rf_5000_40, rf_5000_41, rf_5000_42, rf_5000_43, rf_5000_44, rf_5000_45, rf_5000_47, rf_5000_52, rf_5000_54, rf_5000_55, rf_100_0, rf_100_1, rf_103_0, rf_103_1, rf_106_0, rf_106_1, rf_109_0, rf_109_1, al_2, al_4, al_5, al_7, al_8, al_10, al_11, al_12, al_14, al_15, al_17, al_18, al_19, al_20, al_22, al_23, al_24, al_25, al_27, al_28, al_29, al_30, al_32, al_33, al_34, al_35, al_37, al_38, al_40, al_42, al_5001, al_5002, al_5003, al_5004, al_5005, al_5006, al_5007, al_5008, al_5009, al_5010, al_5011, al_5012, al_5013, al_5014, al_5015, al_5016, al_5017, al_5018, al_5019, al_5020, al_5021, al_5022, al_5023, al_5024, al_5025, al_5026, al_9000, al_101, al_102, al_104, al_105, al_107, al_108, al_110, al_111, vcs_e, lg_c0, lg_cs, lg_nil, set_c0, set_cs, okst_0, okst_s, acok_n, acok_c, List.contains_nil, List.contains_cons, Bool.or_false, Bool.false_or, Bool.false_eq_true, if_false, if_true, ite_self, ne_eq, true_and, and_true, not_false_eq_true, not_true_eq_false, false_imp_iff, true_imp_iff, Nat.ble_eq, Bool.and_eq_true, reduceCtorEq, or_false, false_or, or_true, true_or, false_and, and_false, and_self, Int.reduceLE, Int.reduceAdd, Int.reduceSub, Int.reduceMul, Int.reduceNeg, Int.reduceLT, Int.reduceEq, Int.reduceNe, Nat.reduceBEq, Nat.reduceBNe, Nat.reduceEqDiff, amCmp_in, amCmp_lt, amCmp_le, amCmp_gt, amCmp_ge, amCmp_eq, amCmp_ne, Nat.reduceLeDiff, Nat.reduceSub, Bool.and_true, Bool.true_and, Bool.and_self, Bool.or_true, Bool.true_or, isRf_3, isRf_4, isRf_5, isRf_8, isRf_9, isRf_10, isRf_11, isRf_15, isRf_16, isRf_17, isRf_18, isRf_19, isRf_20, isRf_21, isRf_22, isRf_23, isRf_24, isRf_25, isRf_26, isRf_27, isRf_28, k_X12_number_0, k_X12_number_1, k_X12_number_4, k_X12_number_5, k_X12_number_6, k_X12_number_9, k_X12_number_12, k_X12_number_13, k_X12_number_16, k_X12_number_17, k_X12_number_18, k_X12_number_19, k_X12_number_20, k_X12_number_22, k_X12_number_23, k_X12_number_25, k_X12_number_26, k_X12_number_27, k_X12_number_30, k_X12_number_31, k_X12_number_32, k_X12_number_35, k_X12_number_36, k_X12_number_39, k_X12_number_42, k_X12_number_44, k_X12_number_46, k_X12_number_47, k_X12_number_48, k_X12_number_51, k_X12_number_52, k_X12_number_54, k_X12_number_55, k_X12_number_57, k_X12_number_58, k_X12_number_59, k_X12_number_62, k_X12_number_63, k_X12_number_64, k_X12_number_67, k_X12_number_68, k_X12_number_71, k_X12_number_74, k_X12_number_75, k_X12_number_78, k_X12_number_79, k_X12_number_80, k_X12_number_81, k_X12_number_83, k_X12_number_84, k_X12_number_85, k_X12_number_86, k_X12_number_87, k_X12_number_88, k_X12_number_91, k_X12_number_94, k_X12_number_95, k_X12_number_96, k_X12_number_99, k_X12_number_100, k_X12_number_101, k_X12_number_104, k_X12_number_105, k_X12_number_108, k_X12_number_109, k_X12_number_111, w_X12_fails_e, w_X12_here_e, w_X12_isDigit_e, w_X12_isIn_e, w_X12_look_e, up_s, up_nj, up_na, up_up, savR_o, cpy_o, fillm_o, setAud_o, setv_o, setv_s, Int.reduceNe, Int.reduceEq, Int.reduceLT, Int.reduceAdd, not_false_eq_true, ne_eq, or_true, true_or, hg, et, hto, u9, u11, up_s, up_up, ff, e2, e3, if_pos c0, if_neg c1, if_neg c3]
        repeat' (first | assumption | exact ht | apply And.intro | intro _)
        all_goals first | omega | exact absurd trivial (by assumption) | exact q7
  · have q8 := hq1 c0
    refine am_m0 (own := RX12) (A := look a_X12_number) (fun X e1 e2 hB => o_X12_number e1 e2 hB) rfl (by decide +kernel) rfl rfl 300 (w := 5) ?_
    change vcs _ _ _ _ 300 0 [(28, 5000), (0, a), (0, b), (6, 0), (6, 0)] [] σ
    simp only [↓reduceIte, inR_0, inR_1, inR_m, vSw2_e, swP_n, swP_c, vI_e, vL_e, vNull_e, vIload_e, vLload_e, vAload_e, vIstore_e, vLstore_e, vAstore_e, vIinc_e, vIadd_e, vIsub_e, vImul_e, vIand_e, vIor_e, vIxor_e, vIshl_e, vIshr_e, vIushr_e, vIdiv_e, vIrem_e, vLadd_e, vLsub_e, vLmul_e, vLand_e, vLor_e, vLxor_e, vLdiv_e, vLrem_e, vLushr_e, vLshl_e, vLcmp_e, vIneg_e, vI2l_e, vL2i_e, vI2b_e, vI2c_e, vDup_e, vPop_e, vDup2_e, vGoto_e, vIcEq_e, vIfEq_e, vIcNe_e, vIfNe_e, vIcLt_e, vIfLt_e, vIcGe_e, vIfGe_e, vIcGt_e, vIfGt_e, vIcLe_e, vIfLe_e, vNonnull_e, vSw_e, vGetI_e, vGetL_e, vGetR_e, vPutI_e, vPutZ_e, vPutL_e, vPutR_e, vIald_e, vIald_s, vLald_e, vBald_e, vBald_s, vAald_e, vIast_e, vLast_e, vBast_e, vAast_e, vAlen_e8, vAlen_e9, vAlen_e10, vAlen_e11, vAlen_e5, vAlen_e3, vGets_e, vCompact_e, vLdcS_e, vIret_e, vZret_e, vCret_e, vBret_e, vLret_e, vVret_e, vAret_e, vCallM_e0, vCallMV_e0, vCallS_e0, vCallSV_e0, vCallM_e1, vCallMV_e1, vCallS_e1, vCallSV_e1, vCallM_e2, vCallMV_e2, vCallS_e2, vCallSV_e2, vCallM_e3, vCallMV_e3, vCallS_e3, vCallSV_e3, vCallM_e4, vCallMV_e4, vCallS_e4, vCallSV_e4, vCallM_e5, vCallMV_e5, vCallS_e5, vCallSV_e5, vCallM_e6, vCallMV_e6, vCallS_e6, vCallSV_e6, vCallM_e7, vCallMV_e7, vCallS_e7, vCallSV_e7, vBad_e, vStrVal_e, vStrCod_e, vForm_e, vCallT_e0, vCallT_e1, vCallT_e2, vCopy_e, rf_0_0, rf_0_1, rf_0_2, rf_0_3, rf_0_4, rf_0_7, rf_0_10, rf_0_11, rf_0_12, rf_0_13, rf_0_14, rf_0_15, rf_0_16, rf_1_0, rf_3_0, rf_3_1, rf_6_0, rf_6_1, rf_9_0, rf_9_1, rf_9_3, rf_13_0, rf_13_1, rf_13_2, rf_16_0, rf_16_1, rf_16_2, rf_16_3, rf_21_0, rf_21_1, rf_21_2, rf_21_3, rf_26_0, rf_26_1, rf_26_2, rf_26_3, rf_26_4, rf_26_5, rf_26_6, rf_31_0, rf_31_2, rf_31_5, rf_31_6, rf_36_0, rf_36_1, rf_36_2, rf_36_3, rf_39_0, rf_39_1, rf_39_2, rf_41_0, rf_41_1, rf_41_2, rf_41_3, rf_5000_1, rf_5000_2, rf_5000_3, rf_5000_4, rf_5000_5, rf_5000_15, rf_5000_16, rf_5000_18, rf_5000_19, rf_5000_20, rf_5000_21, rf_5000_22, rf_5000_23, rf_5000_24, rf_5000_25, rf_5000_26, rf_5000_27, rf_5000_36, rf_5000_37, rf_5000_40, rf_5000_41, rf_5000_42, rf_5000_43, rf_5000_44, rf_5000_45, rf_5000_47, rf_5000_52, rf_5000_54, rf_5000_55, rf_100_0, rf_100_1, rf_103_0, rf_103_1, rf_106_0, rf_106_1, rf_109_0, rf_109_1, al_2, al_4, al_5, al_7, al_8, al_10, al_11, al_12, al_14, al_15, al_17, al_18, al_19, al_20, al_22, al_23, al_24, al_25, al_27, al_28, al_29, al_30, al_32, al_33, al_34, al_35, al_37, al_38, al_40, al_42, al_5001, al_5002, al_5003, al_5004, al_5005, al_5006, al_5007, al_5008, al_5009, al_5010, al_5011, al_5012, al_5013, al_5014, al_5015, al_5016, al_5017, al_5018, al_5019, al_5020, al_5021, al_5022, al_5023, al_5024, al_5025, al_5026, al_9000, al_101, al_102, al_104, al_105, al_107, al_108, al_110, al_111, vcs_e, lg_c0, lg_cs, lg_nil, set_c0, set_cs, okst_0, okst_s, acok_n, acok_c, List.contains_nil, List.contains_cons, Bool.or_false, Bool.false_or, Bool.false_eq_true, if_false, if_true, ite_self, ne_eq, true_and, and_true, not_false_eq_true, not_true_eq_false, false_imp_iff, true_imp_iff, Nat.ble_eq, Bool.and_eq_true, reduceCtorEq, or_false, false_or, or_true, true_or, false_and, and_false, and_self, Int.reduceLE, Int.reduceAdd, Int.reduceSub, Int.reduceMul, Int.reduceNeg, Int.reduceLT, Int.reduceEq, Int.reduceNe, Nat.reduceBEq, Nat.reduceBNe, Nat.reduceEqDiff, amCmp_in, amCmp_lt, amCmp_le, amCmp_gt, amCmp_ge, amCmp_eq, amCmp_ne, Nat.reduceLeDiff, Nat.reduceSub, Bool.and_true, Bool.true_and, Bool.and_self, Bool.or_true, Bool.true_or, isRf_3, isRf_4, isRf_5, isRf_8, isRf_9, isRf_10, isRf_11, isRf_15, isRf_16, isRf_17, isRf_18, isRf_19, isRf_20, isRf_21, isRf_22, isRf_23, isRf_24, isRf_25, isRf_26, isRf_27, isRf_28, k_X12_number_0, k_X12_number_1, k_X12_number_4, k_X12_number_5, k_X12_number_6, k_X12_number_9, k_X12_number_12, k_X12_number_13, k_X12_number_16, k_X12_number_17, k_X12_number_18, k_X12_number_19, k_X12_number_20, k_X12_number_22, k_X12_number_23, k_X12_number_25, k_X12_number_26, k_X12_number_27, k_X12_number_30, k_X12_number_31, k_X12_number_32, k_X12_number_35, k_X12_number_36, k_X12_number_39, k_X12_number_42, k_X12_number_44, k_X12_number_46, k_X12_number_47, k_X12_number_48, k_X12_number_51, k_X12_number_52, k_X12_number_54, k_X12_number_55, k_X12_number_57, k_X12_number_58, k_X12_number_59, k_X12_number_62, k_X12_number_63, k_X12_number_64, k_X12_number_67, k_X12_number_68, k_X12_number_71, k_X12_number_74, k_X12_number_75, k_X12_number_78, k_X12_number_79, k_X12_number_80, k_X12_number_81, k_X12_number_83, k_X12_number_84, k_X12_number_85, k_X12_number_86, k_X12_number_87, k_X12_number_88, k_X12_number_91, k_X12_number_94, k_X12_number_95, k_X12_number_96, k_X12_number_99, k_X12_number_100, k_X12_number_101, k_X12_number_104, k_X12_number_105, k_X12_number_108, k_X12_number_109, k_X12_number_111, w_X12_fails_e, w_X12_here_e, w_X12_isDigit_e, w_X12_isIn_e, w_X12_look_e, up_s, up_nj, up_na, up_up, savR_o, cpy_o, fillm_o, setAud_o, setv_o, setv_s, Int.reduceNe, Int.reduceEq, Int.reduceLT, Int.reduceAdd, not_false_eq_true, ne_eq, or_true, true_or, hg, et, hto, u9, u11, up_s, up_up, ff, if_neg c0]
    repeat' (first | assumption | exact ht | apply And.intro | intro _)
    all_goals first | omega | exact absurd trivial (by assumption) | exact q8
def mosV (c w : Int) : Int := if c = 115 then (if w = 0 then 99 else 30) else if c = 99 then (if w = 1 then 5 else if w = 2 then 99 else 9) else 9
def leaV (c w : Int) : Int := if (c = 115 ∧ w = 0) ∨ (c = 112 ∧ w = 3) then 1 else 0
def usuV (c w : Int) : Int := if c = 115 then (if w = 0 then 12 else 5) else if c = 112 then 3 else if c = 116 then 2 else if w = 0 then 5 else if w = 1 then 0 else 20
def a_X12_mostOf : AC := [(0, vIload 0 1), (1, vI 115 3), (3, vIcNe 18 6), (6, vIload 1 7), (7, vIfNe 15 10), (10, vI 99 12), (12, vGoto 17), (15, vI 30 17), (17, vIret), (18, vIload 0 19), (19, vI 99 21), (21, vIcNe 46 24), (24, vIload 1 25), (25, vI 1 26), (26, vIcNe 33 29), (29, vI 5 30), (30, vGoto 45), (33, vIload 1 34), (34, vI 2 35), (35, vIcNe 43 38), (38, vI 99 40), (40, vGoto 45), (43, vI 9 45), (45, vIret), (46, vI 9 48), (48, vIret)]
theorem k_X12_mostOf_0 : look a_X12_mostOf 0 = vIload 0 1 := rfl
theorem k_X12_mostOf_1 : look a_X12_mostOf 1 = vI 115 3 := rfl
theorem k_X12_mostOf_3 : look a_X12_mostOf 3 = vIcNe 18 6 := rfl
theorem k_X12_mostOf_6 : look a_X12_mostOf 6 = vIload 1 7 := rfl
theorem k_X12_mostOf_7 : look a_X12_mostOf 7 = vIfNe 15 10 := rfl
theorem k_X12_mostOf_10 : look a_X12_mostOf 10 = vI 99 12 := rfl
theorem k_X12_mostOf_12 : look a_X12_mostOf 12 = vGoto 17 := rfl
theorem k_X12_mostOf_15 : look a_X12_mostOf 15 = vI 30 17 := rfl
theorem k_X12_mostOf_17 : look a_X12_mostOf 17 = vIret := rfl
theorem k_X12_mostOf_18 : look a_X12_mostOf 18 = vIload 0 19 := rfl
theorem k_X12_mostOf_19 : look a_X12_mostOf 19 = vI 99 21 := rfl
theorem k_X12_mostOf_21 : look a_X12_mostOf 21 = vIcNe 46 24 := rfl
theorem k_X12_mostOf_24 : look a_X12_mostOf 24 = vIload 1 25 := rfl
theorem k_X12_mostOf_25 : look a_X12_mostOf 25 = vI 1 26 := rfl
theorem k_X12_mostOf_26 : look a_X12_mostOf 26 = vIcNe 33 29 := rfl
theorem k_X12_mostOf_29 : look a_X12_mostOf 29 = vI 5 30 := rfl
theorem k_X12_mostOf_30 : look a_X12_mostOf 30 = vGoto 45 := rfl
theorem k_X12_mostOf_33 : look a_X12_mostOf 33 = vIload 1 34 := rfl
theorem k_X12_mostOf_34 : look a_X12_mostOf 34 = vI 2 35 := rfl
theorem k_X12_mostOf_35 : look a_X12_mostOf 35 = vIcNe 43 38 := rfl
theorem k_X12_mostOf_38 : look a_X12_mostOf 38 = vI 99 40 := rfl
theorem k_X12_mostOf_40 : look a_X12_mostOf 40 = vGoto 45 := rfl
theorem k_X12_mostOf_43 : look a_X12_mostOf 43 = vI 9 45 := rfl
theorem k_X12_mostOf_45 : look a_X12_mostOf 45 = vIret := rfl
theorem k_X12_mostOf_46 : look a_X12_mostOf 46 = vI 9 48 := rfl
theorem k_X12_mostOf_48 : look a_X12_mostOf 48 = vIret := rfl
theorem o_X12_mostOf {X : amX} (e1 : XT X = TT) (e2 : XD X = 0) (hB : amB X RX12 cX12_mostOf (some .int) 2) : ∀ pc, amOK X pc (look a_X12_mostOf pc) := by
  have hT : amTok (XT X) := e1 ▸ TT_ok
  refine look_ok ?_
  unfold a_X12_mostOf
  refine fc (ok_iload_n hB dX12_mostOf_0) ?_
  refine fc (ok_bipush hB dX12_mostOf_1 (by decide)) ?_
  refine fc (ok_icmp_ne hB (t := 18) (by decide) dX12_mostOf_3) ?_
  refine fc (ok_iload_n hB dX12_mostOf_6) ?_
  refine fc (ok_if_ne hB (t := 15) (by decide) dX12_mostOf_7) ?_
  refine fc (ok_bipush hB dX12_mostOf_10 (by decide)) ?_
  refine fc (ok_goto hB (t := 17) (by decide) dX12_mostOf_12) ?_
  refine fc (ok_bipush hB dX12_mostOf_15 (by decide)) ?_
  refine fc (ok_iret hB dX12_mostOf_17) ?_
  refine fc (ok_iload_n hB dX12_mostOf_18) ?_
  refine fc (ok_bipush hB dX12_mostOf_19 (by decide)) ?_
  refine fc (ok_icmp_ne hB (t := 46) (by decide) dX12_mostOf_21) ?_
  refine fc (ok_iload_n hB dX12_mostOf_24) ?_
  refine fc (ok_iconst hB dX12_mostOf_25) ?_
  refine fc (ok_icmp_ne hB (t := 33) (by decide) dX12_mostOf_26) ?_
  refine fc (ok_iconst hB dX12_mostOf_29) ?_
  refine fc (ok_goto hB (t := 45) (by decide) dX12_mostOf_30) ?_
  refine fc (ok_iload_n hB dX12_mostOf_33) ?_
  refine fc (ok_iconst hB dX12_mostOf_34) ?_
  refine fc (ok_icmp_ne hB (t := 43) (by decide) dX12_mostOf_35) ?_
  refine fc (ok_bipush hB dX12_mostOf_38 (by decide)) ?_
  refine fc (ok_goto hB (t := 45) (by decide) dX12_mostOf_40) ?_
  refine fc (ok_bipush hB dX12_mostOf_43 (by decide)) ?_
  refine fc (ok_iret hB dX12_mostOf_45) ?_
  refine fc (ok_bipush hB dX12_mostOf_46 (by decide)) ?_
  refine fc (ok_iret hB dX12_mostOf_48) ?_
  exact fn

def w_X12_mostOf : WP := fun av σ Q => ∃ (c : Int) (w : Int), av = [(0, c), (0, w)] ∧ (InR c ∧ InR w ∧ Q (0, mosV c w) σ)
theorem w_X12_mostOf_e (c : Int) (w : Int) (σ : Mem) (Q : AV → Mem → Prop) : w_X12_mostOf [(0, c), (0, w)] σ Q = (InR c ∧ InR w ∧ Q (0, mosV c w) σ) := by
  apply propext; constructor
  · rintro ⟨c', w', h9, hb9⟩; cases h9; exact hb9
  · intro hb9; exact ⟨c, w, rfl, hb9⟩

set_option maxRecDepth 100000 in
set_option maxHeartbeats 4000000 in
theorem s_X12_mostOf : ∀ av σ Q, w_X12_mostOf av σ Q → amCall 0 0 0 TT yX12_mostOf cX12_mostOf 2 (some .int) av σ Q := by
  rintro av σ Q ⟨c, w, rfl, hc, hw, h⟩
  unfold mosV at h
  refine am_m0 (own := RX12) (A := look a_X12_mostOf) (fun X e1 e2 hB => o_X12_mostOf e1 e2 hB) rfl (by decide +kernel) rfl rfl 190 (w := 2) ?_
  change vcs _ _ _ _ 190 0 [(0, c), (0, w)] [] σ
  simp only [↓reduceIte, inR_0, inR_1, inR_m, vSw2_e, swP_n, swP_c, vI_e, vL_e, vNull_e, vIload_e, vLload_e, vAload_e, vIstore_e, vLstore_e, vAstore_e, vIinc_e, vIadd_e, vIsub_e, vImul_e, vIand_e, vIor_e, vIxor_e, vIshl_e, vIshr_e, vIushr_e, vIdiv_e, vIrem_e, vLadd_e, vLsub_e, vLmul_e, vLand_e, vLor_e, vLxor_e, vLdiv_e, vLrem_e, vLushr_e, vLshl_e, vLcmp_e, vIneg_e, vI2l_e, vL2i_e, vI2b_e, vI2c_e, vDup_e, vPop_e, vDup2_e, vGoto_e, vIcEq_e, vIfEq_e, vIcNe_e, vIfNe_e, vIcLt_e, vIfLt_e, vIcGe_e, vIfGe_e, vIcGt_e, vIfGt_e, vIcLe_e, vIfLe_e, vNonnull_e, vSw_e, vGetI_e, vGetL_e, vGetR_e, vPutI_e, vPutZ_e, vPutL_e, vPutR_e, vIald_e, vIald_s, vLald_e, vBald_e, vBald_s, vAald_e, vIast_e, vLast_e, vBast_e, vAast_e, vAlen_e8, vAlen_e9, vAlen_e10, vAlen_e11, vAlen_e5, vAlen_e3, vGets_e, vCompact_e, vLdcS_e, vIret_e, vZret_e, vCret_e, vBret_e, vLret_e, vVret_e, vAret_e, vCallM_e0, vCallMV_e0, vCallS_e0, vCallSV_e0, vCallM_e1, vCallMV_e1, vCallS_e1, vCallSV_e1, vCallM_e2, vCallMV_e2, vCallS_e2, vCallSV_e2, vCallM_e3, vCallMV_e3, vCallS_e3, vCallSV_e3, vCallM_e4, vCallMV_e4, vCallS_e4, vCallSV_e4, vCallM_e5, vCallMV_e5, vCallS_e5, vCallSV_e5, vCallM_e6, vCallMV_e6, vCallS_e6, vCallSV_e6, vCallM_e7, vCallMV_e7, vCallS_e7, vCallSV_e7, vBad_e, vStrVal_e, vStrCod_e, vForm_e, vCallT_e0, vCallT_e1, vCallT_e2, vCopy_e, rf_0_0, rf_0_1, rf_0_2, rf_0_3, rf_0_4, rf_0_7, rf_0_10, rf_0_11, rf_0_12, rf_0_13, rf_0_14, rf_0_15, rf_0_16, rf_1_0, rf_3_0, rf_3_1, rf_6_0, rf_6_1, rf_9_0, rf_9_1, rf_9_3, rf_13_0, rf_13_1, rf_13_2, rf_16_0, rf_16_1, rf_16_2, rf_16_3, rf_21_0, rf_21_1, rf_21_2, rf_21_3, rf_26_0, rf_26_1, rf_26_2, rf_26_3, rf_26_4, rf_26_5, rf_26_6, rf_31_0, rf_31_2, rf_31_5, rf_31_6, rf_36_0, rf_36_1, rf_36_2, rf_36_3, rf_39_0, rf_39_1, rf_39_2, rf_41_0, rf_41_1, rf_41_2, rf_41_3, rf_5000_1, rf_5000_2, rf_5000_3, rf_5000_4, rf_5000_5, rf_5000_15, rf_5000_16, rf_5000_18, rf_5000_19, rf_5000_20, rf_5000_21, rf_5000_22, rf_5000_23, rf_5000_24, rf_5000_25, rf_5000_26, rf_5000_27, rf_5000_36, rf_5000_37, rf_5000_40, rf_5000_41, rf_5000_42, rf_5000_43, rf_5000_44, rf_5000_45, rf_5000_47, rf_5000_52, rf_5000_54, rf_5000_55, rf_100_0, rf_100_1, rf_103_0, rf_103_1, rf_106_0, rf_106_1, rf_109_0, rf_109_1, al_2, al_4, al_5, al_7, al_8, al_10, al_11, al_12, al_14, al_15, al_17, al_18, al_19, al_20, al_22, al_23, al_24, al_25, al_27, al_28, al_29, al_30, al_32, al_33, al_34, al_35, al_37, al_38, al_40, al_42, al_5001, al_5002, al_5003, al_5004, al_5005, al_5006, al_5007, al_5008, al_5009, al_5010, al_5011, al_5012, al_5013, al_5014, al_5015, al_5016, al_5017, al_5018, al_5019, al_5020, al_5021, al_5022, al_5023, al_5024, al_5025, al_5026, al_9000, al_101, al_102, al_104, al_105, al_107, al_108, al_110, al_111, vcs_e, lg_c0, lg_cs, lg_nil, set_c0, set_cs, okst_0, okst_s, acok_n, acok_c, List.contains_nil, List.contains_cons, Bool.or_false, Bool.false_or, Bool.false_eq_true, if_false, if_true, ite_self, ne_eq, true_and, and_true, not_false_eq_true, not_true_eq_false, false_imp_iff, true_imp_iff, Nat.ble_eq, Bool.and_eq_true, reduceCtorEq, or_false, false_or, or_true, true_or, false_and, and_false, and_self, Int.reduceLE, Int.reduceAdd, Int.reduceSub, Int.reduceMul, Int.reduceNeg, Int.reduceLT, Int.reduceEq, Int.reduceNe, Nat.reduceBEq, Nat.reduceBNe, Nat.reduceEqDiff, amCmp_in, amCmp_lt, amCmp_le, amCmp_gt, amCmp_ge, amCmp_eq, amCmp_ne, Nat.reduceLeDiff, Nat.reduceSub, Bool.and_true, Bool.true_and, Bool.and_self, Bool.or_true, Bool.true_or, isRf_3, isRf_4, isRf_5, isRf_8, isRf_9, isRf_10, isRf_11, isRf_15, isRf_16, isRf_17, isRf_18, isRf_19, isRf_20, isRf_21, isRf_22, isRf_23, isRf_24, isRf_25, isRf_26, isRf_27, isRf_28, k_X12_mostOf_0, k_X12_mostOf_1, k_X12_mostOf_3, k_X12_mostOf_6, k_X12_mostOf_7, k_X12_mostOf_10, k_X12_mostOf_12, k_X12_mostOf_15, k_X12_mostOf_17, k_X12_mostOf_18, k_X12_mostOf_19, k_X12_mostOf_21, k_X12_mostOf_24, k_X12_mostOf_25, k_X12_mostOf_26, k_X12_mostOf_29, k_X12_mostOf_30, k_X12_mostOf_33, k_X12_mostOf_34, k_X12_mostOf_35, k_X12_mostOf_38, k_X12_mostOf_40, k_X12_mostOf_43, k_X12_mostOf_45, k_X12_mostOf_46, k_X12_mostOf_48, up_s, up_nj, up_na, up_up, savR_o, cpy_o, fillm_o, setAud_o, setv_o, setv_s, Int.reduceNe, Int.reduceEq, Int.reduceLT, Int.reduceAdd, not_false_eq_true, ne_eq, or_true, true_or]
  repeat' (first | apply And.intro | intro _)
  all_goals first | omega | exact absurd trivial (by assumption) | exact Qe h (by (repeat' split) <;> omega)
def a_X12_leastOf : AC := [(0, vIload 0 1), (1, vI 115 3), (3, vIcNe 10 6), (6, vIload 1 7), (7, vIfEq 21 10), (10, vIload 0 11), (11, vI 112 13), (13, vIcNe 25 16), (16, vIload 1 17), (17, vI 3 18), (18, vIcNe 25 21), (21, vI 1 22), (22, vGoto 26), (25, vI 0 26), (26, vIret)]
theorem k_X12_leastOf_0 : look a_X12_leastOf 0 = vIload 0 1 := rfl
theorem k_X12_leastOf_1 : look a_X12_leastOf 1 = vI 115 3 := rfl
theorem k_X12_leastOf_3 : look a_X12_leastOf 3 = vIcNe 10 6 := rfl
theorem k_X12_leastOf_6 : look a_X12_leastOf 6 = vIload 1 7 := rfl
theorem k_X12_leastOf_7 : look a_X12_leastOf 7 = vIfEq 21 10 := rfl
theorem k_X12_leastOf_10 : look a_X12_leastOf 10 = vIload 0 11 := rfl
theorem k_X12_leastOf_11 : look a_X12_leastOf 11 = vI 112 13 := rfl
theorem k_X12_leastOf_13 : look a_X12_leastOf 13 = vIcNe 25 16 := rfl
theorem k_X12_leastOf_16 : look a_X12_leastOf 16 = vIload 1 17 := rfl
theorem k_X12_leastOf_17 : look a_X12_leastOf 17 = vI 3 18 := rfl
theorem k_X12_leastOf_18 : look a_X12_leastOf 18 = vIcNe 25 21 := rfl
theorem k_X12_leastOf_21 : look a_X12_leastOf 21 = vI 1 22 := rfl
theorem k_X12_leastOf_22 : look a_X12_leastOf 22 = vGoto 26 := rfl
theorem k_X12_leastOf_25 : look a_X12_leastOf 25 = vI 0 26 := rfl
theorem k_X12_leastOf_26 : look a_X12_leastOf 26 = vIret := rfl
theorem o_X12_leastOf {X : amX} (e1 : XT X = TT) (e2 : XD X = 0) (hB : amB X RX12 cX12_leastOf (some .int) 2) : ∀ pc, amOK X pc (look a_X12_leastOf pc) := by
  have hT : amTok (XT X) := e1 ▸ TT_ok
  refine look_ok ?_
  unfold a_X12_leastOf
  refine fc (ok_iload_n hB dX12_leastOf_0) ?_
  refine fc (ok_bipush hB dX12_leastOf_1 (by decide)) ?_
  refine fc (ok_icmp_ne hB (t := 10) (by decide) dX12_leastOf_3) ?_
  refine fc (ok_iload_n hB dX12_leastOf_6) ?_
  refine fc (ok_if_eq hB (t := 21) (by decide) dX12_leastOf_7) ?_
  refine fc (ok_iload_n hB dX12_leastOf_10) ?_
  refine fc (ok_bipush hB dX12_leastOf_11 (by decide)) ?_
  refine fc (ok_icmp_ne hB (t := 25) (by decide) dX12_leastOf_13) ?_
  refine fc (ok_iload_n hB dX12_leastOf_16) ?_
  refine fc (ok_iconst hB dX12_leastOf_17) ?_
  refine fc (ok_icmp_ne hB (t := 25) (by decide) dX12_leastOf_18) ?_
  refine fc (ok_iconst hB dX12_leastOf_21) ?_
  refine fc (ok_goto hB (t := 26) (by decide) dX12_leastOf_22) ?_
  refine fc (ok_iconst hB dX12_leastOf_25) ?_
  refine fc (ok_iret hB dX12_leastOf_26) ?_
  exact fn

def w_X12_leastOf : WP := fun av σ Q => ∃ (c : Int) (w : Int), av = [(0, c), (0, w)] ∧ (InR c ∧ InR w ∧ Q (0, leaV c w) σ)
theorem w_X12_leastOf_e (c : Int) (w : Int) (σ : Mem) (Q : AV → Mem → Prop) : w_X12_leastOf [(0, c), (0, w)] σ Q = (InR c ∧ InR w ∧ Q (0, leaV c w) σ) := by
  apply propext; constructor
  · rintro ⟨c', w', h9, hb9⟩; cases h9; exact hb9
  · intro hb9; exact ⟨c, w, rfl, hb9⟩

set_option maxRecDepth 100000 in
set_option maxHeartbeats 4000000 in
theorem s_X12_leastOf : ∀ av σ Q, w_X12_leastOf av σ Q → amCall 0 0 0 TT yX12_leastOf cX12_leastOf 2 (some .int) av σ Q := by
  rintro av σ Q ⟨c, w, rfl, hc, hw, h⟩
  unfold leaV at h
  refine am_m0 (own := RX12) (A := look a_X12_leastOf) (fun X e1 e2 hB => o_X12_leastOf e1 e2 hB) rfl (by decide +kernel) rfl rfl 190 (w := 2) ?_
  change vcs _ _ _ _ 190 0 [(0, c), (0, w)] [] σ
  simp only [↓reduceIte, inR_0, inR_1, inR_m, vSw2_e, swP_n, swP_c, vI_e, vL_e, vNull_e, vIload_e, vLload_e, vAload_e, vIstore_e, vLstore_e, vAstore_e, vIinc_e, vIadd_e, vIsub_e, vImul_e, vIand_e, vIor_e, vIxor_e, vIshl_e, vIshr_e, vIushr_e, vIdiv_e, vIrem_e, vLadd_e, vLsub_e, vLmul_e, vLand_e, vLor_e, vLxor_e, vLdiv_e, vLrem_e, vLushr_e, vLshl_e, vLcmp_e, vIneg_e, vI2l_e, vL2i_e, vI2b_e, vI2c_e, vDup_e, vPop_e, vDup2_e, vGoto_e, vIcEq_e, vIfEq_e, vIcNe_e, vIfNe_e, vIcLt_e, vIfLt_e, vIcGe_e, vIfGe_e, vIcGt_e, vIfGt_e, vIcLe_e, vIfLe_e, vNonnull_e, vSw_e, vGetI_e, vGetL_e, vGetR_e, vPutI_e, vPutZ_e, vPutL_e, vPutR_e, vIald_e, vIald_s, vLald_e, vBald_e, vBald_s, vAald_e, vIast_e, vLast_e, vBast_e, vAast_e, vAlen_e8, vAlen_e9, vAlen_e10, vAlen_e11, vAlen_e5, vAlen_e3, vGets_e, vCompact_e, vLdcS_e, vIret_e, vZret_e, vCret_e, vBret_e, vLret_e, vVret_e, vAret_e, vCallM_e0, vCallMV_e0, vCallS_e0, vCallSV_e0, vCallM_e1, vCallMV_e1, vCallS_e1, vCallSV_e1, vCallM_e2, vCallMV_e2, vCallS_e2, vCallSV_e2, vCallM_e3, vCallMV_e3, vCallS_e3, vCallSV_e3, vCallM_e4, vCallMV_e4, vCallS_e4, vCallSV_e4, vCallM_e5, vCallMV_e5, vCallS_e5, vCallSV_e5, vCallM_e6, vCallMV_e6, vCallS_e6, vCallSV_e6, vCallM_e7, vCallMV_e7, vCallS_e7, vCallSV_e7, vBad_e, vStrVal_e, vStrCod_e, vForm_e, vCallT_e0, vCallT_e1, vCallT_e2, vCopy_e, rf_0_0, rf_0_1, rf_0_2, rf_0_3, rf_0_4, rf_0_7, rf_0_10, rf_0_11, rf_0_12, rf_0_13, rf_0_14, rf_0_15, rf_0_16, rf_1_0, rf_3_0, rf_3_1, rf_6_0, rf_6_1, rf_9_0, rf_9_1, rf_9_3, rf_13_0, rf_13_1, rf_13_2, rf_16_0, rf_16_1, rf_16_2, rf_16_3, rf_21_0, rf_21_1, rf_21_2, rf_21_3, rf_26_0, rf_26_1, rf_26_2, rf_26_3, rf_26_4, rf_26_5, rf_26_6, rf_31_0, rf_31_2, rf_31_5, rf_31_6, rf_36_0, rf_36_1, rf_36_2, rf_36_3, rf_39_0, rf_39_1, rf_39_2, rf_41_0, rf_41_1, rf_41_2, rf_41_3, rf_5000_1, rf_5000_2, rf_5000_3, rf_5000_4, rf_5000_5, rf_5000_15, rf_5000_16, rf_5000_18, rf_5000_19, rf_5000_20, rf_5000_21, rf_5000_22, rf_5000_23, rf_5000_24, rf_5000_25, rf_5000_26, rf_5000_27, rf_5000_36, rf_5000_37, rf_5000_40, rf_5000_41, rf_5000_42, rf_5000_43, rf_5000_44, rf_5000_45, rf_5000_47, rf_5000_52, rf_5000_54, rf_5000_55, rf_100_0, rf_100_1, rf_103_0, rf_103_1, rf_106_0, rf_106_1, rf_109_0, rf_109_1, al_2, al_4, al_5, al_7, al_8, al_10, al_11, al_12, al_14, al_15, al_17, al_18, al_19, al_20, al_22, al_23, al_24, al_25, al_27, al_28, al_29, al_30, al_32, al_33, al_34, al_35, al_37, al_38, al_40, al_42, al_5001, al_5002, al_5003, al_5004, al_5005, al_5006, al_5007, al_5008, al_5009, al_5010, al_5011, al_5012, al_5013, al_5014, al_5015, al_5016, al_5017, al_5018, al_5019, al_5020, al_5021, al_5022, al_5023, al_5024, al_5025, al_5026, al_9000, al_101, al_102, al_104, al_105, al_107, al_108, al_110, al_111, vcs_e, lg_c0, lg_cs, lg_nil, set_c0, set_cs, okst_0, okst_s, acok_n, acok_c, List.contains_nil, List.contains_cons, Bool.or_false, Bool.false_or, Bool.false_eq_true, if_false, if_true, ite_self, ne_eq, true_and, and_true, not_false_eq_true, not_true_eq_false, false_imp_iff, true_imp_iff, Nat.ble_eq, Bool.and_eq_true, reduceCtorEq, or_false, false_or, or_true, true_or, false_and, and_false, and_self, Int.reduceLE, Int.reduceAdd, Int.reduceSub, Int.reduceMul, Int.reduceNeg, Int.reduceLT, Int.reduceEq, Int.reduceNe, Nat.reduceBEq, Nat.reduceBNe, Nat.reduceEqDiff, amCmp_in, amCmp_lt, amCmp_le, amCmp_gt, amCmp_ge, amCmp_eq, amCmp_ne, Nat.reduceLeDiff, Nat.reduceSub, Bool.and_true, Bool.true_and, Bool.and_self, Bool.or_true, Bool.true_or, isRf_3, isRf_4, isRf_5, isRf_8, isRf_9, isRf_10, isRf_11, isRf_15, isRf_16, isRf_17, isRf_18, isRf_19, isRf_20, isRf_21, isRf_22, isRf_23, isRf_24, isRf_25, isRf_26, isRf_27, isRf_28, k_X12_leastOf_0, k_X12_leastOf_1, k_X12_leastOf_3, k_X12_leastOf_6, k_X12_leastOf_7, k_X12_leastOf_10, k_X12_leastOf_11, k_X12_leastOf_13, k_X12_leastOf_16, k_X12_leastOf_17, k_X12_leastOf_18, k_X12_leastOf_21, k_X12_leastOf_22, k_X12_leastOf_25, k_X12_leastOf_26, up_s, up_nj, up_na, up_up, savR_o, cpy_o, fillm_o, setAud_o, setv_o, setv_s, Int.reduceNe, Int.reduceEq, Int.reduceLT, Int.reduceAdd, not_false_eq_true, ne_eq, or_true, true_or]
  repeat' (first | apply And.intro | intro _)
  all_goals first | omega | exact absurd trivial (by assumption) | exact Qe h (by (repeat' split) <;> omega)
def a_X12_usual : AC := [(0, vIload 0 1), (1, vI 115 3), (3, vIcNe 17 6), (6, vIload 1 7), (7, vIfNe 15 10), (10, vI 12 12), (12, vGoto 16), (15, vI 5 16), (16, vIret), (17, vIload 0 18), (18, vI 112 20), (20, vIcNe 25 23), (23, vI 3 24), (24, vIret), (25, vIload 0 26), (26, vI 116 28), (28, vIcNe 33 31), (31, vI 2 32), (32, vIret), (33, vIload 1 34), (34, vIfNe 41 37), (37, vI 5 38), (38, vGoto 52), (41, vIload 1 42), (42, vI 1 43), (43, vIcNe 50 46), (46, vI 0 47), (47, vGoto 52), (50, vI 20 52), (52, vIret)]
theorem k_X12_usual_0 : look a_X12_usual 0 = vIload 0 1 := rfl
theorem k_X12_usual_1 : look a_X12_usual 1 = vI 115 3 := rfl
theorem k_X12_usual_3 : look a_X12_usual 3 = vIcNe 17 6 := rfl
theorem k_X12_usual_6 : look a_X12_usual 6 = vIload 1 7 := rfl
theorem k_X12_usual_7 : look a_X12_usual 7 = vIfNe 15 10 := rfl
theorem k_X12_usual_10 : look a_X12_usual 10 = vI 12 12 := rfl
theorem k_X12_usual_12 : look a_X12_usual 12 = vGoto 16 := rfl
theorem k_X12_usual_15 : look a_X12_usual 15 = vI 5 16 := rfl
theorem k_X12_usual_16 : look a_X12_usual 16 = vIret := rfl
theorem k_X12_usual_17 : look a_X12_usual 17 = vIload 0 18 := rfl
theorem k_X12_usual_18 : look a_X12_usual 18 = vI 112 20 := rfl
theorem k_X12_usual_20 : look a_X12_usual 20 = vIcNe 25 23 := rfl
theorem k_X12_usual_23 : look a_X12_usual 23 = vI 3 24 := rfl
theorem k_X12_usual_24 : look a_X12_usual 24 = vIret := rfl
theorem k_X12_usual_25 : look a_X12_usual 25 = vIload 0 26 := rfl
theorem k_X12_usual_26 : look a_X12_usual 26 = vI 116 28 := rfl
theorem k_X12_usual_28 : look a_X12_usual 28 = vIcNe 33 31 := rfl
theorem k_X12_usual_31 : look a_X12_usual 31 = vI 2 32 := rfl
theorem k_X12_usual_32 : look a_X12_usual 32 = vIret := rfl
theorem k_X12_usual_33 : look a_X12_usual 33 = vIload 1 34 := rfl
theorem k_X12_usual_34 : look a_X12_usual 34 = vIfNe 41 37 := rfl
theorem k_X12_usual_37 : look a_X12_usual 37 = vI 5 38 := rfl
theorem k_X12_usual_38 : look a_X12_usual 38 = vGoto 52 := rfl
theorem k_X12_usual_41 : look a_X12_usual 41 = vIload 1 42 := rfl
theorem k_X12_usual_42 : look a_X12_usual 42 = vI 1 43 := rfl
theorem k_X12_usual_43 : look a_X12_usual 43 = vIcNe 50 46 := rfl
theorem k_X12_usual_46 : look a_X12_usual 46 = vI 0 47 := rfl
theorem k_X12_usual_47 : look a_X12_usual 47 = vGoto 52 := rfl
theorem k_X12_usual_50 : look a_X12_usual 50 = vI 20 52 := rfl
theorem k_X12_usual_52 : look a_X12_usual 52 = vIret := rfl
theorem o_X12_usual {X : amX} (e1 : XT X = TT) (e2 : XD X = 0) (hB : amB X RX12 cX12_usual (some .int) 2) : ∀ pc, amOK X pc (look a_X12_usual pc) := by
  have hT : amTok (XT X) := e1 ▸ TT_ok
  refine look_ok ?_
  unfold a_X12_usual
  refine fc (ok_iload_n hB dX12_usual_0) ?_
  refine fc (ok_bipush hB dX12_usual_1 (by decide)) ?_
  refine fc (ok_icmp_ne hB (t := 17) (by decide) dX12_usual_3) ?_
  refine fc (ok_iload_n hB dX12_usual_6) ?_
  refine fc (ok_if_ne hB (t := 15) (by decide) dX12_usual_7) ?_
  refine fc (ok_bipush hB dX12_usual_10 (by decide)) ?_
  refine fc (ok_goto hB (t := 16) (by decide) dX12_usual_12) ?_
  refine fc (ok_iconst hB dX12_usual_15) ?_
  refine fc (ok_iret hB dX12_usual_16) ?_
  refine fc (ok_iload_n hB dX12_usual_17) ?_
  refine fc (ok_bipush hB dX12_usual_18 (by decide)) ?_
  refine fc (ok_icmp_ne hB (t := 25) (by decide) dX12_usual_20) ?_
  refine fc (ok_iconst hB dX12_usual_23) ?_
  refine fc (ok_iret hB dX12_usual_24) ?_
  refine fc (ok_iload_n hB dX12_usual_25) ?_
  refine fc (ok_bipush hB dX12_usual_26 (by decide)) ?_
  refine fc (ok_icmp_ne hB (t := 33) (by decide) dX12_usual_28) ?_
  refine fc (ok_iconst hB dX12_usual_31) ?_
  refine fc (ok_iret hB dX12_usual_32) ?_
  refine fc (ok_iload_n hB dX12_usual_33) ?_
  refine fc (ok_if_ne hB (t := 41) (by decide) dX12_usual_34) ?_
  refine fc (ok_iconst hB dX12_usual_37) ?_
  refine fc (ok_goto hB (t := 52) (by decide) dX12_usual_38) ?_
  refine fc (ok_iload_n hB dX12_usual_41) ?_
  refine fc (ok_iconst hB dX12_usual_42) ?_
  refine fc (ok_icmp_ne hB (t := 50) (by decide) dX12_usual_43) ?_
  refine fc (ok_iconst hB dX12_usual_46) ?_
  refine fc (ok_goto hB (t := 52) (by decide) dX12_usual_47) ?_
  refine fc (ok_bipush hB dX12_usual_50 (by decide)) ?_
  refine fc (ok_iret hB dX12_usual_52) ?_
  exact fn

def w_X12_usual : WP := fun av σ Q => ∃ (c : Int) (w : Int), av = [(0, c), (0, w)] ∧ (InR c ∧ InR w ∧ Q (0, usuV c w) σ)
theorem w_X12_usual_e (c : Int) (w : Int) (σ : Mem) (Q : AV → Mem → Prop) : w_X12_usual [(0, c), (0, w)] σ Q = (InR c ∧ InR w ∧ Q (0, usuV c w) σ) := by
  apply propext; constructor
  · rintro ⟨c', w', h9, hb9⟩; cases h9; exact hb9
  · intro hb9; exact ⟨c, w, rfl, hb9⟩

set_option maxRecDepth 100000 in
set_option maxHeartbeats 4000000 in
theorem s_X12_usual : ∀ av σ Q, w_X12_usual av σ Q → amCall 0 0 0 TT yX12_usual cX12_usual 2 (some .int) av σ Q := by
  rintro av σ Q ⟨c, w, rfl, hc, hw, h⟩
  unfold usuV at h
  refine am_m0 (own := RX12) (A := look a_X12_usual) (fun X e1 e2 hB => o_X12_usual e1 e2 hB) rfl (by decide +kernel) rfl rfl 190 (w := 2) ?_
  change vcs _ _ _ _ 190 0 [(0, c), (0, w)] [] σ
  simp only [↓reduceIte, inR_0, inR_1, inR_m, vSw2_e, swP_n, swP_c, vI_e, vL_e, vNull_e, vIload_e, vLload_e, vAload_e, vIstore_e, vLstore_e, vAstore_e, vIinc_e, vIadd_e, vIsub_e, vImul_e, vIand_e, vIor_e, vIxor_e, vIshl_e, vIshr_e, vIushr_e, vIdiv_e, vIrem_e, vLadd_e, vLsub_e, vLmul_e, vLand_e, vLor_e, vLxor_e, vLdiv_e, vLrem_e, vLushr_e, vLshl_e, vLcmp_e, vIneg_e, vI2l_e, vL2i_e, vI2b_e, vI2c_e, vDup_e, vPop_e, vDup2_e, vGoto_e, vIcEq_e, vIfEq_e, vIcNe_e, vIfNe_e, vIcLt_e, vIfLt_e, vIcGe_e, vIfGe_e, vIcGt_e, vIfGt_e, vIcLe_e, vIfLe_e, vNonnull_e, vSw_e, vGetI_e, vGetL_e, vGetR_e, vPutI_e, vPutZ_e, vPutL_e, vPutR_e, vIald_e, vIald_s, vLald_e, vBald_e, vBald_s, vAald_e, vIast_e, vLast_e, vBast_e, vAast_e, vAlen_e8, vAlen_e9, vAlen_e10, vAlen_e11, vAlen_e5, vAlen_e3, vGets_e, vCompact_e, vLdcS_e, vIret_e, vZret_e, vCret_e, vBret_e, vLret_e, vVret_e, vAret_e, vCallM_e0, vCallMV_e0, vCallS_e0, vCallSV_e0, vCallM_e1, vCallMV_e1, vCallS_e1, vCallSV_e1, vCallM_e2, vCallMV_e2, vCallS_e2, vCallSV_e2, vCallM_e3, vCallMV_e3, vCallS_e3, vCallSV_e3, vCallM_e4, vCallMV_e4, vCallS_e4, vCallSV_e4, vCallM_e5, vCallMV_e5, vCallS_e5, vCallSV_e5, vCallM_e6, vCallMV_e6, vCallS_e6, vCallSV_e6, vCallM_e7, vCallMV_e7, vCallS_e7, vCallSV_e7, vBad_e, vStrVal_e, vStrCod_e, vForm_e, vCallT_e0, vCallT_e1, vCallT_e2, vCopy_e, rf_0_0, rf_0_1, rf_0_2, rf_0_3, rf_0_4, rf_0_7, rf_0_10, rf_0_11, rf_0_12, rf_0_13, rf_0_14, rf_0_15, rf_0_16, rf_1_0, rf_3_0, rf_3_1, rf_6_0, rf_6_1, rf_9_0, rf_9_1, rf_9_3, rf_13_0, rf_13_1, rf_13_2, rf_16_0, rf_16_1, rf_16_2, rf_16_3, rf_21_0, rf_21_1, rf_21_2, rf_21_3, rf_26_0, rf_26_1, rf_26_2, rf_26_3, rf_26_4, rf_26_5, rf_26_6, rf_31_0, rf_31_2, rf_31_5, rf_31_6, rf_36_0, rf_36_1, rf_36_2, rf_36_3, rf_39_0, rf_39_1, rf_39_2, rf_41_0, rf_41_1, rf_41_2, rf_41_3, rf_5000_1, rf_5000_2, rf_5000_3, rf_5000_4, rf_5000_5, rf_5000_15, rf_5000_16, rf_5000_18, rf_5000_19, rf_5000_20, rf_5000_21, rf_5000_22, rf_5000_23, rf_5000_24, rf_5000_25, rf_5000_26, rf_5000_27, rf_5000_36, rf_5000_37, rf_5000_40, rf_5000_41, rf_5000_42, rf_5000_43, rf_5000_44, rf_5000_45, rf_5000_47, rf_5000_52, rf_5000_54, rf_5000_55, rf_100_0, rf_100_1, rf_103_0, rf_103_1, rf_106_0, rf_106_1, rf_109_0, rf_109_1, al_2, al_4, al_5, al_7, al_8, al_10, al_11, al_12, al_14, al_15, al_17, al_18, al_19, al_20, al_22, al_23, al_24, al_25, al_27, al_28, al_29, al_30, al_32, al_33, al_34, al_35, al_37, al_38, al_40, al_42, al_5001, al_5002, al_5003, al_5004, al_5005, al_5006, al_5007, al_5008, al_5009, al_5010, al_5011, al_5012, al_5013, al_5014, al_5015, al_5016, al_5017, al_5018, al_5019, al_5020, al_5021, al_5022, al_5023, al_5024, al_5025, al_5026, al_9000, al_101, al_102, al_104, al_105, al_107, al_108, al_110, al_111, vcs_e, lg_c0, lg_cs, lg_nil, set_c0, set_cs, okst_0, okst_s, acok_n, acok_c, List.contains_nil, List.contains_cons, Bool.or_false, Bool.false_or, Bool.false_eq_true, if_false, if_true, ite_self, ne_eq, true_and, and_true, not_false_eq_true, not_true_eq_false, false_imp_iff, true_imp_iff, Nat.ble_eq, Bool.and_eq_true, reduceCtorEq, or_false, false_or, or_true, true_or, false_and, and_false, and_self, Int.reduceLE, Int.reduceAdd, Int.reduceSub, Int.reduceMul, Int.reduceNeg, Int.reduceLT, Int.reduceEq, Int.reduceNe, Nat.reduceBEq, Nat.reduceBNe, Nat.reduceEqDiff, amCmp_in, amCmp_lt, amCmp_le, amCmp_gt, amCmp_ge, amCmp_eq, amCmp_ne, Nat.reduceLeDiff, Nat.reduceSub, Bool.and_true, Bool.true_and, Bool.and_self, Bool.or_true, Bool.true_or, isRf_3, isRf_4, isRf_5, isRf_8, isRf_9, isRf_10, isRf_11, isRf_15, isRf_16, isRf_17, isRf_18, isRf_19, isRf_20, isRf_21, isRf_22, isRf_23, isRf_24, isRf_25, isRf_26, isRf_27, isRf_28, k_X12_usual_0, k_X12_usual_1, k_X12_usual_3, k_X12_usual_6, k_X12_usual_7, k_X12_usual_10, k_X12_usual_12, k_X12_usual_15, k_X12_usual_16, k_X12_usual_17, k_X12_usual_18, k_X12_usual_20, k_X12_usual_23, k_X12_usual_24, k_X12_usual_25, k_X12_usual_26, k_X12_usual_28, k_X12_usual_31, k_X12_usual_32, k_X12_usual_33, k_X12_usual_34, k_X12_usual_37, k_X12_usual_38, k_X12_usual_41, k_X12_usual_42, k_X12_usual_43, k_X12_usual_46, k_X12_usual_47, k_X12_usual_50, k_X12_usual_52, up_s, up_nj, up_na, up_up, savR_o, cpy_o, fillm_o, setAud_o, setv_o, setv_s, Int.reduceNe, Int.reduceEq, Int.reduceLT, Int.reduceAdd, not_false_eq_true, ne_eq, or_true, true_or]
  repeat' (first | apply And.intro | intro _)
  all_goals first | omega | exact absurd trivial (by assumption) | exact Qe h (by (repeat' split) <;> omega)
/-- the kinds of clauses: their sign, how many items each has, its row of items, and where a row stands -/
def kch (k : Int) : Int := if k = 0 then 115 else if k = 1 then 112 else if k = 2 then 99 else 116
def kln (k : Int) : Int := if k = 0 then 2 else if k = 1 then 4 else if k = 2 then 3 else 1
def kid (k : Int) : Int := if k = 0 then 5006 else if k = 1 then 5008 else if k = 2 then 5010 else 5012
theorem kln_b (k : Int) : 1 ≤ kln k ∧ kln k ≤ 4 := by unfold kln; (repeat' split) <;> omega
theorem kvals : ∀ k : Nat, k < 4 → ∀ w : Nat, w < 4 → (w : Int) < kln k → mosV (kch k) w = sav 21001 ((k : Int) * 4 + w) ∧ leaV (kch k) w = sav 21000 ((k : Int) * 4 + w) ∧ usuV (kch k) w = sav 21002 ((k : Int) * 4 + w) := by decide +kernel
theorem kvals' {k w : Int} (k0 : 0 ≤ k) (k1 : k < 4) (w0 : 0 ≤ w) (w1 : w < kln k) : mosV (kch k) w = sav 21001 (k * 4 + w) ∧ leaV (kch k) w = sav 21000 (k * 4 + w) ∧ usuV (kch k) w = sav 21002 (k * 4 + w) := by
  have kb := kln_b k
  obtain ⟨a, rfl⟩ : ∃ a : Nat, k = a := ⟨k.toNat, by omega⟩
  obtain ⟨b, rfl⟩ : ∃ b : Nat, w = b := ⟨w.toNat, by omega⟩
  exact kvals a (by omega) b (by omega) w1
/-! the reference reads the items of a clause -/
/-- which place of the class's row of 68 a place of the reference's rows is; -1: none -/
def slo (b j : Int) : Int := if b = 5006 ∧ 0 ≤ j ∧ j < 2 then j else if b = 5008 ∧ 0 ≤ j ∧ j < 16 then 4 + j else if b = 5010 ∧ 0 ≤ j ∧ j < 18 then (5 + j / 3) * 4 + j % 3 else if b = 5012 ∧ 0 ≤ j ∧ j < 6 then (11 + j) * 4 else -1
theorem slo_o {b : Int} (h1 : b ≠ 5006) (h2 : b ≠ 5008) (h3 : b ≠ 5010) (h4 : b ≠ 5012) (j : Int) : slo b j = -1 := by
  unfold slo; rw [if_neg (fun q => h1 q.1), if_neg (fun q => h2 q.1), if_neg (fun q => h3 q.1), if_neg (fun q => h4 q.1)]
theorem slo_5 (j : Int) : slo 5000 j = -1 := slo_o (by decide) (by decide) (by decide) (by decide) j
/-- while a HOUSE is read: place, fault, counts, numbers -/
def hoN (m : Mem) (p f : Int) (c v : Int → Int) : Mem := fun b j => if 0 ≤ slo b j then v (slo b j) else if b = 5000 ∧ 31 ≤ j ∧ j ≤ 33 then c (j - 30) else if b = 5000 ∧ j = 35 then c 0 else rdM m p f (m 5000 12) b j
theorem ho_k (m : Mem) (p f : Int) (c v : Int → Int) {k : Int} (h : (k < 31 ∨ 33 < k) ∧ k ≠ 35) : hoN m p f c v 5000 k = rdM m p f (m 5000 12) 5000 k := by
  unfold hoN; rw [slo_5, if_neg (by decide), if_neg (by omega), if_neg (by omega)]
theorem ho_10 (m : Mem) (p f : Int) (c v : Int → Int) : hoN m p f c v 5000 10 = p := by rw [ho_k _ _ _ _ _ (by decide)]; exact rd_10 _ _ _ _
theorem ho_11 (m : Mem) (p f : Int) (c v : Int → Int) : hoN m p f c v 5000 11 = f := by rw [ho_k _ _ _ _ _ (by decide)]; exact rd_11 _ _ _ _
theorem ho_9 (m : Mem) (p f : Int) (c v : Int → Int) : hoN m p f c v 5000 9 = m 5000 9 := by rw [ho_k _ _ _ _ _ (by decide)]; exact rd_9 _ _ _ _
theorem ho_cc (m : Mem) (p f : Int) (c v : Int → Int) {k : Int} (h : 31 ≤ k ∧ k ≤ 33) : hoN m p f c v 5000 k = c (k - 30) := by
  unfold hoN; rw [slo_5, if_neg (by decide), if_pos ⟨rfl, h⟩]
theorem ho_c0 (m : Mem) (p f : Int) (c v : Int → Int) : hoN m p f c v 5000 35 = c 0 := by
  unfold hoN; rw [slo_5, if_neg (by decide), if_neg (by decide), if_pos ⟨rfl, rfl⟩]
theorem ho_o (m : Mem) (p f : Int) (c v : Int → Int) {b : Int} (h : b ≠ 5000) (h1 : b ≠ 5006) (h2 : b ≠ 5008) (h3 : b ≠ 5010) (h4 : b ≠ 5012) : hoN m p f c v b = m b := by
  funext j; unfold hoN
  rw [slo_o h1 h2 h3 h4, if_neg (by decide), if_neg (fun q => h q.1), if_neg (fun q => h q.1), rd_r m p f _ h]
theorem ho_u10 (m : Mem) (p f x : Int) (c v : Int → Int) : up (hoN m p f c v) 5000 10 x = hoN m x f c v := by
  funext b j; unfold up hoN
  by_cases h : b = 5000 ∧ j = 10
  · rw [if_pos h, h.1, h.2, slo_5, if_neg (by decide), if_neg (by decide), if_neg (by decide)]; rfl
  · rw [if_neg h]; unfold rdM; rw [if_neg h, if_neg h]
theorem ho_u11 (m : Mem) (p f x : Int) (c v : Int → Int) : up (hoN m p f c v) 5000 11 x = hoN m p x c v := by
  funext b j; unfold up hoN
  by_cases h : b = 5000 ∧ j = 11
  · rw [if_pos h, h.1, h.2, slo_5, if_neg (by decide), if_neg (by decide), if_neg (by decide)]; rfl
  · rw [if_neg h]; unfold rdM; rw [if_neg h, if_neg h]
theorem ho_fa (m : Mem) (p : Int) (c v : Int → Int) : faM (hoN m p (-1) c v) = hoN m p p c v := by
  unfold faM; rw [if_pos (ho_11 _ _ _ _ _), ho_10, ho_u11]
theorem ho_cong {m : Mem} {p f : Int} {c v v' : Int → Int} (h : ∀ b j, 0 ≤ slo b j → v' (slo b j) = v (slo b j)) : hoN m p f c v' = hoN m p f c v := by
  funext b j; unfold hoN
  by_cases h2 : 0 ≤ slo b j
  · rw [if_pos h2, if_pos h2, h b j h2]
  · rw [if_neg h2, if_neg h2]
theorem ho_tx {m : Mem} (h : txOk m) (p f : Int) (c v : Int → Int) : mtx (hoN m p f c v) = mtx m ∧ txOk (hoN m p f c v) := by
  have hT := tx_T h
  have e5 : hoN m p f c v 5000 5 = m 5000 5 := by rw [ho_k _ _ _ _ _ (by decide)]; exact rd_5 _ _ _ _
  have e8 : hoN m p f c v 5000 8 = m 5000 8 := by rw [ho_k _ _ _ _ _ (by decide)]; exact rd_8 _ _ _ _
  constructor
  · funext i; unfold mtx; rw [ho_9, e5, e8, ho_o m p f c v (by omega) (by omega) (by omega) (by omega) (by omega)]
  · unfold txOk; rw [ho_9, e5, e8, ho_o m p f c v (by omega) (by omega) (by omega) (by omega) (by omega)]; exact h
/-- row i of the clauses of kind k: its places in the reference's row -/
theorem slo_k {k i w : Int} (k0 : 0 ≤ k) (k1 : k < 4) (i0 : 0 ≤ i) (i1 : i < mostK k) (w0 : 0 ≤ w) (w1 : w < kln k) : slo (kid k) (i * kln k + w) = (firstK k + i) * 4 + w ∧ 0 ≤ i * kln k + w ∧ i * kln k + w < mostK k * kln k := by
  have : k = 0 ∨ k = 1 ∨ k = 2 ∨ k = 3 := by omega
  rcases this with rfl | rfl | rfl | rfl
  · have e1 : kid 0 = 5006 := rfl
    have e2 : kln 0 = 2 := rfl
    have e3 : mostK 0 = 1 := rfl
    have e4 : firstK 0 = 0 := rfl
    rw [e2] at w1 ⊢
    rw [e3] at i1 ⊢
    rw [e1, e4]
    unfold slo
    rw [if_pos (by omega)]; omega
  · have e1 : kid 1 = 5008 := rfl
    have e2 : kln 1 = 4 := rfl
    have e3 : mostK 1 = 4 := rfl
    have e4 : firstK 1 = 1 := rfl
    rw [e2] at w1 ⊢
    rw [e3] at i1 ⊢
    rw [e1, e4]
    unfold slo
    rw [if_neg (by omega), if_pos (by omega)]; omega
  · have e1 : kid 2 = 5010 := rfl
    have e2 : kln 2 = 3 := rfl
    have e3 : mostK 2 = 6 := rfl
    have e4 : firstK 2 = 5 := rfl
    rw [e2] at w1 ⊢
    rw [e3] at i1 ⊢
    rw [e1, e4]
    unfold slo
    rw [if_neg (by omega), if_neg (by omega), if_pos (by omega)]; omega
  · have e1 : kid 3 = 5012 := rfl
    have e2 : kln 3 = 1 := rfl
    have e3 : mostK 3 = 6 := rfl
    have e4 : firstK 3 = 11 := rfl
    rw [e2] at w1 ⊢
    rw [e3] at i1 ⊢
    rw [e1, e4]
    unfold slo
    rw [if_neg (by omega), if_neg (by omega), if_neg (by omega), if_pos (by omega)]; omega
/-- two places are not one -/
theorem slo_inj {b j b' j' : Int} (h0 : 0 ≤ slo b j) (h : slo b' j' = slo b j) : b' = b ∧ j' = j := by
  have h0' : 0 ≤ slo b' j' := by omega
  unfold slo at *
  (repeat' split at h) <;> (repeat' split at h0) <;> (repeat' split at h0') <;> omega
/-- a place of a row is one of its items -/
theorem slo_r {k i : Int} (k0 : 0 ≤ k) (k1 : k < 4) (i0 : 0 ≤ i) (i1 : i < mostK k) {b j : Int} (h0 : (firstK k + i) * 4 ≤ slo b j) (h1 : slo b j < (firstK k + i) * 4 + 4) : slo b j < (firstK k + i) * 4 + kln k := by
  have : k = 0 ∨ k = 1 ∨ k = 2 ∨ k = 3 := by omega
  rcases this with rfl | rfl | rfl | rfl
  · have e2 : kln 0 = 2 := rfl
    have e3 : mostK 0 = 1 := rfl
    have e4 : firstK 0 = 0 := rfl
    rw [e3] at i1
    rw [e4] at h0 h1 ⊢
    rw [e2]
    unfold slo at *
    (repeat' split) <;> (repeat' split at h0) <;> (repeat' split at h1) <;> omega
  · have e2 : kln 1 = 4 := rfl
    rw [e2]; exact h1
  · have e2 : kln 2 = 3 := rfl
    have e3 : mostK 2 = 6 := rfl
    have e4 : firstK 2 = 5 := rfl
    rw [e3] at i1
    rw [e4] at h0 h1 ⊢
    rw [e2]
    unfold slo at *
    (repeat' split) <;> (repeat' split at h0) <;> (repeat' split at h1) <;> omega
  · have e2 : kln 3 = 1 := rfl
    have e3 : mostK 3 = 6 := rfl
    have e4 : firstK 3 = 11 := rfl
    rw [e3] at i1
    rw [e4] at h0 h1 ⊢
    rw [e2]
    unfold slo at *
    (repeat' split) <;> (repeat' split at h0) <;> (repeat' split at h1) <;> omega
theorem ho_w {m : Mem} {p f : Int} {c v : Int → Int} {k i w x : Int} (k0 : 0 ≤ k) (k1 : k < 4) (i0 : 0 ≤ i) (i1 : i < mostK k) (w0 : 0 ≤ w) (w1 : w < kln k) : up (hoN m p f c v) (kid k) (i * kln k + w) x = hoN m p f c (upf v ((firstK k + i) * 4 + w) x) := by
  obtain ⟨e, -, -⟩ := slo_k k0 k1 i0 i1 w0 w1
  have fb := firstK_b k
  funext b j; unfold up hoN upf
  by_cases h : b = kid k ∧ j = i * kln k + w
  · rw [if_pos h, h.1, h.2, e, if_pos (by omega), if_pos rfl]
  · rw [if_neg h]
    by_cases h2 : 0 ≤ slo b j
    · rw [if_pos h2, if_pos h2, if_neg (fun q => h (slo_inj (by rw [e]; omega) (by rw [e]; exact q)))]
    · rw [if_neg h2, if_neg h2]
/-- the first j items of a row untold -/
def flv (v : Int → Int) (k i j : Int) : Int → Int := fun s => if (firstK k + i) * 4 ≤ s ∧ s < (firstK k + i) * 4 + j then sav 21002 (k * 4 + (s - (firstK k + i) * 4)) else v s
theorem flv_0 (v : Int → Int) (k i : Int) : flv v k i 0 = v := by
  funext s; unfold flv; rw [if_neg (by omega)]
theorem flv_s (v : Int → Int) (k i : Int) {j : Int} (j0 : 0 ≤ j) : upf (flv v k i j) ((firstK k + i) * 4 + j) (sav 21002 (k * 4 + j)) = flv v k i (j + 1) := by
  funext s; unfold upf flv
  by_cases h : s = (firstK k + i) * 4 + j
  · rw [if_pos h, if_pos (by omega), h]; congr 2; omega
  · rw [if_neg h]
    by_cases h2 : (firstK k + i) * 4 ≤ s ∧ s < (firstK k + i) * 4 + j
    · rw [if_pos h2, if_pos (by omega)]
    · rw [if_neg h2, if_neg (by omega)]
theorem ho_fl {m : Mem} {p f : Int} {c v : Int → Int} {k i : Int} (k0 : 0 ≤ k) (k1 : k < 4) (i0 : 0 ≤ i) (i1 : i < mostK k) : hoN m p f c (flv v k i (kln k)) = hoN m p f c (filv v k i) := by
  have kb := kln_b k
  refine ho_cong (fun b j hb => ?_)
  unfold flv filv
  by_cases h : (firstK k + i) * 4 ≤ slo b j ∧ slo b j < (firstK k + i) * 4 + 4
  · have := slo_r k0 k1 i0 i1 h.1 h.2
    rw [if_pos ⟨h.1, this⟩, if_pos ⟨k0, k1, i0, i1, h⟩]
  · rw [if_neg (by omega), if_neg (fun q => h q.2.2.2.2)]
theorem stl_it {k : Int} (k0 : 0 ≤ k) (k1 : k < 4) : stl (20006 + k + 100) = kln k := by
  have : k = 0 ∨ k = 1 ∨ k = 2 ∨ k = 3 := by omega
  rcases this with rfl | rfl | rfl | rfl <;> rfl
theorem fidx_1 (f : Int → Int) (c : Int) : fidx f c 0 1 = if f 0 = c then 0 else -1 := rfl
theorem fidx_2 (f : Int → Int) (c : Int) : fidx f c 0 2 = if f 0 = c then 0 else if f 1 = c then 1 else -1 := rfl
theorem fidx_3 (f : Int → Int) (c : Int) : fidx f c 0 3 = if f 0 = c then 0 else if f 1 = c then 1 else if f 2 = c then 2 else -1 := rfl
theorem itm_e {k s : Int} (k0 : 0 ≤ k) (k1 : k < 4) (hs : s ≠ 32) : fidx (stv (20006 + k + 100)) s 0 (kln k).toNat = itemF k s ∧ itemF k s < kln k := by
  have : k = 0 ∨ k = 1 ∨ k = 2 ∨ k = 3 := by omega
  unfold itemF
  rw [if_pos ⟨k0, k1⟩, fidx_4]
  rcases this with rfl | rfl | rfl | rfl
  · have e0 : stv 20101 (0 * 4 + 0) = 108 := by decide
    have e1 : stv 20101 (0 * 4 + 1) = 112 := by decide
    have e2 : stv 20101 (0 * 4 + 2) = 32 := by decide
    have e3 : stv 20101 (0 * 4 + 3) = 32 := by decide
    have f0 : stv (20006 + 0 + 100) 0 = 108 := by decide
    have f1 : stv (20006 + 0 + 100) 1 = 112 := by decide
    rw [show (kln 0).toNat = 2 from rfl, show kln 0 = 2 from rfl, fidx_2, e0, e1, e2, e3, f0, f1]
    (repeat' split) <;> omega
  · have e0 : stv 20101 (1 * 4 + 0) = 97 := by decide
    have e1 : stv 20101 (1 * 4 + 1) = 98 := by decide
    have e2 : stv 20101 (1 * 4 + 2) = 99 := by decide
    have e3 : stv 20101 (1 * 4 + 3) = 109 := by decide
    have f0 : stv (20006 + 1 + 100) 0 = 97 := by decide
    have f1 : stv (20006 + 1 + 100) 1 = 98 := by decide
    have f2 : stv (20006 + 1 + 100) 2 = 99 := by decide
    have f3 : stv (20006 + 1 + 100) 3 = 109 := by decide
    rw [show (kln 1).toNat = 4 from rfl, show kln 1 = 4 from rfl, fidx_4, e0, e1, e2, e3, f0, f1, f2, f3]
    (repeat' split) <;> omega
  · have e0 : stv 20101 (2 * 4 + 0) = 104 := by decide
    have e1 : stv 20101 (2 * 4 + 1) = 116 := by decide
    have e2 : stv 20101 (2 * 4 + 2) = 109 := by decide
    have e3 : stv 20101 (2 * 4 + 3) = 32 := by decide
    have f0 : stv (20006 + 2 + 100) 0 = 104 := by decide
    have f1 : stv (20006 + 2 + 100) 1 = 116 := by decide
    have f2 : stv (20006 + 2 + 100) 2 = 109 := by decide
    rw [show (kln 2).toNat = 3 from rfl, show kln 2 = 3 from rfl, fidx_3, e0, e1, e2, e3, f0, f1, f2]
    (repeat' split) <;> omega
  · have e0 : stv 20101 (3 * 4 + 0) = 100 := by decide
    have e1 : stv 20101 (3 * 4 + 1) = 32 := by decide
    have e2 : stv 20101 (3 * 4 + 2) = 32 := by decide
    have e3 : stv 20101 (3 * 4 + 3) = 32 := by decide
    have f0 : stv (20006 + 3 + 100) 0 = 100 := by decide
    rw [show (kln 3).toNat = 1 from rfl, show kln 3 = 1 from rfl, fidx_1, e0, e1, e2, e3, f0]
    (repeat' split) <;> omega
theorem itm_m {k s : Int} (h : 0 ≤ itemF k s) : s ≠ -1 ∧ s ≠ 59 := by
  unfold itemF at h
  by_cases hk : 0 ≤ k ∧ k < 4
  · rw [if_pos hk, fidx_4] at h
    have b := fun i (i0 : 0 ≤ i) (i1 : i < 16) => (by
      have : ∀ n : Nat, n < 16 → stv 20101 (n : Int) ≠ -1 ∧ stv 20101 (n : Int) ≠ 59 := by decide
      obtain ⟨n, rfl⟩ : ∃ n : Nat, i = n := ⟨i.toNat, by omega⟩
      exact this n (by omega) : stv 20101 i ≠ -1 ∧ stv 20101 i ≠ 59)
    have b0 := b (k * 4 + 0) (by omega) (by omega)
    have b1 := b (k * 4 + 1) (by omega) (by omega)
    have b2 := b (k * 4 + 2) (by omega) (by omega)
    have b3 := b (k * 4 + 3) (by omega) (by omega)
    (repeat' split at h) <;> omega
  · rw [if_neg hk] at h; omega
theorem skp_32 {t : Int → Int} {n : Int} (ht : ∀ i, n ≤ i → t i = -1) : ∀ (f : Nat) (p : Int), n ≤ p + f → t (skp t p f) ≠ 32 := by
  intro f
  induction f with
  | zero => intro p h; unfold skp; rw [ht p (by omega)]; decide
  | succ f ih =>
    intro p h; unfold skp
    by_cases c : t p = 32
    · rw [if_pos c]; exact ih (p + 1) (by omega)
    · rw [if_neg c]; exact c
theorem sk_32 {t : Int → Int} {n : Int} (ht : ∀ i, n ≤ i → t i = -1) (p : Int) : t (sk t n p) ≠ 32 := skp_32 ht _ _ (by omega)
/-- how many items are told -/
def bc4 (t : Int) : Int := t % 2 + t / 2 % 2 + t / 4 % 2 + t / 8 % 2
theorem bc4_s0 : ∀ t : Nat, t < 16 → ∀ w : Nat, w < 4 → (t : Int) / (2 ^ w) % 2 ≠ 1 → bc4 ((t : Int) + 2 ^ w) = bc4 t + 1 := by decide +kernel
theorem bc4_s {t w : Int} (t0 : 0 ≤ t) (t1 : t < 16) (w0 : 0 ≤ w) (w1 : w < 4) (h : t / (2 ^ w.toNat) % 2 ≠ 1) : bc4 (t + 2 ^ w.toNat) = bc4 t + 1 := by
  obtain ⟨a, rfl⟩ : ∃ a : Nat, t = a := ⟨t.toNat, by omega⟩
  exact bc4_s0 a (by omega) w.toNat (by omega) h
theorem bc4_b (t : Int) : 0 ≤ bc4 t ∧ bc4 t ≤ 4 := by unfold bc4; omega
theorem nd_0 {t : Int → Int} {s : Int} (h : ¬ dg (t s)) : ndig t s 2 = 0 := by unfold ndig; rw [if_neg h]
theorem nd_1 {t : Int → Int} {s : Int} (h : dg (t s)) (h1 : ¬ dg (t (s + 1))) : ndig t s 2 = 1 ∧ nval t s 0 2 = t s - 48 := by
  unfold ndig nval; rw [if_pos h, if_pos h]; unfold ndig nval; rw [if_neg h1, if_neg h1]; omega
theorem nd_2 {t : Int → Int} {s : Int} (h : dg (t s)) (h1 : dg (t (s + 1))) : ndig t s 2 = 2 ∧ nval t s 0 2 = 10 * (t s - 48) + t (s + 1) - 48 := by
  unfold ndig nval; rw [if_pos h, if_pos h]; unfold ndig nval; rw [if_pos h1, if_pos h1]; unfold ndig nval; omega
/-! the reference reads the items of a clause, whole -/
theorem btp (x w : Int) : bt x w = x / (2 ^ w.toNat) % 2 := by unfold bt; rw [Int.natCast_pow]; rfl
theorem kid_al {k : Int} (k0 : 0 ≤ k) (k1 : k < 4) (τ : Mem) : alen TT τ (kid k) = mostK k * kln k ∧ mostK k * kln k ≤ 18 ∧ 5006 ≤ kid k ∧ kid k ≤ 5012 := by
  have : k = 0 ∨ k = 1 ∨ k = 2 ∨ k = 3 := by omega
  rcases this with rfl | rfl | rfl | rfl <;> exact ⟨rfl, by decide, by decide, by decide⟩
theorem kch_b (k : Int) : 0 ≤ kch k ∧ kch k ≤ 200 := by unfold kch; (repeat' split) <;> omega
abbrev hRi (m : Mem) (p : Int) (v : Int → Int) (k i : Int) : Int × Int × (Int → Int) := hIt (mtx m) (m 5000 9) k (firstK k + i) 5 0 p (filv v k i)

theorem wd_1512 : Cond.methodLink RX12 236 yX12_usual ∈ TBL := tb_tab (List.mem_of_getElem? (i := 1512) (by decide +kernel)) rfl
theorem wd_1514 : Cond.code yX12_usual cX12_usual 2 (some .int) ∈ TBL := tb_tab (List.mem_of_getElem? (i := 1514) (by decide +kernel)) rfl
theorem lk_X12_236 : amLk RX12 236 yX12_usual cX12_usual 2 (some .int) 2 := ⟨wd_1512, wd_12, wd_1514, by decide +kernel, by decide +kernel, by decide⟩
theorem wd_1513 : Cond.static yX12_usual ∈ TBL := tb_tab (List.mem_of_getElem? (i := 1513) (by decide +kernel)) rfl
theorem wd_1540 : Cond.methodLink RX12 248 yX12_leastOf ∈ TBL := tb_tab (List.mem_of_getElem? (i := 1540) (by decide +kernel)) rfl
theorem wd_1542 : Cond.code yX12_leastOf cX12_leastOf 2 (some .int) ∈ TBL := tb_tab (List.mem_of_getElem? (i := 1542) (by decide +kernel)) rfl
theorem lk_X12_248 : amLk RX12 248 yX12_leastOf cX12_leastOf 2 (some .int) 2 := ⟨wd_1540, wd_12, wd_1542, by decide +kernel, by decide +kernel, by decide⟩
theorem wd_1541 : Cond.static yX12_leastOf ∈ TBL := tb_tab (List.mem_of_getElem? (i := 1541) (by decide +kernel)) rfl
theorem wd_1543 : Cond.methodLink RX12 251 yX12_mostOf ∈ TBL := tb_tab (List.mem_of_getElem? (i := 1543) (by decide +kernel)) rfl
theorem wd_1545 : Cond.code yX12_mostOf cX12_mostOf 2 (some .int) ∈ TBL := tb_tab (List.mem_of_getElem? (i := 1545) (by decide +kernel)) rfl
theorem lk_X12_251 : amLk RX12 251 yX12_mostOf cX12_mostOf 2 (some .int) 2 := ⟨wd_1543, wd_12, wd_1545, by decide +kernel, by decide +kernel, by decide⟩
theorem wd_1544 : Cond.static yX12_mostOf ∈ TBL := tb_tab (List.mem_of_getElem? (i := 1544) (by decide +kernel)) rfl
theorem wd_1546 : Cond.methodLink RX12 254 yX12_number ∈ TBL := tb_tab (List.mem_of_getElem? (i := 1546) (by decide +kernel)) rfl
theorem wd_1549 : Cond.code yX12_number cX12_number 5 (some .int) ∈ TBL := tb_tab (List.mem_of_getElem? (i := 1549) (by decide +kernel)) rfl
theorem lk_X12_254 : amLk RX12 254 yX12_number cX12_number 5 (some .int) 2 := ⟨wd_1546, wd_12, wd_1549, by decide +kernel, by decide +kernel, by decide⟩
theorem wd_1548 : Cond.instanceMethod yX12_number ∈ TBL := tb_tab (List.mem_of_getElem? (i := 1548) (by decide +kernel)) rfl
theorem sl_X12_number : Cond.selects RX12 yX12_number yX12_number ∈ TBL := tb_sel (List.mem_of_getElem? (i := 54) (by decide +kernel)) rfl
def a_X12_readItems : AC := [(0, vI 0 1), (1, vIstore 5 3), (3, vIload 5 5), (5, vAload 4 7), (7, vCallT w_J0_length_8abf5 0 10), (10, vIcGe 31 13), (13, vAload 2 14), (14, vIload 3 15), (15, vIload 5 17), (17, vIadd 18), (18, vIload 1 19), (19, vIload 5 21), (21, vCallS w_X12_usual 2 24), (24, vIast TT 25), (25, vIinc 5 1 28), (28, vGoto 3), (31, vI 0 32), (32, vIstore 5 34), (34, vAload 4 36), (36, vAload 0 37), (37, vCallM w_X12_look 28 0 40), (40, vCallS w_X12_spotOf 2 43), (43, vIstore 6 45), (45, vIload 6 47), (47, vI (-1) 48), (48, vIcEq 138 51), (51, vAload 0 52), (52, vGetI 28 11 55), (55, vI (-1) 56), (56, vIcNe 138 59), (59, vIload 5 61), (61, vIload 6 63), (63, vCallS w_X12_has 2 66), (66, vIfEq 75 69), (69, vAload 0 70), (70, vCallM w_X12_fails 28 0 73), (73, vPop 74), (74, vVret), (75, vIload 5 77), (77, vI 1 78), (78, vIload 6 80), (80, vIshl 81), (81, vIor 82), (82, vIstore 5 84), (84, vAload 0 85), (85, vDup 86), (86, vGetI 28 10 89), (89, vI 1 90), (90, vIadd 91), (91, vPutI 28 10 94), (94, vAload 2 95), (95, vIload 3 96), (96, vIload 6 98), (98, vIadd 99), (99, vAload 0 100), (100, vIload 1 101), (101, vIload 6 103), (103, vCallS w_X12_leastOf 2 106), (106, vIload 1 107), (107, vIload 6 109), (109, vCallS w_X12_mostOf 2 112), (112, vCallM w_X12_number 28 2 115), (115, vIast TT 116), (116, vAload 0 117), (117, vGetI 28 11 120), (120, vI (-1) 121), (121, vIcNe 45 124), (124, vAload 4 126), (126, vAload 0 127), (127, vCallM w_X12_look 28 0 130), (130, vCallS w_X12_spotOf 2 133), (133, vIstore 6 135), (135, vGoto 45), (138, vVret)]
theorem k_X12_readItems_0 : look a_X12_readItems 0 = vI 0 1 := rfl
theorem k_X12_readItems_1 : look a_X12_readItems 1 = vIstore 5 3 := rfl
theorem k_X12_readItems_3 : look a_X12_readItems 3 = vIload 5 5 := rfl
theorem k_X12_readItems_5 : look a_X12_readItems 5 = vAload 4 7 := rfl
theorem k_X12_readItems_7 : look a_X12_readItems 7 = vCallT w_J0_length_8abf5 0 10 := rfl
theorem k_X12_readItems_10 : look a_X12_readItems 10 = vIcGe 31 13 := rfl
theorem k_X12_readItems_13 : look a_X12_readItems 13 = vAload 2 14 := rfl
theorem k_X12_readItems_14 : look a_X12_readItems 14 = vIload 3 15 := rfl
theorem k_X12_readItems_15 : look a_X12_readItems 15 = vIload 5 17 := rfl
theorem k_X12_readItems_17 : look a_X12_readItems 17 = vIadd 18 := rfl
theorem k_X12_readItems_18 : look a_X12_readItems 18 = vIload 1 19 := rfl
theorem k_X12_readItems_19 : look a_X12_readItems 19 = vIload 5 21 := rfl
theorem k_X12_readItems_21 : look a_X12_readItems 21 = vCallS w_X12_usual 2 24 := rfl
theorem k_X12_readItems_24 : look a_X12_readItems 24 = vIast TT 25 := rfl
theorem k_X12_readItems_25 : look a_X12_readItems 25 = vIinc 5 1 28 := rfl
theorem k_X12_readItems_28 : look a_X12_readItems 28 = vGoto 3 := rfl
theorem k_X12_readItems_31 : look a_X12_readItems 31 = vI 0 32 := rfl
theorem k_X12_readItems_32 : look a_X12_readItems 32 = vIstore 5 34 := rfl
theorem k_X12_readItems_34 : look a_X12_readItems 34 = vAload 4 36 := rfl
theorem k_X12_readItems_36 : look a_X12_readItems 36 = vAload 0 37 := rfl
theorem k_X12_readItems_37 : look a_X12_readItems 37 = vCallM w_X12_look 28 0 40 := rfl
theorem k_X12_readItems_40 : look a_X12_readItems 40 = vCallS w_X12_spotOf 2 43 := rfl
theorem k_X12_readItems_43 : look a_X12_readItems 43 = vIstore 6 45 := rfl
theorem k_X12_readItems_45 : look a_X12_readItems 45 = vIload 6 47 := rfl
theorem k_X12_readItems_47 : look a_X12_readItems 47 = vI (-1) 48 := rfl
theorem k_X12_readItems_48 : look a_X12_readItems 48 = vIcEq 138 51 := rfl
theorem k_X12_readItems_51 : look a_X12_readItems 51 = vAload 0 52 := rfl
theorem k_X12_readItems_52 : look a_X12_readItems 52 = vGetI 28 11 55 := rfl
theorem k_X12_readItems_55 : look a_X12_readItems 55 = vI (-1) 56 := rfl
theorem k_X12_readItems_56 : look a_X12_readItems 56 = vIcNe 138 59 := rfl
theorem k_X12_readItems_59 : look a_X12_readItems 59 = vIload 5 61 := rfl
theorem k_X12_readItems_61 : look a_X12_readItems 61 = vIload 6 63 := rfl
theorem k_X12_readItems_63 : look a_X12_readItems 63 = vCallS w_X12_has 2 66 := rfl
theorem k_X12_readItems_66 : look a_X12_readItems 66 = vIfEq 75 69 := rfl
theorem k_X12_readItems_69 : look a_X12_readItems 69 = vAload 0 70 := rfl
theorem k_X12_readItems_70 : look a_X12_readItems 70 = vCallM w_X12_fails 28 0 73 := rfl
theorem k_X12_readItems_73 : look a_X12_readItems 73 = vPop 74 := rfl
theorem k_X12_readItems_74 : look a_X12_readItems 74 = vVret := rfl
theorem k_X12_readItems_75 : look a_X12_readItems 75 = vIload 5 77 := rfl
theorem k_X12_readItems_77 : look a_X12_readItems 77 = vI 1 78 := rfl
theorem k_X12_readItems_78 : look a_X12_readItems 78 = vIload 6 80 := rfl
theorem k_X12_readItems_80 : look a_X12_readItems 80 = vIshl 81 := rfl
theorem k_X12_readItems_81 : look a_X12_readItems 81 = vIor 82 := rfl
theorem k_X12_readItems_82 : look a_X12_readItems 82 = vIstore 5 84 := rfl
theorem k_X12_readItems_84 : look a_X12_readItems 84 = vAload 0 85 := rfl
theorem k_X12_readItems_85 : look a_X12_readItems 85 = vDup 86 := rfl
theorem k_X12_readItems_86 : look a_X12_readItems 86 = vGetI 28 10 89 := rfl
theorem k_X12_readItems_89 : look a_X12_readItems 89 = vI 1 90 := rfl
theorem k_X12_readItems_90 : look a_X12_readItems 90 = vIadd 91 := rfl
theorem k_X12_readItems_91 : look a_X12_readItems 91 = vPutI 28 10 94 := rfl
theorem k_X12_readItems_94 : look a_X12_readItems 94 = vAload 2 95 := rfl
theorem k_X12_readItems_95 : look a_X12_readItems 95 = vIload 3 96 := rfl
theorem k_X12_readItems_96 : look a_X12_readItems 96 = vIload 6 98 := rfl
theorem k_X12_readItems_98 : look a_X12_readItems 98 = vIadd 99 := rfl
theorem k_X12_readItems_99 : look a_X12_readItems 99 = vAload 0 100 := rfl
theorem k_X12_readItems_100 : look a_X12_readItems 100 = vIload 1 101 := rfl
theorem k_X12_readItems_101 : look a_X12_readItems 101 = vIload 6 103 := rfl
theorem k_X12_readItems_103 : look a_X12_readItems 103 = vCallS w_X12_leastOf 2 106 := rfl
theorem k_X12_readItems_106 : look a_X12_readItems 106 = vIload 1 107 := rfl
theorem k_X12_readItems_107 : look a_X12_readItems 107 = vIload 6 109 := rfl
theorem k_X12_readItems_109 : look a_X12_readItems 109 = vCallS w_X12_mostOf 2 112 := rfl
theorem k_X12_readItems_112 : look a_X12_readItems 112 = vCallM w_X12_number 28 2 115 := rfl
theorem k_X12_readItems_115 : look a_X12_readItems 115 = vIast TT 116 := rfl
theorem k_X12_readItems_116 : look a_X12_readItems 116 = vAload 0 117 := rfl
theorem k_X12_readItems_117 : look a_X12_readItems 117 = vGetI 28 11 120 := rfl
theorem k_X12_readItems_120 : look a_X12_readItems 120 = vI (-1) 121 := rfl
theorem k_X12_readItems_121 : look a_X12_readItems 121 = vIcNe 45 124 := rfl
theorem k_X12_readItems_124 : look a_X12_readItems 124 = vAload 4 126 := rfl
theorem k_X12_readItems_126 : look a_X12_readItems 126 = vAload 0 127 := rfl
theorem k_X12_readItems_127 : look a_X12_readItems 127 = vCallM w_X12_look 28 0 130 := rfl
theorem k_X12_readItems_130 : look a_X12_readItems 130 = vCallS w_X12_spotOf 2 133 := rfl
theorem k_X12_readItems_133 : look a_X12_readItems 133 = vIstore 6 135 := rfl
theorem k_X12_readItems_135 : look a_X12_readItems 135 = vGoto 45 := rfl
theorem k_X12_readItems_138 : look a_X12_readItems 138 = vVret := rfl
theorem o_X12_readItems {X : amX} (e1 : XT X = TT) (e2 : XD X = 5) (hB : amB X RX12 cX12_readItems (none) 7) : ∀ pc, amOK X pc (look a_X12_readItems pc) := by
  have hT : amTok (XT X) := e1 ▸ TT_ok
  refine look_ok ?_
  unfold a_X12_readItems
  refine fc (ok_iconst hB dX12_readItems_0) ?_
  refine fc (ok_istore hB (by decide) dX12_readItems_1) ?_
  refine fc (ok_iload hB dX12_readItems_3) ?_
  refine fc (ok_aload hB dX12_readItems_5) ?_
  refine fc (ok_callT hB (e1 ▸ s_J0_length_8abf5) lk_X12_114 (by rw [e2]; decide) rfl wd_435 wd_436 dX12_readItems_7) ?_
  refine fc (ok_icmp_ge hB (t := 31) (by decide) dX12_readItems_10) ?_
  refine fc (ok_aload_n hB dX12_readItems_13) ?_
  refine fc (ok_iload_n hB dX12_readItems_14) ?_
  refine fc (ok_iload hB dX12_readItems_15) ?_
  refine fc (ok_iadd hB dX12_readItems_17) ?_
  refine fc (ok_iload_n hB dX12_readItems_18) ?_
  refine fc (ok_iload hB dX12_readItems_19) ?_
  refine fc (ok_callS hB (e1 ▸ s_X12_usual) lk_X12_236 (by rw [e2]; decide) wd_1513 dX12_readItems_21) ?_
  refine fc (okt_iastore e1 hB dX12_readItems_24) ?_
  refine fc (ok_iinc hB (by decide) dX12_readItems_25) ?_
  refine fc (ok_goto hB (t := 3) (by decide) dX12_readItems_28) ?_
  refine fc (ok_iconst hB dX12_readItems_31) ?_
  refine fc (ok_istore hB (by decide) dX12_readItems_32) ?_
  refine fc (ok_aload hB dX12_readItems_34) ?_
  refine fc (ok_aload_n hB dX12_readItems_36) ?_
  refine fc (ok_callM hB hT (e1 ▸ s_X12_look) lk_X12_153 (by rw [e2]; decide) (c := 12) rfl rfl rfl wd_1521 sl_X12_look dX12_readItems_37) ?_
  refine fc (ok_callS hB (e1 ▸ s_X12_spotOf) lk_X12_240 (by rw [e2]; decide) wd_1534 dX12_readItems_40) ?_
  refine fc (ok_istore hB (by decide) dX12_readItems_43) ?_
  refine fc (ok_iload hB dX12_readItems_45) ?_
  refine fc (ok_iconst hB dX12_readItems_47) ?_
  refine fc (ok_icmp_eq hB (t := 138) (by decide) dX12_readItems_48) ?_
  refine fc (ok_aload_n hB dX12_readItems_51) ?_
  refine fc (ok_getI hB hT fl_X12_143 rfl rfl (Or.inl af_12_11) dX12_readItems_52) ?_
  refine fc (ok_iconst hB dX12_readItems_55) ?_
  refine fc (ok_icmp_ne hB (t := 138) (by decide) dX12_readItems_56) ?_
  refine fc (ok_iload hB dX12_readItems_59) ?_
  refine fc (ok_iload hB dX12_readItems_61) ?_
  refine fc (ok_callS hB (e1 ▸ s_X12_has) lk_X12_244 (by rw [e2]; decide) wd_1538 dX12_readItems_63) ?_
  refine fc (ok_if_eq hB (t := 75) (by decide) dX12_readItems_66) ?_
  refine fc (ok_aload_n hB dX12_readItems_69) ?_
  refine fc (ok_callM hB hT (e1 ▸ s_X12_fails) lk_X12_149 (by rw [e2]; decide) (c := 12) rfl rfl rfl wd_1525 sl_X12_fails dX12_readItems_70) ?_
  refine fc (ok_pop hB dX12_readItems_73) ?_
  refine fc (ok_vret hB dX12_readItems_74) ?_
  refine fc (ok_iload hB dX12_readItems_75) ?_
  refine fc (ok_iconst hB dX12_readItems_77) ?_
  refine fc (ok_iload hB dX12_readItems_78) ?_
  refine fc (ok_ishl hB dX12_readItems_80) ?_
  refine fc (ok_ior hB dX12_readItems_81) ?_
  refine fc (ok_istore hB (by decide) dX12_readItems_82) ?_
  refine fc (ok_aload_n hB dX12_readItems_84) ?_
  refine fc (ok_dup hB dX12_readItems_85) ?_
  refine fc (ok_getI hB hT fl_X12_134 rfl rfl (Or.inl af_12_10) dX12_readItems_86) ?_
  refine fc (ok_iconst hB dX12_readItems_89) ?_
  refine fc (ok_iadd hB dX12_readItems_90) ?_
  refine fc (ok_putI hB hT fp_X12_134 rfl rfl rfl af_12_10 dX12_readItems_91) ?_
  refine fc (ok_aload_n hB dX12_readItems_94) ?_
  refine fc (ok_iload_n hB dX12_readItems_95) ?_
  refine fc (ok_iload hB dX12_readItems_96) ?_
  refine fc (ok_iadd hB dX12_readItems_98) ?_
  refine fc (ok_aload_n hB dX12_readItems_99) ?_
  refine fc (ok_iload_n hB dX12_readItems_100) ?_
  refine fc (ok_iload hB dX12_readItems_101) ?_
  refine fc (ok_callS hB (e1 ▸ s_X12_leastOf) lk_X12_248 (by rw [e2]; decide) wd_1541 dX12_readItems_103) ?_
  refine fc (ok_iload_n hB dX12_readItems_106) ?_
  refine fc (ok_iload hB dX12_readItems_107) ?_
  refine fc (ok_callS hB (e1 ▸ s_X12_mostOf) lk_X12_251 (by rw [e2]; decide) wd_1544 dX12_readItems_109) ?_
  refine fc (ok_callM hB hT (e1 ▸ s_X12_number) lk_X12_254 (by rw [e2]; decide) (c := 12) rfl rfl rfl wd_1548 sl_X12_number dX12_readItems_112) ?_
  refine fc (okt_iastore e1 hB dX12_readItems_115) ?_
  refine fc (ok_aload_n hB dX12_readItems_116) ?_
  refine fc (ok_getI hB hT fl_X12_143 rfl rfl (Or.inl af_12_11) dX12_readItems_117) ?_
  refine fc (ok_iconst hB dX12_readItems_120) ?_
  refine fc (ok_icmp_ne hB (t := 45) (by decide) dX12_readItems_121) ?_
  refine fc (ok_aload hB dX12_readItems_124) ?_
  refine fc (ok_aload_n hB dX12_readItems_126) ?_
  refine fc (ok_callM hB hT (e1 ▸ s_X12_look) lk_X12_153 (by rw [e2]; decide) (c := 12) rfl rfl rfl wd_1521 sl_X12_look dX12_readItems_127) ?_
  refine fc (ok_callS hB (e1 ▸ s_X12_spotOf) lk_X12_240 (by rw [e2]; decide) wd_1534 dX12_readItems_130) ?_
  refine fc (ok_istore hB (by decide) dX12_readItems_133) ?_
  refine fc (ok_goto hB (t := 45) (by decide) dX12_readItems_135) ?_
  refine fc (ok_vret hB dX12_readItems_138) ?_
  exact fn
def inv_rit (m : Mem) (cc v : Int → Int) (p k i c a r z L : Int) (R : Int × Int × (Int → Int)) (n pc : Nat) (ls st : List AV) (σ' : Mem) : Prop := st = [] ∧
  ((∃ j : Nat, pc = 3 ∧ ls = [(28, 5000), (0, c), (8, a), (0, r), (4, z), (0, (j : Int)), (6, 0)] ∧ σ' = hoN m p (-1) cc (flv v k i j) ∧ (j : Int) ≤ L ∧ (n : Int) = 10 + L - j) ∨
   (∃ (f : Nat) (told q : Int) (v' : Int → Int), pc = 45 ∧ n = f + 1 ∧ ls = [(28, 5000), (0, c), (8, a), (0, r), (4, z), (0, told), (0, itemF k (mtx m (sk (mtx m) (m 5000 9) q)))] ∧ σ' = hoN m (sk (mtx m) (m 5000 9) q) (-1) cc v' ∧ 0 ≤ told ∧ told < 16 ∧ bc4 told + f = 5 ∧ 0 ≤ q ∧ q ≤ m 5000 9 ∧ rowB v' ∧ hIt (mtx m) (m 5000 9) k (firstK k + i) f told q v' = R) ∨
   (∃ (told w x q : Int) (v' : Int → Int), pc = 45 ∧ n = 0 ∧ ls = [(28, 5000), (0, c), (8, a), (0, r), (4, z), (0, told), (0, w)] ∧ InR w ∧ σ' = hoN m q x cc v' ∧ 0 ≤ x ∧ x ≤ 250 ∧ rowB v' ∧ R.1 = x))
def w_X12_readItems : WP := fun av σ Q => ∃ (c : Int) (a : Int) (r : Int) (z : Int), av = [(28, 5000), (0, c), (8, a), (0, r), (4, z)] ∧ (∃ (m : Mem) (p : Int) (cc v : Int → Int) (k i : Int), σ = hoN m p (-1) cc v ∧ c = kch k ∧ a = kid k ∧ r = i * kln k ∧ z = 20006 + k ∧ 0 ≤ k ∧ k < 4 ∧ 0 ≤ i ∧ i < mostK k ∧ txOk m ∧ 0 ≤ p ∧ p ≤ m 5000 9 ∧ rowB v ∧ ((hRi m p v k i).1 = -1 → Q (6, 0) (hoN m (hRi m p v k i).2.1 (-1) cc (hRi m p v k i).2.2)) ∧ ((hRi m p v k i).1 ≠ -1 → (∀ q v', rowB v' → Q (6, 0) (hoN m q (hRi m p v k i).1 cc v')) ∧ (∀ v', rowB v' → mtx m (hRi m p v k i).1 ≠ -1 → mtx m (hRi m p v k i).1 ≠ 59 → sk (mtx m) (m 5000 9) (hRi m p v k i).1 = (hRi m p v k i).1 → Q (6, 0) (hoN m (hRi m p v k i).1 (-1) cc v'))))
theorem w_X12_readItems_e (c : Int) (a : Int) (r : Int) (z : Int) (σ : Mem) (Q : AV → Mem → Prop) : w_X12_readItems [(28, 5000), (0, c), (8, a), (0, r), (4, z)] σ Q = (∃ (m : Mem) (p : Int) (cc v : Int → Int) (k i : Int), σ = hoN m p (-1) cc v ∧ c = kch k ∧ a = kid k ∧ r = i * kln k ∧ z = 20006 + k ∧ 0 ≤ k ∧ k < 4 ∧ 0 ≤ i ∧ i < mostK k ∧ txOk m ∧ 0 ≤ p ∧ p ≤ m 5000 9 ∧ rowB v ∧ ((hRi m p v k i).1 = -1 → Q (6, 0) (hoN m (hRi m p v k i).2.1 (-1) cc (hRi m p v k i).2.2)) ∧ ((hRi m p v k i).1 ≠ -1 → (∀ q v', rowB v' → Q (6, 0) (hoN m q (hRi m p v k i).1 cc v')) ∧ (∀ v', rowB v' → mtx m (hRi m p v k i).1 ≠ -1 → mtx m (hRi m p v k i).1 ≠ 59 → sk (mtx m) (m 5000 9) (hRi m p v k i).1 = (hRi m p v k i).1 → Q (6, 0) (hoN m (hRi m p v k i).1 (-1) cc v')))) := by
  apply propext; constructor
  · rintro ⟨c', a', r', z', h9, hb9⟩; cases h9; exact hb9
  · intro hb9; exact ⟨c, a, r, z, rfl, hb9⟩

set_option maxRecDepth 100000 in
set_option maxHeartbeats 4000000 in
theorem s_X12_readItems : ∀ av σ Q, w_X12_readItems av σ Q → amCall 5 0 0 TT yX12_readItems cX12_readItems 7 (none) av σ Q := by
  rintro av σ Q ⟨c, a, r, z, rfl, m, p, cc, v, k, i, rfl, hc, ha, hr, hz, k0, k1, i0, i1, ht, p0, p1, hvB, hq1, hq2⟩
  have n0 := ht.1
  have n1 := ht.2.1
  have hte := mtx_n ht
  have kb := kln_b k
  have cb := kch_b k
  have kv := fun w (w0 : 0 ≤ w) (w1 : w < kln k) => kvals' k0 k1 w0 w1
  have sb := fun w (w0 : 0 ≤ w) (w1 : w < 4) => sav_b (i := k * 4 + w) (by omega) (by omega)
  have al : ∀ τ, alen TT τ a = mostK k * kln k := fun τ => by rw [ha]; exact (kid_al k0 k1 τ).1
  have Ab := (kid_al k0 k1 (fun _ _ => 0)).2
  rw [← ha] at Ab
  have a0 : 0 ≤ a := by omega
  have hsl := fun w (w0 : 0 ≤ w) (w1 : w < kln k) => (slo_k k0 k1 i0 i1 w0 w1).2
  have ssl : stl (z + 100) = kln k := by rw [hz]; exact stl_it k0 k1
  have itm := fun s (hs : s ≠ 32) => itm_e k0 k1 (s := s) hs
  have hw : ∀ p f c v w x, 0 ≤ w → w < kln k → up (hoN m p f c v) a (r + w) x = hoN m p f c (upf v ((firstK k + i) * 4 + w) x) := fun p f c v w x w0 w1 => by rw [ha, hr]; exact ho_w k0 k1 i0 i1 w0 w1
  have hfl : ∀ p f, hoN m p f cc (flv v k i (kln k)) = hoN m p f cc (filv v k i) := fun p f => ho_fl k0 k1 i0 i1
  rw [← hr] at hsl
  rw [← hc] at kv cb
  rw [← hz] at itm
  have z0 : 20000 ≤ z ∧ z < 20011 := by omega
  have Mt : ∀ p f c v, mtx (hoN m p f c v) = mtx m := fun p f c v => (ho_tx ht p f c v).1
  have MtO : ∀ p f c v, txOk (hoN m p f c v) = True := fun p f c v => eq_true (ho_tx ht p f c v).2
  generalize hR : hIt (mtx m) (m 5000 9) k (firstK k + i) 5 0 p (filv v k i) = R at hq1 hq2
  generalize mostK k * kln k = A at *
  generalize hL : kln k = L at *
  refine am_m [3, 45] (inv_rit m cc v p k i c a r z L R) (own := RX12) (A := look a_X12_readItems) (fun X e1 e2 hB => o_X12_readItems e1 e2 hB) rfl (by decide +kernel) rfl rfl ?_ ⟨60, ?_⟩ (w := 7)
  · rintro n pc ls st σ' ⟨rfl, ⟨j, rfl, rfl, rfl, hj, hn⟩ | ⟨f, told, q, v', rfl, rfl, rfl, rfl, t0, t1, hb, q0, q1, vB, hI⟩ | ⟨told, w, x, q, v', rfl, rfl, rfl, w9, rfl, x0, x1, vB, hx⟩⟩
    · by_cases cj : (j : Int) < L
      · have e9 : up (hoN m p (-1) cc (flv v k i j)) a (r + j) (usuV c j) = hoN m p (-1) cc (flv v k i ((j : Int) + 1)) := by
          rw [hw _ _ _ _ _ _ (by omega) cj, (kv j (by omega) cj).2.2, flv_s v k i (by omega)]
        have i9 : ∃ k', k' < n ∧ inv_rit m cc v p k i c a r z L R k' 3 [(28, 5000), (0, c), (8, a), (0, r), (4, z), (0, (j : Int) + 1), (6, 0)] [] (hoN m p (-1) cc (flv v k i ((j : Int) + 1))) := ⟨n - 1, by omega, rfl, Or.inl ⟨j + 1, rfl, rfl, rfl, by omega, by omega⟩⟩
        have hs := hsl j (by omega) cj
        refine ⟨60, ?_⟩
        simp only [↓reduceIte, inR_0, inR_1, inR_m, vSw2_e, swP_n, swP_c, vI_e, vL_e, vNull_e, vIload_e, vLload_e, vAload_e, vIstore_e, vLstore_e, vAstore_e, vIinc_e, vIadd_e, vIsub_e, vImul_e, vIand_e, vIor_e, vIxor_e, vIshl_e, vIshr_e, vIushr_e, vIdiv_e, vIrem_e, vLadd_e, vLsub_e, vLmul_e, vLand_e, vLor_e, vLxor_e, vLdiv_e, vLrem_e, vLushr_e, vLshl_e, vLcmp_e, vIneg_e, vI2l_e, vL2i_e, vI2b_e, vI2c_e, vDup_e, vPop_e, vDup2_e, vGoto_e, vIcEq_e, vIfEq_e, vIcNe_e, vIfNe_e, vIcLt_e, vIfLt_e, vIcGe_e, vIfGe_e, vIcGt_e, vIfGt_e, vIcLe_e, vIfLe_e, vNonnull_e, vSw_e, vGetI_e, vGetL_e, vGetR_e, vPutI_e, vPutZ_e, vPutL_e, vPutR_e, vIald_e, vIald_s, vLald_e, vBald_e, vBald_s, vAald_e, vIast_e, vLast_e, vBast_e, vAast_e, vAlen_e8, vAlen_e9, vAlen_e10, vAlen_e11, vAlen_e5, vAlen_e3, vGets_e, vCompact_e, vLdcS_e, vIret_e, vZret_e, vCret_e, vBret_e, vLret_e, vVret_e, vAret_e, vCallM_e0, vCallMV_e0, vCallS_e0, vCallSV_e0, vCallM_e1, vCallMV_e1, vCallS_e1, vCallSV_e1, vCallM_e2, vCallMV_e2, vCallS_e2, vCallSV_e2, vCallM_e3, vCallMV_e3, vCallS_e3, vCallSV_e3, vCallM_e4, vCallMV_e4, vCallS_e4, vCallSV_e4, vCallM_e5, vCallMV_e5, vCallS_e5, vCallSV_e5, vCallM_e6, vCallMV_e6, vCallS_e6, vCallSV_e6, vCallM_e7, vCallMV_e7, vCallS_e7, vCallSV_e7, vBad_e, vStrVal_e, vStrCod_e, vForm_e, vCallT_e0, vCallT_e1, vCallT_e2, vCopy_e, rf_0_0, rf_0_1, rf_0_2, rf_0_3, rf_0_4, rf_0_7, rf_0_10, rf_0_11, rf_0_12, rf_0_13, rf_0_14, rf_0_15, rf_0_16, rf_1_0, rf_3_0, rf_3_1, rf_6_0, rf_6_1, rf_9_0, rf_9_1, rf_9_3, rf_13_0, rf_13_1, rf_13_2, rf_16_0, rf_16_1, rf_16_2, rf_16_3, rf_21_0, rf_21_1, rf_21_2, rf_21_3, rf_26_0, rf_26_1, rf_26_2, rf_26_3, rf_26_4, rf_26_5, rf_26_6, rf_31_0, rf_31_2, rf_31_5, rf_31_6, rf_36_0, rf_36_1, rf_36_2, rf_36_3, rf_39_0, rf_39_1, rf_39_2, rf_41_0, rf_41_1, rf_41_2, rf_41_3, rf_5000_1, rf_5000_2, rf_5000_3, rf_5000_4, rf_5000_5, rf_5000_15, rf_5000_16, rf_5000_18, rf_5000_19, rf_5000_20, rf_5000_21, rf_5000_22, rf_5000_23, rf_5000_24, rf_5000_25, rf_5000_26, rf_5000_27, rf_5000_36, rf_5000_37, rf_5000_40, rf_5000_41, rf_5000_42, rf_5000_43, rf_5000_44, rf_5000_45, rf_5000_47, rf_5000_52, rf_5000_54, rf_5000_55, rf_100_0, rf_100_1, rf_103_0, rf_103_1, rf_106_0, rf_106_1, rf_109_0, rf_109_1, al_2, al_4, al_5, al_7, al_8, al_10, al_11, al_12, al_14, al_15, al_17, al_18, al_19, al_20, al_22, al_23, al_24, al_25, al_27, al_28, al_29, al_30, al_32, al_33, al_34, al_35, al_37, al_38, al_40, al_42, al_5001, al_5002, al_5003, al_5004, al_5005, al_5006, al_5007, al_5008, al_5009, al_5010, al_5011, al_5012, al_5013, al_5014, al_5015, al_5016, al_5017, al_5018, al_5019, al_5020, al_5021, al_5022, al_5023, al_5024, al_5025, al_5026, al_9000, al_101, al_102, al_104, al_105, al_107, al_108, al_110, al_111, vcs_e, lg_c0, lg_cs, lg_nil, set_c0, set_cs, okst_0, okst_s, acok_n, acok_c, List.contains_nil, List.contains_cons, Bool.or_false, Bool.false_or, Bool.false_eq_true, if_false, if_true, ite_self, ne_eq, true_and, and_true, not_false_eq_true, not_true_eq_false, false_imp_iff, true_imp_iff, Nat.ble_eq, Bool.and_eq_true, reduceCtorEq, or_false, false_or, or_true, true_or, false_and, and_false, and_self, Int.reduceLE, Int.reduceAdd, Int.reduceSub, Int.reduceMul, Int.reduceNeg, Int.reduceLT, Int.reduceEq, Int.reduceNe, Nat.reduceBEq, Nat.reduceBNe, Nat.reduceEqDiff, amCmp_in, amCmp_lt, amCmp_le, amCmp_gt, amCmp_ge, amCmp_eq, amCmp_ne, Nat.reduceLeDiff, Nat.reduceSub, Bool.and_true, Bool.true_and, Bool.and_self, Bool.or_true, Bool.true_or, isRf_3, isRf_4, isRf_5, isRf_8, isRf_9, isRf_10, isRf_11, isRf_15, isRf_16, isRf_17, isRf_18, isRf_19, isRf_20, isRf_21, isRf_22, isRf_23, isRf_24, isRf_25, isRf_26, isRf_27, isRf_28, k_X12_readItems_0, k_X12_readItems_1, k_X12_readItems_3, k_X12_readItems_5, k_X12_readItems_7, k_X12_readItems_10, k_X12_readItems_13, k_X12_readItems_14, k_X12_readItems_15, k_X12_readItems_17, k_X12_readItems_18, k_X12_readItems_19, k_X12_readItems_21, k_X12_readItems_24, k_X12_readItems_25, k_X12_readItems_28, k_X12_readItems_31, k_X12_readItems_32, k_X12_readItems_34, k_X12_readItems_36, k_X12_readItems_37, k_X12_readItems_40, k_X12_readItems_43, k_X12_readItems_45, k_X12_readItems_47, k_X12_readItems_48, k_X12_readItems_51, k_X12_readItems_52, k_X12_readItems_55, k_X12_readItems_56, k_X12_readItems_59, k_X12_readItems_61, k_X12_readItems_63, k_X12_readItems_66, k_X12_readItems_69, k_X12_readItems_70, k_X12_readItems_73, k_X12_readItems_74, k_X12_readItems_75, k_X12_readItems_77, k_X12_readItems_78, k_X12_readItems_80, k_X12_readItems_81, k_X12_readItems_82, k_X12_readItems_84, k_X12_readItems_85, k_X12_readItems_86, k_X12_readItems_89, k_X12_readItems_90, k_X12_readItems_91, k_X12_readItems_94, k_X12_readItems_95, k_X12_readItems_96, k_X12_readItems_98, k_X12_readItems_99, k_X12_readItems_100, k_X12_readItems_101, k_X12_readItems_103, k_X12_readItems_106, k_X12_readItems_107, k_X12_readItems_109, k_X12_readItems_112, k_X12_readItems_115, k_X12_readItems_116, k_X12_readItems_117, k_X12_readItems_120, k_X12_readItems_121, k_X12_readItems_124, k_X12_readItems_126, k_X12_readItems_127, k_X12_readItems_130, k_X12_readItems_133, k_X12_readItems_135, k_X12_readItems_138, w_J0_length_8abf5_e, w_X12_fails_e, w_X12_has_e, w_X12_leastOf_e, w_X12_look_e, w_X12_mostOf_e, w_X12_number_e, w_X12_spotOf_e, w_X12_usual_e, ssl, al, a0, e9]
        repeat' (first | apply And.intro | intro _)
        all_goals first | omega | exact absurd trivial (by assumption) | exact i9 | exact ⟨by omega, by omega⟩
      · have ej : (j : Int) = L := by omega
        rw [ej, hfl]
        have s1 := sk_b (mtx m) p1
        have b1 := mtx_b ht (sk (mtx m) (m 5000 9) p)
        have fb := itemF_b k (mtx m (sk (mtx m) (m 5000 9) p))
        have ei := (itm (mtx m (sk (mtx m) (m 5000 9) p)) (sk_32 hte p)).1
        have i9 : ∃ k', k' < n ∧ inv_rit m cc v p k i c a r z L R k' 45 [(28, 5000), (0, c), (8, a), (0, r), (4, z), (0, 0), (0, itemF k (mtx m (sk (mtx m) (m 5000 9) p)))] [] (hoN m (sk (mtx m) (m 5000 9) p) (-1) cc (filv v k i)) := ⟨6, by omega, rfl, Or.inr (Or.inl ⟨5, 0, p, _, rfl, rfl, rfl, rfl, by decide, by decide, by decide, p0, p1, filv_B hvB _ _, hR⟩)⟩
        refine ⟨60, ?_⟩
        simp only [↓reduceIte, inR_0, inR_1, inR_m, vSw2_e, swP_n, swP_c, vI_e, vL_e, vNull_e, vIload_e, vLload_e, vAload_e, vIstore_e, vLstore_e, vAstore_e, vIinc_e, vIadd_e, vIsub_e, vImul_e, vIand_e, vIor_e, vIxor_e, vIshl_e, vIshr_e, vIushr_e, vIdiv_e, vIrem_e, vLadd_e, vLsub_e, vLmul_e, vLand_e, vLor_e, vLxor_e, vLdiv_e, vLrem_e, vLushr_e, vLshl_e, vLcmp_e, vIneg_e, vI2l_e, vL2i_e, vI2b_e, vI2c_e, vDup_e, vPop_e, vDup2_e, vGoto_e, vIcEq_e, vIfEq_e, vIcNe_e, vIfNe_e, vIcLt_e, vIfLt_e, vIcGe_e, vIfGe_e, vIcGt_e, vIfGt_e, vIcLe_e, vIfLe_e, vNonnull_e, vSw_e, vGetI_e, vGetL_e, vGetR_e, vPutI_e, vPutZ_e, vPutL_e, vPutR_e, vIald_e, vIald_s, vLald_e, vBald_e, vBald_s, vAald_e, vIast_e, vLast_e, vBast_e, vAast_e, vAlen_e8, vAlen_e9, vAlen_e10, vAlen_e11, vAlen_e5, vAlen_e3, vGets_e, vCompact_e, vLdcS_e, vIret_e, vZret_e, vCret_e, vBret_e, vLret_e, vVret_e, vAret_e, vCallM_e0, vCallMV_e0, vCallS_e0, vCallSV_e0, vCallM_e1, vCallMV_e1, vCallS_e1, vCallSV_e1, vCallM_e2, vCallMV_e2, vCallS_e2, vCallSV_e2, vCallM_e3, vCallMV_e3, vCallS_e3, vCallSV_e3, vCallM_e4, vCallMV_e4, vCallS_e4, vCallSV_e4, vCallM_e5, vCallMV_e5, vCallS_e5, vCallSV_e5, vCallM_e6, vCallMV_e6, vCallS_e6, vCallSV_e6, vCallM_e7, vCallMV_e7, vCallS_e7, vCallSV_e7, vBad_e, vStrVal_e, vStrCod_e, vForm_e, vCallT_e0, vCallT_e1, vCallT_e2, vCopy_e, rf_0_0, rf_0_1, rf_0_2, rf_0_3, rf_0_4, rf_0_7, rf_0_10, rf_0_11, rf_0_12, rf_0_13, rf_0_14, rf_0_15, rf_0_16, rf_1_0, rf_3_0, rf_3_1, rf_6_0, rf_6_1, rf_9_0, rf_9_1, rf_9_3, rf_13_0, rf_13_1, rf_13_2, rf_16_0, rf_16_1, rf_16_2, rf_16_3, rf_21_0, rf_21_1, rf_21_2, rf_21_3, rf_26_0, rf_26_1, rf_26_2, rf_26_3, rf_26_4, rf_26_5, rf_26_6, rf_31_0, rf_31_2, rf_31_5, rf_31_6, rf_36_0, rf_36_1, rf_36_2, rf_36_3, rf_39_0, rf_39_1, rf_39_2, rf_41_0, rf_41_1, rf_41_2, rf_41_3, rf_5000_1, rf_5000_2, rf_5000_3, rf_5000_4, rf_5000_5, rf_5000_15, rf_5000_16, rf_5000_18, rf_5000_19, rf_5000_20, rf_5000_21, rf_5000_22, rf_5000_23, rf_5000_24, rf_5000_25, rf_5000_26, rf_5000_27, rf_5000_36, rf_5000_37, rf_5000_40, rf_5000_41, rf_5000_42, rf_5000_43, rf_5000_44, rf_5000_45, rf_5000_47, rf_5000_52, rf_5000_54, rf_5000_55, rf_100_0, rf_100_1, rf_103_0, rf_103_1, rf_106_0, rf_106_1, rf_109_0, rf_109_1, al_2, al_4, al_5, al_7, al_8, al_10, al_11, al_12, al_14, al_15, al_17, al_18, al_19, al_20, al_22, al_23, al_24, al_25, al_27, al_28, al_29, al_30, al_32, al_33, al_34, al_35, al_37, al_38, al_40, al_42, al_5001, al_5002, al_5003, al_5004, al_5005, al_5006, al_5007, al_5008, al_5009, al_5010, al_5011, al_5012, al_5013, al_5014, al_5015, al_5016, al_5017, al_5018, al_5019, al_5020, al_5021, al_5022, al_5023, al_5024, al_5025, al_5026, al_9000, al_101, al_102, al_104, al_105, al_107, al_108, al_110, al_111, vcs_e, lg_c0, lg_cs, lg_nil, set_c0, set_cs, okst_0, okst_s, acok_n, acok_c, List.contains_nil, List.contains_cons, Bool.or_false, Bool.false_or, Bool.false_eq_true, if_false, if_true, ite_self, ne_eq, true_and, and_true, not_false_eq_true, not_true_eq_false, false_imp_iff, true_imp_iff, Nat.ble_eq, Bool.and_eq_true, reduceCtorEq, or_false, false_or, or_true, true_or, false_and, and_false, and_self, Int.reduceLE, Int.reduceAdd, Int.reduceSub, Int.reduceMul, Int.reduceNeg, Int.reduceLT, Int.reduceEq, Int.reduceNe, Nat.reduceBEq, Nat.reduceBNe, Nat.reduceEqDiff, amCmp_in, amCmp_lt, amCmp_le, amCmp_gt, amCmp_ge, amCmp_eq, amCmp_ne, Nat.reduceLeDiff, Nat.reduceSub, Bool.and_true, Bool.true_and, Bool.and_self, Bool.or_true, Bool.true_or, isRf_3, isRf_4, isRf_5, isRf_8, isRf_9, isRf_10, isRf_11, isRf_15, isRf_16, isRf_17, isRf_18, isRf_19, isRf_20, isRf_21, isRf_22, isRf_23, isRf_24, isRf_25, isRf_26, isRf_27, isRf_28, k_X12_readItems_0, k_X12_readItems_1, k_X12_readItems_3, k_X12_readItems_5, k_X12_readItems_7, k_X12_readItems_10, k_X12_readItems_13, k_X12_readItems_14, k_X12_readItems_15, k_X12_readItems_17, k_X12_readItems_18, k_X12_readItems_19, k_X12_readItems_21, k_X12_readItems_24, k_X12_readItems_25, k_X12_readItems_28, k_X12_readItems_31, k_X12_readItems_32, k_X12_readItems_34, k_X12_readItems_36, k_X12_readItems_37, k_X12_readItems_40, k_X12_readItems_43, k_X12_readItems_45, k_X12_readItems_47, k_X12_readItems_48, k_X12_readItems_51, k_X12_readItems_52, k_X12_readItems_55, k_X12_readItems_56, k_X12_readItems_59, k_X12_readItems_61, k_X12_readItems_63, k_X12_readItems_66, k_X12_readItems_69, k_X12_readItems_70, k_X12_readItems_73, k_X12_readItems_74, k_X12_readItems_75, k_X12_readItems_77, k_X12_readItems_78, k_X12_readItems_80, k_X12_readItems_81, k_X12_readItems_82, k_X12_readItems_84, k_X12_readItems_85, k_X12_readItems_86, k_X12_readItems_89, k_X12_readItems_90, k_X12_readItems_91, k_X12_readItems_94, k_X12_readItems_95, k_X12_readItems_96, k_X12_readItems_98, k_X12_readItems_99, k_X12_readItems_100, k_X12_readItems_101, k_X12_readItems_103, k_X12_readItems_106, k_X12_readItems_107, k_X12_readItems_109, k_X12_readItems_112, k_X12_readItems_115, k_X12_readItems_116, k_X12_readItems_117, k_X12_readItems_120, k_X12_readItems_121, k_X12_readItems_124, k_X12_readItems_126, k_X12_readItems_127, k_X12_readItems_130, k_X12_readItems_133, k_X12_readItems_135, k_X12_readItems_138, w_J0_length_8abf5_e, w_X12_fails_e, w_X12_has_e, w_X12_leastOf_e, w_X12_look_e, w_X12_mostOf_e, w_X12_number_e, w_X12_spotOf_e, w_X12_usual_e, ssl, msk, Mt, MtO, ho_10, ho_9, ho_11, ho_u10, ei]
        repeat' (first | apply And.intro | intro _)
        all_goals first | omega | exact absurd trivial (by assumption) | exact i9 | exact ⟨by omega, by omega⟩
    · have bb := bc4_b told
      obtain ⟨f', rfl⟩ : ∃ f', f = f' + 1 := ⟨f - 1, by omega⟩
      have s1 := sk_b (mtx m) q1
      have ss := sk_sk (mtx m) q1
      have b1 := mtx_b ht (sk (mtx m) (m 5000 9) q)
      have fb := itemF_b k (mtx m (sk (mtx m) (m 5000 9) q))
      have ei := (itm (mtx m (sk (mtx m) (m 5000 9) q)) (sk_32 hte q)).2
      have im := itm_m (k := k) (s := mtx m (sk (mtx m) (m 5000 9) q))
      unfold hIt at hI
      generalize hqs : sk (mtx m) (m 5000 9) q = s at *
      generalize hw9 : itemF k (mtx m s) = w at *
      refine ⟨90, ?_⟩
      by_cases cw : w = -1
      · have q9 : Q (6, 0) (hoN m s (-1) cc v') := by
          by_cases ce : mtx m s = -1 ∨ mtx m s = 59
          · rw [if_pos ce] at hI
            have := hq1 (by rw [← hI])
            rw [← hI] at this; exact this
          · rw [if_neg ce, if_pos (Or.inl cw)] at hI
            have hR1 : R.1 = s := by rw [← hI]
            have := (hq2 (by rw [hR1]; omega)).2 v' vB
            rw [hR1] at this
            exact this (by omega) (by omega) (by rw [← hqs]; exact ss)
        simp only [↓reduceIte, inR_0, inR_1, inR_m, vSw2_e, swP_n, swP_c, vI_e, vL_e, vNull_e, vIload_e, vLload_e, vAload_e, vIstore_e, vLstore_e, vAstore_e, vIinc_e, vIadd_e, vIsub_e, vImul_e, vIand_e, vIor_e, vIxor_e, vIshl_e, vIshr_e, vIushr_e, vIdiv_e, vIrem_e, vLadd_e, vLsub_e, vLmul_e, vLand_e, vLor_e, vLxor_e, vLdiv_e, vLrem_e, vLushr_e, vLshl_e, vLcmp_e, vIneg_e, vI2l_e, vL2i_e, vI2b_e, vI2c_e, vDup_e, vPop_e, vDup2_e, vGoto_e, vIcEq_e, vIfEq_e, vIcNe_e, vIfNe_e, vIcLt_e, vIfLt_e, vIcGe_e, vIfGe_e, vIcGt_e, vIfGt_e, vIcLe_e, vIfLe_e, vNonnull_e, vSw_e, vGetI_e, vGetL_e, vGetR_e, vPutI_e, vPutZ_e, vPutL_e, vPutR_e, vIald_e, vIald_s, vLald_e, vBald_e, vBald_s, vAald_e, vIast_e, vLast_e, vBast_e, vAast_e, vAlen_e8, vAlen_e9, vAlen_e10, vAlen_e11, vAlen_e5, vAlen_e3, vGets_e, vCompact_e, vLdcS_e, vIret_e, vZret_e, vCret_e, vBret_e, vLret_e, vVret_e, vAret_e, vCallM_e0, vCallMV_e0, vCallS_e0, vCallSV_e0, vCallM_e1, vCallMV_e1, vCallS_e1, vCallSV_e1, vCallM_e2, vCallMV_e2, vCallS_e2, vCallSV_e2, vCallM_e3, vCallMV_e3, vCallS_e3, vCallSV_e3, vCallM_e4, vCallMV_e4, vCallS_e4, vCallSV_e4, vCallM_e5, vCallMV_e5, vCallS_e5, vCallSV_e5, vCallM_e6, vCallMV_e6, vCallS_e6, vCallSV_e6, vCallM_e7, vCallMV_e7, vCallS_e7, vCallSV_e7, vBad_e, vStrVal_e, vStrCod_e, vForm_e, vCallT_e0, vCallT_e1, vCallT_e2, vCopy_e, rf_0_0, rf_0_1, rf_0_2, rf_0_3, rf_0_4, rf_0_7, rf_0_10, rf_0_11, rf_0_12, rf_0_13, rf_0_14, rf_0_15, rf_0_16, rf_1_0, rf_3_0, rf_3_1, rf_6_0, rf_6_1, rf_9_0, rf_9_1, rf_9_3, rf_13_0, rf_13_1, rf_13_2, rf_16_0, rf_16_1, rf_16_2, rf_16_3, rf_21_0, rf_21_1, rf_21_2, rf_21_3, rf_26_0, rf_26_1, rf_26_2, rf_26_3, rf_26_4, rf_26_5, rf_26_6, rf_31_0, rf_31_2, rf_31_5, rf_31_6, rf_36_0, rf_36_1, rf_36_2, rf_36_3, rf_39_0, rf_39_1, rf_39_2, rf_41_0, rf_41_1, rf_41_2, rf_41_3, rf_5000_1, rf_5000_2, rf_5000_3, rf_5000_4, rf_5000_5, rf_5000_15, rf_5000_16, rf_5000_18, rf_5000_19, rf_5000_20, rf_5000_21, rf_5000_22, rf_5000_23, rf_5000_24, rf_5000_25, rf_5000_26, rf_5000_27, rf_5000_36, rf_5000_37, rf_5000_40, rf_5000_41, rf_5000_42, rf_5000_43, rf_5000_44, rf_5000_45, rf_5000_47, rf_5000_52, rf_5000_54, rf_5000_55, rf_100_0, rf_100_1, rf_103_0, rf_103_1, rf_106_0, rf_106_1, rf_109_0, rf_109_1, al_2, al_4, al_5, al_7, al_8, al_10, al_11, al_12, al_14, al_15, al_17, al_18, al_19, al_20, al_22, al_23, al_24, al_25, al_27, al_28, al_29, al_30, al_32, al_33, al_34, al_35, al_37, al_38, al_40, al_42, al_5001, al_5002, al_5003, al_5004, al_5005, al_5006, al_5007, al_5008, al_5009, al_5010, al_5011, al_5012, al_5013, al_5014, al_5015, al_5016, al_5017, al_5018, al_5019, al_5020, al_5021, al_5022, al_5023, al_5024, al_5025, al_5026, al_9000, al_101, al_102, al_104, al_105, al_107, al_108, al_110, al_111, vcs_e, lg_c0, lg_cs, lg_nil, set_c0, set_cs, okst_0, okst_s, acok_n, acok_c, List.contains_nil, List.contains_cons, Bool.or_false, Bool.false_or, Bool.false_eq_true, if_false, if_true, ite_self, ne_eq, true_and, and_true, not_false_eq_true, not_true_eq_false, false_imp_iff, true_imp_iff, Nat.ble_eq, Bool.and_eq_true, reduceCtorEq, or_false, false_or, or_true, true_or, false_and, and_false, and_self, Int.reduceLE, Int.reduceAdd, Int.reduceSub, Int.reduceMul, Int.reduceNeg, Int.reduceLT, Int.reduceEq, Int.reduceNe, Nat.reduceBEq, Nat.reduceBNe, Nat.reduceEqDiff, amCmp_in, amCmp_lt, amCmp_le, amCmp_gt, amCmp_ge, amCmp_eq, amCmp_ne, Nat.reduceLeDiff, Nat.reduceSub, Bool.and_true, Bool.true_and, Bool.and_self, Bool.or_true, Bool.true_or, isRf_3, isRf_4, isRf_5, isRf_8, isRf_9, isRf_10, isRf_11, isRf_15, isRf_16, isRf_17, isRf_18, isRf_19, isRf_20, isRf_21, isRf_22, isRf_23, isRf_24, isRf_25, isRf_26, isRf_27, isRf_28, k_X12_readItems_0, k_X12_readItems_1, k_X12_readItems_3, k_X12_readItems_5, k_X12_readItems_7, k_X12_readItems_10, k_X12_readItems_13, k_X12_readItems_14, k_X12_readItems_15, k_X12_readItems_17, k_X12_readItems_18, k_X12_readItems_19, k_X12_readItems_21, k_X12_readItems_24, k_X12_readItems_25, k_X12_readItems_28, k_X12_readItems_31, k_X12_readItems_32, k_X12_readItems_34, k_X12_readItems_36, k_X12_readItems_37, k_X12_readItems_40, k_X12_readItems_43, k_X12_readItems_45, k_X12_readItems_47, k_X12_readItems_48, k_X12_readItems_51, k_X12_readItems_52, k_X12_readItems_55, k_X12_readItems_56, k_X12_readItems_59, k_X12_readItems_61, k_X12_readItems_63, k_X12_readItems_66, k_X12_readItems_69, k_X12_readItems_70, k_X12_readItems_73, k_X12_readItems_74, k_X12_readItems_75, k_X12_readItems_77, k_X12_readItems_78, k_X12_readItems_80, k_X12_readItems_81, k_X12_readItems_82, k_X12_readItems_84, k_X12_readItems_85, k_X12_readItems_86, k_X12_readItems_89, k_X12_readItems_90, k_X12_readItems_91, k_X12_readItems_94, k_X12_readItems_95, k_X12_readItems_96, k_X12_readItems_98, k_X12_readItems_99, k_X12_readItems_100, k_X12_readItems_101, k_X12_readItems_103, k_X12_readItems_106, k_X12_readItems_107, k_X12_readItems_109, k_X12_readItems_112, k_X12_readItems_115, k_X12_readItems_116, k_X12_readItems_117, k_X12_readItems_120, k_X12_readItems_121, k_X12_readItems_124, k_X12_readItems_126, k_X12_readItems_127, k_X12_readItems_130, k_X12_readItems_133, k_X12_readItems_135, k_X12_readItems_138, cw]
        repeat' (first | apply And.intro | intro _)
        all_goals first | omega | exact absurd trivial (by assumption) | exact q9
      · have hm := im (by omega)
        have b16 := bit16' t0 t1 (i := w) (by omega) (by omega)
        rw [if_neg (by omega)] at hI
        have eb := btp told w
        have lts : s < m 5000 9 := sk_lt hte (q := s) hm.1
        by_cases ct : told / (2 ^ w.toNat) % 2 = 1
        · rw [if_pos (Or.inr ct)] at hI
          have hR1 : R.1 = s := by rw [← hI]
          have q9 := (hq2 (by rw [hR1]; omega)).1 s v' vB
          rw [hR1] at q9
          rw [ct] at eb
          simp only [↓reduceIte, inR_0, inR_1, inR_m, vSw2_e, swP_n, swP_c, vI_e, vL_e, vNull_e, vIload_e, vLload_e, vAload_e, vIstore_e, vLstore_e, vAstore_e, vIinc_e, vIadd_e, vIsub_e, vImul_e, vIand_e, vIor_e, vIxor_e, vIshl_e, vIshr_e, vIushr_e, vIdiv_e, vIrem_e, vLadd_e, vLsub_e, vLmul_e, vLand_e, vLor_e, vLxor_e, vLdiv_e, vLrem_e, vLushr_e, vLshl_e, vLcmp_e, vIneg_e, vI2l_e, vL2i_e, vI2b_e, vI2c_e, vDup_e, vPop_e, vDup2_e, vGoto_e, vIcEq_e, vIfEq_e, vIcNe_e, vIfNe_e, vIcLt_e, vIfLt_e, vIcGe_e, vIfGe_e, vIcGt_e, vIfGt_e, vIcLe_e, vIfLe_e, vNonnull_e, vSw_e, vGetI_e, vGetL_e, vGetR_e, vPutI_e, vPutZ_e, vPutL_e, vPutR_e, vIald_e, vIald_s, vLald_e, vBald_e, vBald_s, vAald_e, vIast_e, vLast_e, vBast_e, vAast_e, vAlen_e8, vAlen_e9, vAlen_e10, vAlen_e11, vAlen_e5, vAlen_e3, vGets_e, vCompact_e, vLdcS_e, vIret_e, vZret_e, vCret_e, vBret_e, vLret_e, vVret_e, vAret_e, vCallM_e0, vCallMV_e0, vCallS_e0, vCallSV_e0, vCallM_e1, vCallMV_e1, vCallS_e1, vCallSV_e1, vCallM_e2, vCallMV_e2, vCallS_e2, vCallSV_e2, vCallM_e3, vCallMV_e3, vCallS_e3, vCallSV_e3, vCallM_e4, vCallMV_e4, vCallS_e4, vCallSV_e4, vCallM_e5, vCallMV_e5, vCallS_e5, vCallSV_e5, vCallM_e6, vCallMV_e6, vCallS_e6, vCallSV_e6, vCallM_e7, vCallMV_e7, vCallS_e7, vCallSV_e7, vBad_e, vStrVal_e, vStrCod_e, vForm_e, vCallT_e0, vCallT_e1, vCallT_e2, vCopy_e, rf_0_0, rf_0_1, rf_0_2, rf_0_3, rf_0_4, rf_0_7, rf_0_10, rf_0_11, rf_0_12, rf_0_13, rf_0_14, rf_0_15, rf_0_16, rf_1_0, rf_3_0, rf_3_1, rf_6_0, rf_6_1, rf_9_0, rf_9_1, rf_9_3, rf_13_0, rf_13_1, rf_13_2, rf_16_0, rf_16_1, rf_16_2, rf_16_3, rf_21_0, rf_21_1, rf_21_2, rf_21_3, rf_26_0, rf_26_1, rf_26_2, rf_26_3, rf_26_4, rf_26_5, rf_26_6, rf_31_0, rf_31_2, rf_31_5, rf_31_6, rf_36_0, rf_36_1, rf_36_2, rf_36_3, rf_39_0, rf_39_1, rf_39_2, rf_41_0, rf_41_1, rf_41_2, rf_41_3, rf_5000_1, rf_5000_2, rf_5000_3, rf_5000_4, rf_5000_5, rf_5000_15, rf_5000_16, rf_5000_18, rf_5000_19, rf_5000_20, rf_5000_21, rf_5000_22, rf_5000_23, rf_5000_24, rf_5000_25, rf_5000_26, rf_5000_27, rf_5000_36, rf_5000_37, rf_5000_40, rf_5000_41, rf_5000_42, rf_5000_43, rf_5000_44, rf_5000_45, rf_5000_47, rf_5000_52, rf_5000_54, rf_5000_55, rf_100_0, rf_100_1, rf_103_0, rf_103_1, rf_106_0, rf_106_1, rf_109_0, rf_109_1, al_2, al_4, al_5, al_7, al_8, al_10, al_11, al_12, al_14, al_15, al_17, al_18, al_19, al_20, al_22, al_23, al_24, al_25, al_27, al_28, al_29, al_30, al_32, al_33, al_34, al_35, al_37, al_38, al_40, al_42, al_5001, al_5002, al_5003, al_5004, al_5005, al_5006, al_5007, al_5008, al_5009, al_5010, al_5011, al_5012, al_5013, al_5014, al_5015, al_5016, al_5017, al_5018, al_5019, al_5020, al_5021, al_5022, al_5023, al_5024, al_5025, al_5026, al_9000, al_101, al_102, al_104, al_105, al_107, al_108, al_110, al_111, vcs_e, lg_c0, lg_cs, lg_nil, set_c0, set_cs, okst_0, okst_s, acok_n, acok_c, List.contains_nil, List.contains_cons, Bool.or_false, Bool.false_or, Bool.false_eq_true, if_false, if_true, ite_self, ne_eq, true_and, and_true, not_false_eq_true, not_true_eq_false, false_imp_iff, true_imp_iff, Nat.ble_eq, Bool.and_eq_true, reduceCtorEq, or_false, false_or, or_true, true_or, false_and, and_false, and_self, Int.reduceLE, Int.reduceAdd, Int.reduceSub, Int.reduceMul, Int.reduceNeg, Int.reduceLT, Int.reduceEq, Int.reduceNe, Nat.reduceBEq, Nat.reduceBNe, Nat.reduceEqDiff, amCmp_in, amCmp_lt, amCmp_le, amCmp_gt, amCmp_ge, amCmp_eq, amCmp_ne, Nat.reduceLeDiff, Nat.reduceSub, Bool.and_true, Bool.true_and, Bool.and_self, Bool.or_true, Bool.true_or, isRf_3, isRf_4, isRf_5, isRf_8, isRf_9, isRf_10, isRf_11, isRf_15, isRf_16, isRf_17, isRf_18, isRf_19, isRf_20, isRf_21, isRf_22, isRf_23, isRf_24, isRf_25, isRf_26, isRf_27, isRf_28, k_X12_readItems_0, k_X12_readItems_1, k_X12_readItems_3, k_X12_readItems_5, k_X12_readItems_7, k_X12_readItems_10, k_X12_readItems_13, k_X12_readItems_14, k_X12_readItems_15, k_X12_readItems_17, k_X12_readItems_18, k_X12_readItems_19, k_X12_readItems_21, k_X12_readItems_24, k_X12_readItems_25, k_X12_readItems_28, k_X12_readItems_31, k_X12_readItems_32, k_X12_readItems_34, k_X12_readItems_36, k_X12_readItems_37, k_X12_readItems_40, k_X12_readItems_43, k_X12_readItems_45, k_X12_readItems_47, k_X12_readItems_48, k_X12_readItems_51, k_X12_readItems_52, k_X12_readItems_55, k_X12_readItems_56, k_X12_readItems_59, k_X12_readItems_61, k_X12_readItems_63, k_X12_readItems_66, k_X12_readItems_69, k_X12_readItems_70, k_X12_readItems_73, k_X12_readItems_74, k_X12_readItems_75, k_X12_readItems_77, k_X12_readItems_78, k_X12_readItems_80, k_X12_readItems_81, k_X12_readItems_82, k_X12_readItems_84, k_X12_readItems_85, k_X12_readItems_86, k_X12_readItems_89, k_X12_readItems_90, k_X12_readItems_91, k_X12_readItems_94, k_X12_readItems_95, k_X12_readItems_96, k_X12_readItems_98, k_X12_readItems_99, k_X12_readItems_100, k_X12_readItems_101, k_X12_readItems_103, k_X12_readItems_106, k_X12_readItems_107, k_X12_readItems_109, k_X12_readItems_112, k_X12_readItems_115, k_X12_readItems_116, k_X12_readItems_117, k_X12_readItems_120, k_X12_readItems_121, k_X12_readItems_124, k_X12_readItems_126, k_X12_readItems_127, k_X12_readItems_130, k_X12_readItems_133, k_X12_readItems_135, k_X12_readItems_138, w_J0_length_8abf5_e, w_X12_fails_e, w_X12_has_e, w_X12_leastOf_e, w_X12_look_e, w_X12_mostOf_e, w_X12_number_e, w_X12_spotOf_e, w_X12_usual_e, ho_10, ho_9, ho_11, ho_u10, ho_u11, ho_fa, eb]
          repeat' (first | apply And.intro | intro _)
          all_goals first | omega | exact absurd trivial (by assumption) | exact q9 | exact ⟨by omega, by omega⟩
        · have eb0 : bt told w = 0 := by have := bt_b told w; omega
          have et : amIor told (amIshl 1 w) = told + 2 ^ w.toNat := by rw [b16.2.1, if_neg ct]
          have tb : told + 2 ^ w.toNat < 16 := b16.2.2.2 ct
          have tc := bc4_s t0 t1 (by omega) (by omega) ct
          rw [if_neg (by omega)] at hI
          have s3 := sk_b (mtx m) (n := m 5000 9) (p := s + 1) (by omega)
          generalize hs2 : sk (mtx m) (m 5000 9) (s + 1) = s2 at *
          have hsw := hsl w (by omega) (by omega)
          have ww : ∀ p f c v x, up (hoN m p f c v) a (r + w) x = hoN m p f c (upf v ((firstK k + i) * 4 + w) x) := fun p f c v x => hw p f c v w x (by omega) (by omega)
          obtain ⟨kv1, kv2, -⟩ := kv w (by omega) (by omega)
          have sbw := sb w (by omega) (by omega)
          have b2 := mtx_b ht s2
          have b3 := mtx_b ht (s2 + 1)
          generalize hT2 : told + 2 ^ w.toNat = T at *
          have T0 : 0 ≤ T := by have := b16.2.2.1; omega
          have uB : ∀ X, 0 ≤ X → X ≤ 99 → rowB (upf v' ((firstK k + i) * 4 + w) X) := fun X X0 X1 j j0 j1 => by
            unfold upf; split
            · exact ⟨X0, X1⟩
            · exact vB j j0 j1
          /- a fault in the number -/
          have iF : ∀ x X, R.1 = x → 0 ≤ x → x ≤ 250 → 0 ≤ X ∧ X ≤ 99 → ∃ k', k' < f' + 1 + 1 ∧ inv_rit m cc v p k i c a r z L R k' 45 [(28, 5000), (0, c), (8, a), (0, r), (4, z), (0, T), (0, w)] [] (hoN m x x cc (upf v' ((firstK k + i) * 4 + w) X)) := fun x X e e0 e1 hX => ⟨0, by omega, rfl, Or.inr (Or.inr ⟨T, w, x, x, _, rfl, rfl, rfl, ⟨by omega, by omega⟩, rfl, e0, e1, uB X hX.1 hX.2, e⟩)⟩
          /- a number -/
          have iG : ∀ q' x, 0 ≤ q' → q' ≤ m 5000 9 → 0 ≤ x ∧ x ≤ 99 → hIt (mtx m) (m 5000 9) k (firstK k + i) f' T q' (upf v' ((firstK k + i) * 4 + w) x) = R → ∃ k', k' < f' + 1 + 1 ∧ inv_rit m cc v p k i c a r z L R k' 45 [(28, 5000), (0, c), (8, a), (0, r), (4, z), (0, T), (0, itemF k (mtx m (sk (mtx m) (m 5000 9) q')))] [] (hoN m (sk (mtx m) (m 5000 9) q') (-1) cc (upf v' ((firstK k + i) * 4 + w) x)) := fun q' x e0 e1 hx e => ⟨f' + 1, by omega, rfl, Or.inr (Or.inl ⟨f', T, q', _, rfl, rfl, rfl, rfl, T0, by omega, by omega, e0, e1, uB x hx.1 hx.2, e⟩)⟩
          have itq : ∀ q', fidx (stv (z + 100)) (mtx m (sk (mtx m) (m 5000 9) q')) 0 L.toNat = itemF k (mtx m (sk (mtx m) (m 5000 9) q')) := fun q' => (itm _ (sk_32 hte q')).1
          have skb : ∀ q', q' ≤ m 5000 9 → q' ≤ sk (mtx m) (m 5000 9) q' ∧ sk (mtx m) (m 5000 9) q' ≤ m 5000 9 := fun q' e => sk_b (mtx m) e
          have itb := fun q' => itemF_b k (mtx m (sk (mtx m) (m 5000 9) q'))
          have mtb := fun q' => mtx_b ht (sk (mtx m) (m 5000 9) q')
          by_cases d0 : dg (mtx m s2)
          · have l2 : s2 < m 5000 9 := sk_lt hte (q := s2) (by omega)
            by_cases d1 : dg (mtx m (s2 + 1))
            · obtain ⟨e1, e2⟩ := nd_2 d0 d1
              have l3 : s2 + 1 < m 5000 9 := sk_lt hte (q := s2 + 1) (by omega)
              rw [e1, e2] at hI
              by_cases d2 : dg (mtx m (s2 + 2))
              · rw [if_pos (Or.inr d2)] at hI
                have i9 := fun X => iF (s2 + 2) X (by rw [← hI]) (by omega) (by omega)
                simp only [↓reduceIte, inR_0, inR_1, inR_m, vSw2_e, swP_n, swP_c, vI_e, vL_e, vNull_e, vIload_e, vLload_e, vAload_e, vIstore_e, vLstore_e, vAstore_e, vIinc_e, vIadd_e, vIsub_e, vImul_e, vIand_e, vIor_e, vIxor_e, vIshl_e, vIshr_e, vIushr_e, vIdiv_e, vIrem_e, vLadd_e, vLsub_e, vLmul_e, vLand_e, vLor_e, vLxor_e, vLdiv_e, vLrem_e, vLushr_e, vLshl_e, vLcmp_e, vIneg_e, vI2l_e, vL2i_e, vI2b_e, vI2c_e, vDup_e, vPop_e, vDup2_e, vGoto_e, vIcEq_e, vIfEq_e, vIcNe_e, vIfNe_e, vIcLt_e, vIfLt_e, vIcGe_e, vIfGe_e, vIcGt_e, vIfGt_e, vIcLe_e, vIfLe_e, vNonnull_e, vSw_e, vGetI_e, vGetL_e, vGetR_e, vPutI_e, vPutZ_e, vPutL_e, vPutR_e, vIald_e, vIald_s, vLald_e, vBald_e, vBald_s, vAald_e, vIast_e, vLast_e, vBast_e, vAast_e, vAlen_e8, vAlen_e9, vAlen_e10, vAlen_e11, vAlen_e5, vAlen_e3, vGets_e, vCompact_e, vLdcS_e, vIret_e, vZret_e, vCret_e, vBret_e, vLret_e, vVret_e, vAret_e, vCallM_e0, vCallMV_e0, vCallS_e0, vCallSV_e0, vCallM_e1, vCallMV_e1, vCallS_e1, vCallSV_e1, vCallM_e2, vCallMV_e2, vCallS_e2, vCallSV_e2, vCallM_e3, vCallMV_e3, vCallS_e3, vCallSV_e3, vCallM_e4, vCallMV_e4, vCallS_e4, vCallSV_e4, vCallM_e5, vCallMV_e5, vCallS_e5, vCallSV_e5, vCallM_e6, vCallMV_e6, vCallS_e6, vCallSV_e6, vCallM_e7, vCallMV_e7, vCallS_e7, vCallSV_e7, vBad_e, vStrVal_e, vStrCod_e, vForm_e, vCallT_e0, vCallT_e1, vCallT_e2, vCopy_e, rf_0_0, rf_0_1, rf_0_2, rf_0_3, rf_0_4, rf_0_7, rf_0_10, rf_0_11, rf_0_12, rf_0_13, rf_0_14, rf_0_15, rf_0_16, rf_1_0, rf_3_0, rf_3_1, rf_6_0, rf_6_1, rf_9_0, rf_9_1, rf_9_3, rf_13_0, rf_13_1, rf_13_2, rf_16_0, rf_16_1, rf_16_2, rf_16_3, rf_21_0, rf_21_1, rf_21_2, rf_21_3, rf_26_0, rf_26_1, rf_26_2, rf_26_3, rf_26_4, rf_26_5, rf_26_6, rf_31_0, rf_31_2, rf_31_5, rf_31_6, rf_36_0, rf_36_1, rf_36_2, rf_36_3, rf_39_0, rf_39_1, rf_39_2, rf_41_0, rf_41_1, rf_41_2, rf_41_3, rf_5000_1, rf_5000_2, rf_5000_3, rf_5000_4, rf_5000_5, rf_5000_15, rf_5000_16, rf_5000_18, rf_5000_19, rf_5000_20, rf_5000_21, rf_5000_22, rf_5000_23, rf_5000_24, rf_5000_25, rf_5000_26, rf_5000_27, rf_5000_36, rf_5000_37, rf_5000_40, rf_5000_41, rf_5000_42, rf_5000_43, rf_5000_44, rf_5000_45, rf_5000_47, rf_5000_52, rf_5000_54, rf_5000_55, rf_100_0, rf_100_1, rf_103_0, rf_103_1, rf_106_0, rf_106_1, rf_109_0, rf_109_1, al_2, al_4, al_5, al_7, al_8, al_10, al_11, al_12, al_14, al_15, al_17, al_18, al_19, al_20, al_22, al_23, al_24, al_25, al_27, al_28, al_29, al_30, al_32, al_33, al_34, al_35, al_37, al_38, al_40, al_42, al_5001, al_5002, al_5003, al_5004, al_5005, al_5006, al_5007, al_5008, al_5009, al_5010, al_5011, al_5012, al_5013, al_5014, al_5015, al_5016, al_5017, al_5018, al_5019, al_5020, al_5021, al_5022, al_5023, al_5024, al_5025, al_5026, al_9000, al_101, al_102, al_104, al_105, al_107, al_108, al_110, al_111, vcs_e, lg_c0, lg_cs, lg_nil, set_c0, set_cs, okst_0, okst_s, acok_n, acok_c, List.contains_nil, List.contains_cons, Bool.or_false, Bool.false_or, Bool.false_eq_true, if_false, if_true, ite_self, ne_eq, true_and, and_true, not_false_eq_true, not_true_eq_false, false_imp_iff, true_imp_iff, Nat.ble_eq, Bool.and_eq_true, reduceCtorEq, or_false, false_or, or_true, true_or, false_and, and_false, and_self, Int.reduceLE, Int.reduceAdd, Int.reduceSub, Int.reduceMul, Int.reduceNeg, Int.reduceLT, Int.reduceEq, Int.reduceNe, Nat.reduceBEq, Nat.reduceBNe, Nat.reduceEqDiff, amCmp_in, amCmp_lt, amCmp_le, amCmp_gt, amCmp_ge, amCmp_eq, amCmp_ne, Nat.reduceLeDiff, Nat.reduceSub, Bool.and_true, Bool.true_and, Bool.and_self, Bool.or_true, Bool.true_or, isRf_3, isRf_4, isRf_5, isRf_8, isRf_9, isRf_10, isRf_11, isRf_15, isRf_16, isRf_17, isRf_18, isRf_19, isRf_20, isRf_21, isRf_22, isRf_23, isRf_24, isRf_25, isRf_26, isRf_27, isRf_28, k_X12_readItems_0, k_X12_readItems_1, k_X12_readItems_3, k_X12_readItems_5, k_X12_readItems_7, k_X12_readItems_10, k_X12_readItems_13, k_X12_readItems_14, k_X12_readItems_15, k_X12_readItems_17, k_X12_readItems_18, k_X12_readItems_19, k_X12_readItems_21, k_X12_readItems_24, k_X12_readItems_25, k_X12_readItems_28, k_X12_readItems_31, k_X12_readItems_32, k_X12_readItems_34, k_X12_readItems_36, k_X12_readItems_37, k_X12_readItems_40, k_X12_readItems_43, k_X12_readItems_45, k_X12_readItems_47, k_X12_readItems_48, k_X12_readItems_51, k_X12_readItems_52, k_X12_readItems_55, k_X12_readItems_56, k_X12_readItems_59, k_X12_readItems_61, k_X12_readItems_63, k_X12_readItems_66, k_X12_readItems_69, k_X12_readItems_70, k_X12_readItems_73, k_X12_readItems_74, k_X12_readItems_75, k_X12_readItems_77, k_X12_readItems_78, k_X12_readItems_80, k_X12_readItems_81, k_X12_readItems_82, k_X12_readItems_84, k_X12_readItems_85, k_X12_readItems_86, k_X12_readItems_89, k_X12_readItems_90, k_X12_readItems_91, k_X12_readItems_94, k_X12_readItems_95, k_X12_readItems_96, k_X12_readItems_98, k_X12_readItems_99, k_X12_readItems_100, k_X12_readItems_101, k_X12_readItems_103, k_X12_readItems_106, k_X12_readItems_107, k_X12_readItems_109, k_X12_readItems_112, k_X12_readItems_115, k_X12_readItems_116, k_X12_readItems_117, k_X12_readItems_120, k_X12_readItems_121, k_X12_readItems_124, k_X12_readItems_126, k_X12_readItems_127, k_X12_readItems_130, k_X12_readItems_133, k_X12_readItems_135, k_X12_readItems_138, w_J0_length_8abf5_e, w_X12_fails_e, w_X12_has_e, w_X12_leastOf_e, w_X12_look_e, w_X12_mostOf_e, w_X12_number_e, w_X12_spotOf_e, w_X12_usual_e, msk, Mt, MtO, ho_10, ho_9, ho_11, ho_u10, ho_u11, eb0, et, hs2, kv1, kv2, al, a0, ww, d0, d1, d2]
                repeat' (first | apply And.intro | intro _)
                all_goals first | omega | exact absurd trivial (by assumption) | exact i9 _ ⟨by omega, by omega⟩ | exact ⟨by omega, by omega⟩
              · rw [if_neg (by omega)] at hI
                have k1' := skb (s2 + 2) (by omega)
                have k2' := itb (s2 + 2)
                have k3' := mtb (s2 + 2)
                by_cases d3 : sav 21000 (k * 4 + w) ≤ 10 * (mtx m s2 - 48) + mtx m (s2 + 1) - 48 ∧ 10 * (mtx m s2 - 48) + mtx m (s2 + 1) - 48 ≤ sav 21001 (k * 4 + w)
                · rw [if_pos ⟨k0, k1, by omega, by omega, d3.1, d3.2⟩] at hI
                  have i9 := iG (s2 + 2) _ (by omega) (by omega) ⟨by omega, by omega⟩ hI
                  simp only [↓reduceIte, inR_0, inR_1, inR_m, vSw2_e, swP_n, swP_c, vI_e, vL_e, vNull_e, vIload_e, vLload_e, vAload_e, vIstore_e, vLstore_e, vAstore_e, vIinc_e, vIadd_e, vIsub_e, vImul_e, vIand_e, vIor_e, vIxor_e, vIshl_e, vIshr_e, vIushr_e, vIdiv_e, vIrem_e, vLadd_e, vLsub_e, vLmul_e, vLand_e, vLor_e, vLxor_e, vLdiv_e, vLrem_e, vLushr_e, vLshl_e, vLcmp_e, vIneg_e, vI2l_e, vL2i_e, vI2b_e, vI2c_e, vDup_e, vPop_e, vDup2_e, vGoto_e, vIcEq_e, vIfEq_e, vIcNe_e, vIfNe_e, vIcLt_e, vIfLt_e, vIcGe_e, vIfGe_e, vIcGt_e, vIfGt_e, vIcLe_e, vIfLe_e, vNonnull_e, vSw_e, vGetI_e, vGetL_e, vGetR_e, vPutI_e, vPutZ_e, vPutL_e, vPutR_e, vIald_e, vIald_s, vLald_e, vBald_e, vBald_s, vAald_e, vIast_e, vLast_e, vBast_e, vAast_e, vAlen_e8, vAlen_e9, vAlen_e10, vAlen_e11, vAlen_e5, vAlen_e3, vGets_e, vCompact_e, vLdcS_e, vIret_e, vZret_e, vCret_e, vBret_e, vLret_e, vVret_e, vAret_e, vCallM_e0, vCallMV_e0, vCallS_e0, vCallSV_e0, vCallM_e1, vCallMV_e1, vCallS_e1, vCallSV_e1, vCallM_e2, vCallMV_e2, vCallS_e2, vCallSV_e2, vCallM_e3, vCallMV_e3, vCallS_e3, vCallSV_e3, vCallM_e4, vCallMV_e4, vCallS_e4, vCallSV_e4, vCallM_e5, vCallMV_e5, vCallS_e5, vCallSV_e5, vCallM_e6, vCallMV_e6, vCallS_e6, vCallSV_e6, vCallM_e7, vCallMV_e7, vCallS_e7, vCallSV_e7, vBad_e, vStrVal_e, vStrCod_e, vForm_e, vCallT_e0, vCallT_e1, vCallT_e2, vCopy_e, rf_0_0, rf_0_1, rf_0_2, rf_0_3, rf_0_4, rf_0_7, rf_0_10, rf_0_11, rf_0_12, rf_0_13, rf_0_14, rf_0_15, rf_0_16, rf_1_0, rf_3_0, rf_3_1, rf_6_0, rf_6_1, rf_9_0, rf_9_1, rf_9_3, rf_13_0, rf_13_1, rf_13_2, rf_16_0, rf_16_1, rf_16_2, rf_16_3, rf_21_0, rf_21_1, rf_21_2, rf_21_3, rf_26_0, rf_26_1, rf_26_2, rf_26_3, rf_26_4, rf_26_5, rf_26_6, rf_31_0, rf_31_2, rf_31_5, rf_31_6, rf_36_0, rf_36_1, rf_36_2, rf_36_3, rf_39_0, rf_39_1, rf_39_2, rf_41_0, rf_41_1, rf_41_2, rf_41_3, rf_5000_1, rf_5000_2, rf_5000_3, rf_5000_4, rf_5000_5, rf_5000_15, rf_5000_16, rf_5000_18, rf_5000_19, rf_5000_20, rf_5000_21, rf_5000_22, rf_5000_23, rf_5000_24, rf_5000_25, rf_5000_26, rf_5000_27, rf_5000_36, rf_5000_37, rf_5000_40, rf_5000_41, rf_5000_42, rf_5000_43, rf_5000_44, rf_5000_45, rf_5000_47, rf_5000_52, rf_5000_54, rf_5000_55, rf_100_0, rf_100_1, rf_103_0, rf_103_1, rf_106_0, rf_106_1, rf_109_0, rf_109_1, al_2, al_4, al_5, al_7, al_8, al_10, al_11, al_12, al_14, al_15, al_17, al_18, al_19, al_20, al_22, al_23, al_24, al_25, al_27, al_28, al_29, al_30, al_32, al_33, al_34, al_35, al_37, al_38, al_40, al_42, al_5001, al_5002, al_5003, al_5004, al_5005, al_5006, al_5007, al_5008, al_5009, al_5010, al_5011, al_5012, al_5013, al_5014, al_5015, al_5016, al_5017, al_5018, al_5019, al_5020, al_5021, al_5022, al_5023, al_5024, al_5025, al_5026, al_9000, al_101, al_102, al_104, al_105, al_107, al_108, al_110, al_111, vcs_e, lg_c0, lg_cs, lg_nil, set_c0, set_cs, okst_0, okst_s, acok_n, acok_c, List.contains_nil, List.contains_cons, Bool.or_false, Bool.false_or, Bool.false_eq_true, if_false, if_true, ite_self, ne_eq, true_and, and_true, not_false_eq_true, not_true_eq_false, false_imp_iff, true_imp_iff, Nat.ble_eq, Bool.and_eq_true, reduceCtorEq, or_false, false_or, or_true, true_or, false_and, and_false, and_self, Int.reduceLE, Int.reduceAdd, Int.reduceSub, Int.reduceMul, Int.reduceNeg, Int.reduceLT, Int.reduceEq, Int.reduceNe, Nat.reduceBEq, Nat.reduceBNe, Nat.reduceEqDiff, amCmp_in, amCmp_lt, amCmp_le, amCmp_gt, amCmp_ge, amCmp_eq, amCmp_ne, Nat.reduceLeDiff, Nat.reduceSub, Bool.and_true, Bool.true_and, Bool.and_self, Bool.or_true, Bool.true_or, isRf_3, isRf_4, isRf_5, isRf_8, isRf_9, isRf_10, isRf_11, isRf_15, isRf_16, isRf_17, isRf_18, isRf_19, isRf_20, isRf_21, isRf_22, isRf_23, isRf_24, isRf_25, isRf_26, isRf_27, isRf_28, k_X12_readItems_0, k_X12_readItems_1, k_X12_readItems_3, k_X12_readItems_5, k_X12_readItems_7, k_X12_readItems_10, k_X12_readItems_13, k_X12_readItems_14, k_X12_readItems_15, k_X12_readItems_17, k_X12_readItems_18, k_X12_readItems_19, k_X12_readItems_21, k_X12_readItems_24, k_X12_readItems_25, k_X12_readItems_28, k_X12_readItems_31, k_X12_readItems_32, k_X12_readItems_34, k_X12_readItems_36, k_X12_readItems_37, k_X12_readItems_40, k_X12_readItems_43, k_X12_readItems_45, k_X12_readItems_47, k_X12_readItems_48, k_X12_readItems_51, k_X12_readItems_52, k_X12_readItems_55, k_X12_readItems_56, k_X12_readItems_59, k_X12_readItems_61, k_X12_readItems_63, k_X12_readItems_66, k_X12_readItems_69, k_X12_readItems_70, k_X12_readItems_73, k_X12_readItems_74, k_X12_readItems_75, k_X12_readItems_77, k_X12_readItems_78, k_X12_readItems_80, k_X12_readItems_81, k_X12_readItems_82, k_X12_readItems_84, k_X12_readItems_85, k_X12_readItems_86, k_X12_readItems_89, k_X12_readItems_90, k_X12_readItems_91, k_X12_readItems_94, k_X12_readItems_95, k_X12_readItems_96, k_X12_readItems_98, k_X12_readItems_99, k_X12_readItems_100, k_X12_readItems_101, k_X12_readItems_103, k_X12_readItems_106, k_X12_readItems_107, k_X12_readItems_109, k_X12_readItems_112, k_X12_readItems_115, k_X12_readItems_116, k_X12_readItems_117, k_X12_readItems_120, k_X12_readItems_121, k_X12_readItems_124, k_X12_readItems_126, k_X12_readItems_127, k_X12_readItems_130, k_X12_readItems_133, k_X12_readItems_135, k_X12_readItems_138, w_J0_length_8abf5_e, w_X12_fails_e, w_X12_has_e, w_X12_leastOf_e, w_X12_look_e, w_X12_mostOf_e, w_X12_number_e, w_X12_spotOf_e, w_X12_usual_e, msk, Mt, MtO, ho_10, ho_9, ho_11, ho_u10, ho_u11, eb0, et, hs2, kv1, kv2, al, a0, ww, ssl, itq, d0, d1, d2, d3]
                  repeat' (first | apply And.intro | intro _)
                  all_goals first | omega | exact absurd trivial (by assumption) | exact i9 | exact ⟨by omega, by omega⟩
                · rw [if_neg (fun q => d3 ⟨q.2.2.2.2.1, q.2.2.2.2.2⟩)] at hI
                  have i9 := fun X => iF (s2 + 1) X (by rw [← hI]; show s2 + 2 - 1 = s2 + 1; omega) (by omega) (by omega)
                  simp only [↓reduceIte, inR_0, inR_1, inR_m, vSw2_e, swP_n, swP_c, vI_e, vL_e, vNull_e, vIload_e, vLload_e, vAload_e, vIstore_e, vLstore_e, vAstore_e, vIinc_e, vIadd_e, vIsub_e, vImul_e, vIand_e, vIor_e, vIxor_e, vIshl_e, vIshr_e, vIushr_e, vIdiv_e, vIrem_e, vLadd_e, vLsub_e, vLmul_e, vLand_e, vLor_e, vLxor_e, vLdiv_e, vLrem_e, vLushr_e, vLshl_e, vLcmp_e, vIneg_e, vI2l_e, vL2i_e, vI2b_e, vI2c_e, vDup_e, vPop_e, vDup2_e, vGoto_e, vIcEq_e, vIfEq_e, vIcNe_e, vIfNe_e, vIcLt_e, vIfLt_e, vIcGe_e, vIfGe_e, vIcGt_e, vIfGt_e, vIcLe_e, vIfLe_e, vNonnull_e, vSw_e, vGetI_e, vGetL_e, vGetR_e, vPutI_e, vPutZ_e, vPutL_e, vPutR_e, vIald_e, vIald_s, vLald_e, vBald_e, vBald_s, vAald_e, vIast_e, vLast_e, vBast_e, vAast_e, vAlen_e8, vAlen_e9, vAlen_e10, vAlen_e11, vAlen_e5, vAlen_e3, vGets_e, vCompact_e, vLdcS_e, vIret_e, vZret_e, vCret_e, vBret_e, vLret_e, vVret_e, vAret_e, vCallM_e0, vCallMV_e0, vCallS_e0, vCallSV_e0, vCallM_e1, vCallMV_e1, vCallS_e1, vCallSV_e1, vCallM_e2, vCallMV_e2, vCallS_e2, vCallSV_e2, vCallM_e3, vCallMV_e3, vCallS_e3, vCallSV_e3, vCallM_e4, vCallMV_e4, vCallS_e4, vCallSV_e4, vCallM_e5, vCallMV_e5, vCallS_e5, vCallSV_e5, vCallM_e6, vCallMV_e6, vCallS_e6, vCallSV_e6, vCallM_e7, vCallMV_e7, vCallS_e7, vCallSV_e7, vBad_e, vStrVal_e, vStrCod_e, vForm_e, vCallT_e0, vCallT_e1, vCallT_e2, vCopy_e, rf_0_0, rf_0_1, rf_0_2, rf_0_3, rf_0_4, rf_0_7, rf_0_10, rf_0_11, rf_0_12, rf_0_13, rf_0_14, rf_0_15, rf_0_16, rf_1_0, rf_3_0, rf_3_1, rf_6_0, rf_6_1, rf_9_0, rf_9_1, rf_9_3, rf_13_0, rf_13_1, rf_13_2, rf_16_0, rf_16_1, rf_16_2, rf_16_3, rf_21_0, rf_21_1, rf_21_2, rf_21_3, rf_26_0, rf_26_1, rf_26_2, rf_26_3, rf_26_4, rf_26_5, rf_26_6, rf_31_0, rf_31_2, rf_31_5, rf_31_6, rf_36_0, rf_36_1, rf_36_2, rf_36_3, rf_39_0, rf_39_1, rf_39_2, rf_41_0, rf_41_1, rf_41_2, rf_41_3, rf_5000_1, rf_5000_2, rf_5000_3, rf_5000_4, rf_5000_5, rf_5000_15, rf_5000_16, rf_5000_18, rf_5000_19, rf_5000_20, rf_5000_21, rf_5000_22, rf_5000_23, rf_5000_24, rf_5000_25, rf_5000_26, rf_5000_27, rf_5000_36, rf_5000_37, rf_5000_40, rf_5000_41, rf_5000_42, rf_5000_43, rf_5000_44, rf_5000_45, rf_5000_47, rf_5000_52, rf_5000_54, rf_5000_55, rf_100_0, rf_100_1, rf_103_0, rf_103_1, rf_106_0, rf_106_1, rf_109_0, rf_109_1, al_2, al_4, al_5, al_7, al_8, al_10, al_11, al_12, al_14, al_15, al_17, al_18, al_19, al_20, al_22, al_23, al_24, al_25, al_27, al_28, al_29, al_30, al_32, al_33, al_34, al_35, al_37, al_38, al_40, al_42, al_5001, al_5002, al_5003, al_5004, al_5005, al_5006, al_5007, al_5008, al_5009, al_5010, al_5011, al_5012, al_5013, al_5014, al_5015, al_5016, al_5017, al_5018, al_5019, al_5020, al_5021, al_5022, al_5023, al_5024, al_5025, al_5026, al_9000, al_101, al_102, al_104, al_105, al_107, al_108, al_110, al_111, vcs_e, lg_c0, lg_cs, lg_nil, set_c0, set_cs, okst_0, okst_s, acok_n, acok_c, List.contains_nil, List.contains_cons, Bool.or_false, Bool.false_or, Bool.false_eq_true, if_false, if_true, ite_self, ne_eq, true_and, and_true, not_false_eq_true, not_true_eq_false, false_imp_iff, true_imp_iff, Nat.ble_eq, Bool.and_eq_true, reduceCtorEq, or_false, false_or, or_true, true_or, false_and, and_false, and_self, Int.reduceLE, Int.reduceAdd, Int.reduceSub, Int.reduceMul, Int.reduceNeg, Int.reduceLT, Int.reduceEq, Int.reduceNe, Nat.reduceBEq, Nat.reduceBNe, Nat.reduceEqDiff, amCmp_in, amCmp_lt, amCmp_le, amCmp_gt, amCmp_ge, amCmp_eq, amCmp_ne, Nat.reduceLeDiff, Nat.reduceSub, Bool.and_true, Bool.true_and, Bool.and_self, Bool.or_true, Bool.true_or, isRf_3, isRf_4, isRf_5, isRf_8, isRf_9, isRf_10, isRf_11, isRf_15, isRf_16, isRf_17, isRf_18, isRf_19, isRf_20, isRf_21, isRf_22, isRf_23, isRf_24, isRf_25, isRf_26, isRf_27, isRf_28, k_X12_readItems_0, k_X12_readItems_1, k_X12_readItems_3, k_X12_readItems_5, k_X12_readItems_7, k_X12_readItems_10, k_X12_readItems_13, k_X12_readItems_14, k_X12_readItems_15, k_X12_readItems_17, k_X12_readItems_18, k_X12_readItems_19, k_X12_readItems_21, k_X12_readItems_24, k_X12_readItems_25, k_X12_readItems_28, k_X12_readItems_31, k_X12_readItems_32, k_X12_readItems_34, k_X12_readItems_36, k_X12_readItems_37, k_X12_readItems_40, k_X12_readItems_43, k_X12_readItems_45, k_X12_readItems_47, k_X12_readItems_48, k_X12_readItems_51, k_X12_readItems_52, k_X12_readItems_55, k_X12_readItems_56, k_X12_readItems_59, k_X12_readItems_61, k_X12_readItems_63, k_X12_readItems_66, k_X12_readItems_69, k_X12_readItems_70, k_X12_readItems_73, k_X12_readItems_74, k_X12_readItems_75, k_X12_readItems_77, k_X12_readItems_78, k_X12_readItems_80, k_X12_readItems_81, k_X12_readItems_82, k_X12_readItems_84, k_X12_readItems_85, k_X12_readItems_86, k_X12_readItems_89, k_X12_readItems_90, k_X12_readItems_91, k_X12_readItems_94, k_X12_readItems_95, k_X12_readItems_96, k_X12_readItems_98, k_X12_readItems_99, k_X12_readItems_100, k_X12_readItems_101, k_X12_readItems_103, k_X12_readItems_106, k_X12_readItems_107, k_X12_readItems_109, k_X12_readItems_112, k_X12_readItems_115, k_X12_readItems_116, k_X12_readItems_117, k_X12_readItems_120, k_X12_readItems_121, k_X12_readItems_124, k_X12_readItems_126, k_X12_readItems_127, k_X12_readItems_130, k_X12_readItems_133, k_X12_readItems_135, k_X12_readItems_138, w_J0_length_8abf5_e, w_X12_fails_e, w_X12_has_e, w_X12_leastOf_e, w_X12_look_e, w_X12_mostOf_e, w_X12_number_e, w_X12_spotOf_e, w_X12_usual_e, msk, Mt, MtO, ho_10, ho_9, ho_11, ho_u10, ho_u11, eb0, et, hs2, kv1, kv2, al, a0, ww, d0, d1, d2, d3]
                  repeat' (first | apply And.intro | intro _)
                  all_goals first | omega | exact absurd trivial (by assumption) | exact i9 _ ⟨by omega, by omega⟩ | exact ⟨by omega, by omega⟩
            · obtain ⟨e1, e2⟩ := nd_1 d0 d1
              rw [e1, e2, if_neg (by omega)] at hI
              have k1' := skb (s2 + 1) (by omega)
              have k2' := itb (s2 + 1)
              have k3' := mtb (s2 + 1)
              by_cases d3 : sav 21000 (k * 4 + w) ≤ mtx m s2 - 48 ∧ mtx m s2 - 48 ≤ sav 21001 (k * 4 + w)
              · rw [if_pos ⟨k0, k1, by omega, by omega, d3.1, d3.2⟩] at hI
                have i9 := iG (s2 + 1) _ (by omega) (by omega) ⟨by omega, by omega⟩ hI
                simp only [↓reduceIte, inR_0, inR_1, inR_m, vSw2_e, swP_n, swP_c, vI_e, vL_e, vNull_e, vIload_e, vLload_e, vAload_e, vIstore_e, vLstore_e, vAstore_e, vIinc_e, vIadd_e, vIsub_e, vImul_e, vIand_e, vIor_e, vIxor_e, vIshl_e, vIshr_e, vIushr_e, vIdiv_e, vIrem_e, vLadd_e, vLsub_e, vLmul_e, vLand_e, vLor_e, vLxor_e, vLdiv_e, vLrem_e, vLushr_e, vLshl_e, vLcmp_e, vIneg_e, vI2l_e, vL2i_e, vI2b_e, vI2c_e, vDup_e, vPop_e, vDup2_e, vGoto_e, vIcEq_e, vIfEq_e, vIcNe_e, vIfNe_e, vIcLt_e, vIfLt_e, vIcGe_e, vIfGe_e, vIcGt_e, vIfGt_e, vIcLe_e, vIfLe_e, vNonnull_e, vSw_e, vGetI_e, vGetL_e, vGetR_e, vPutI_e, vPutZ_e, vPutL_e, vPutR_e, vIald_e, vIald_s, vLald_e, vBald_e, vBald_s, vAald_e, vIast_e, vLast_e, vBast_e, vAast_e, vAlen_e8, vAlen_e9, vAlen_e10, vAlen_e11, vAlen_e5, vAlen_e3, vGets_e, vCompact_e, vLdcS_e, vIret_e, vZret_e, vCret_e, vBret_e, vLret_e, vVret_e, vAret_e, vCallM_e0, vCallMV_e0, vCallS_e0, vCallSV_e0, vCallM_e1, vCallMV_e1, vCallS_e1, vCallSV_e1, vCallM_e2, vCallMV_e2, vCallS_e2, vCallSV_e2, vCallM_e3, vCallMV_e3, vCallS_e3, vCallSV_e3, vCallM_e4, vCallMV_e4, vCallS_e4, vCallSV_e4, vCallM_e5, vCallMV_e5, vCallS_e5, vCallSV_e5, vCallM_e6, vCallMV_e6, vCallS_e6, vCallSV_e6, vCallM_e7, vCallMV_e7, vCallS_e7, vCallSV_e7, vBad_e, vStrVal_e, vStrCod_e, vForm_e, vCallT_e0, vCallT_e1, vCallT_e2, vCopy_e, rf_0_0, rf_0_1, rf_0_2, rf_0_3, rf_0_4, rf_0_7, rf_0_10, rf_0_11, rf_0_12, rf_0_13, rf_0_14, rf_0_15, rf_0_16, rf_1_0, rf_3_0, rf_3_1, rf_6_0, rf_6_1, rf_9_0, rf_9_1, rf_9_3, rf_13_0, rf_13_1, rf_13_2, rf_16_0, rf_16_1, rf_16_2, rf_16_3, rf_21_0, rf_21_1, rf_21_2, rf_21_3, rf_26_0, rf_26_1, rf_26_2, rf_26_3, rf_26_4, rf_26_5, rf_26_6, rf_31_0, rf_31_2, rf_31_5, rf_31_6, rf_36_0, rf_36_1, rf_36_2, rf_36_3, rf_39_0, rf_39_1, rf_39_2, rf_41_0, rf_41_1, rf_41_2, rf_41_3, rf_5000_1, rf_5000_2, rf_5000_3, rf_5000_4, rf_5000_5, rf_5000_15, rf_5000_16, rf_5000_18, rf_5000_19, rf_5000_20, rf_5000_21, rf_5000_22, rf_5000_23, rf_5000_24, rf_5000_25, rf_5000_26, rf_5000_27, rf_5000_36, rf_5000_37, rf_5000_40, rf_5000_41, rf_5000_42, rf_5000_43, rf_5000_44, rf_5000_45, rf_5000_47, rf_5000_52, rf_5000_54, rf_5000_55, rf_100_0, rf_100_1, rf_103_0, rf_103_1, rf_106_0, rf_106_1, rf_109_0, rf_109_1, al_2, al_4, al_5, al_7, al_8, al_10, al_11, al_12, al_14, al_15, al_17, al_18, al_19, al_20, al_22, al_23, al_24, al_25, al_27, al_28, al_29, al_30, al_32, al_33, al_34, al_35, al_37, al_38, al_40, al_42, al_5001, al_5002, al_5003, al_5004, al_5005, al_5006, al_5007, al_5008, al_5009, al_5010, al_5011, al_5012, al_5013, al_5014, al_5015, al_5016, al_5017, al_5018, al_5019, al_5020, al_5021, al_5022, al_5023, al_5024, al_5025, al_5026, al_9000, al_101, al_102, al_104, al_105, al_107, al_108, al_110, al_111, vcs_e, lg_c0, lg_cs, lg_nil, set_c0, set_cs, okst_0, okst_s, acok_n, acok_c, List.contains_nil, List.contains_cons, Bool.or_false, Bool.false_or, Bool.false_eq_true, if_false, if_true, ite_self, ne_eq, true_and, and_true, not_false_eq_true, not_true_eq_false, false_imp_iff, true_imp_iff, Nat.ble_eq, Bool.and_eq_true, reduceCtorEq, or_false, false_or, or_true, true_or, false_and, and_false, and_self, Int.reduceLE, Int.reduceAdd, Int.reduceSub, Int.reduceMul, Int.reduceNeg, Int.reduceLT, Int.reduceEq, Int.reduceNe, Nat.reduceBEq, Nat.reduceBNe, Nat.reduceEqDiff, amCmp_in, amCmp_lt, amCmp_le, amCmp_gt, amCmp_ge, amCmp_eq, amCmp_ne, Nat.reduceLeDiff, Nat.reduceSub, Bool.and_true, Bool.true_and, Bool.and_self, Bool.or_true, Bool.true_or, isRf_3, isRf_4, isRf_5, isRf_8, isRf_9, isRf_10, isRf_11, isRf_15, isRf_16, isRf_17, isRf_18, isRf_19, isRf_20, isRf_21, isRf_22, isRf_23, isRf_24, isRf_25, isRf_26, isRf_27, isRf_28, k_X12_readItems_0, k_X12_readItems_1, k_X12_readItems_3, k_X12_readItems_5, k_X12_readItems_7, k_X12_readItems_10, k_X12_readItems_13, k_X12_readItems_14, k_X12_readItems_15, k_X12_readItems_17, k_X12_readItems_18, k_X12_readItems_19, k_X12_readItems_21, k_X12_readItems_24, k_X12_readItems_25, k_X12_readItems_28, k_X12_readItems_31, k_X12_readItems_32, k_X12_readItems_34, k_X12_readItems_36, k_X12_readItems_37, k_X12_readItems_40, k_X12_readItems_43, k_X12_readItems_45, k_X12_readItems_47, k_X12_readItems_48, k_X12_readItems_51, k_X12_readItems_52, k_X12_readItems_55, k_X12_readItems_56, k_X12_readItems_59, k_X12_readItems_61, k_X12_readItems_63, k_X12_readItems_66, k_X12_readItems_69, k_X12_readItems_70, k_X12_readItems_73, k_X12_readItems_74, k_X12_readItems_75, k_X12_readItems_77, k_X12_readItems_78, k_X12_readItems_80, k_X12_readItems_81, k_X12_readItems_82, k_X12_readItems_84, k_X12_readItems_85, k_X12_readItems_86, k_X12_readItems_89, k_X12_readItems_90, k_X12_readItems_91, k_X12_readItems_94, k_X12_readItems_95, k_X12_readItems_96, k_X12_readItems_98, k_X12_readItems_99, k_X12_readItems_100, k_X12_readItems_101, k_X12_readItems_103, k_X12_readItems_106, k_X12_readItems_107, k_X12_readItems_109, k_X12_readItems_112, k_X12_readItems_115, k_X12_readItems_116, k_X12_readItems_117, k_X12_readItems_120, k_X12_readItems_121, k_X12_readItems_124, k_X12_readItems_126, k_X12_readItems_127, k_X12_readItems_130, k_X12_readItems_133, k_X12_readItems_135, k_X12_readItems_138, w_J0_length_8abf5_e, w_X12_fails_e, w_X12_has_e, w_X12_leastOf_e, w_X12_look_e, w_X12_mostOf_e, w_X12_number_e, w_X12_spotOf_e, w_X12_usual_e, msk, Mt, MtO, ho_10, ho_9, ho_11, ho_u10, ho_u11, eb0, et, hs2, kv1, kv2, al, a0, ww, ssl, itq, d0, d1, d3]
                repeat' (first | apply And.intro | intro _)
                all_goals first | omega | exact absurd trivial (by assumption) | exact i9 | exact ⟨by omega, by omega⟩
              · rw [if_neg (fun q => d3 ⟨q.2.2.2.2.1, q.2.2.2.2.2⟩)] at hI
                have i9 := fun X => iF s2 X (by rw [← hI]; show s2 + 1 - 1 = s2; omega) (by omega) (by omega)
                simp only [↓reduceIte, inR_0, inR_1, inR_m, vSw2_e, swP_n, swP_c, vI_e, vL_e, vNull_e, vIload_e, vLload_e, vAload_e, vIstore_e, vLstore_e, vAstore_e, vIinc_e, vIadd_e, vIsub_e, vImul_e, vIand_e, vIor_e, vIxor_e, vIshl_e, vIshr_e, vIushr_e, vIdiv_e, vIrem_e, vLadd_e, vLsub_e, vLmul_e, vLand_e, vLor_e, vLxor_e, vLdiv_e, vLrem_e, vLushr_e, vLshl_e, vLcmp_e, vIneg_e, vI2l_e, vL2i_e, vI2b_e, vI2c_e, vDup_e, vPop_e, vDup2_e, vGoto_e, vIcEq_e, vIfEq_e, vIcNe_e, vIfNe_e, vIcLt_e, vIfLt_e, vIcGe_e, vIfGe_e, vIcGt_e, vIfGt_e, vIcLe_e, vIfLe_e, vNonnull_e, vSw_e, vGetI_e, vGetL_e, vGetR_e, vPutI_e, vPutZ_e, vPutL_e, vPutR_e, vIald_e, vIald_s, vLald_e, vBald_e, vBald_s, vAald_e, vIast_e, vLast_e, vBast_e, vAast_e, vAlen_e8, vAlen_e9, vAlen_e10, vAlen_e11, vAlen_e5, vAlen_e3, vGets_e, vCompact_e, vLdcS_e, vIret_e, vZret_e, vCret_e, vBret_e, vLret_e, vVret_e, vAret_e, vCallM_e0, vCallMV_e0, vCallS_e0, vCallSV_e0, vCallM_e1, vCallMV_e1, vCallS_e1, vCallSV_e1, vCallM_e2, vCallMV_e2, vCallS_e2, vCallSV_e2, vCallM_e3, vCallMV_e3, vCallS_e3, vCallSV_e3, vCallM_e4, vCallMV_e4, vCallS_e4, vCallSV_e4, vCallM_e5, vCallMV_e5, vCallS_e5, vCallSV_e5, vCallM_e6, vCallMV_e6, vCallS_e6, vCallSV_e6, vCallM_e7, vCallMV_e7, vCallS_e7, vCallSV_e7, vBad_e, vStrVal_e, vStrCod_e, vForm_e, vCallT_e0, vCallT_e1, vCallT_e2, vCopy_e, rf_0_0, rf_0_1, rf_0_2, rf_0_3, rf_0_4, rf_0_7, rf_0_10, rf_0_11, rf_0_12, rf_0_13, rf_0_14, rf_0_15, rf_0_16, rf_1_0, rf_3_0, rf_3_1, rf_6_0, rf_6_1, rf_9_0, rf_9_1, rf_9_3, rf_13_0, rf_13_1, rf_13_2, rf_16_0, rf_16_1, rf_16_2, rf_16_3, rf_21_0, rf_21_1, rf_21_2, rf_21_3, rf_26_0, rf_26_1, rf_26_2, rf_26_3, rf_26_4, rf_26_5, rf_26_6, rf_31_0, rf_31_2, rf_31_5, rf_31_6, rf_36_0, rf_36_1, rf_36_2, rf_36_3, rf_39_0, rf_39_1, rf_39_2, rf_41_0, rf_41_1, rf_41_2, rf_41_3, rf_5000_1, rf_5000_2, rf_5000_3, rf_5000_4, rf_5000_5, rf_5000_15, rf_5000_16, rf_5000_18, rf_5000_19, rf_5000_20, rf_5000_21, rf_5000_22, rf_5000_23, rf_5000_24, rf_5000_25, rf_5000_26, rf_5000_27, rf_5000_36, rf_5000_37, rf_5000_40, rf_5000_41, rf_5000_42, rf_5000_43, rf_5000_44, rf_5000_45, rf_5000_47, rf_5000_52, rf_5000_54, rf_5000_55, rf_100_0, rf_100_1, rf_103_0, rf_103_1, rf_106_0, rf_106_1, rf_109_0, rf_109_1, al_2, al_4, al_5, al_7, al_8, al_10, al_11, al_12, al_14, al_15, al_17, al_18, al_19, al_20, al_22, al_23, al_24, al_25, al_27, al_28, al_29, al_30, al_32, al_33, al_34, al_35, al_37, al_38, al_40, al_42, al_5001, al_5002, al_5003, al_5004, al_5005, al_5006, al_5007, al_5008, al_5009, al_5010, al_5011, al_5012, al_5013, al_5014, al_5015, al_5016, al_5017, al_5018, al_5019, al_5020, al_5021, al_5022, al_5023, al_5024, al_5025, al_5026, al_9000, al_101, al_102, al_104, al_105, al_107, al_108, al_110, al_111, vcs_e, lg_c0, lg_cs, lg_nil, set_c0, set_cs, okst_0, okst_s, acok_n, acok_c, List.contains_nil, List.contains_cons, Bool.or_false, Bool.false_or, Bool.false_eq_true, if_false, if_true, ite_self, ne_eq, true_and, and_true, not_false_eq_true, not_true_eq_false, false_imp_iff, true_imp_iff, Nat.ble_eq, Bool.and_eq_true, reduceCtorEq, or_false, false_or, or_true, true_or, false_and, and_false, and_self, Int.reduceLE, Int.reduceAdd, Int.reduceSub, Int.reduceMul, Int.reduceNeg, Int.reduceLT, Int.reduceEq, Int.reduceNe, Nat.reduceBEq, Nat.reduceBNe, Nat.reduceEqDiff, amCmp_in, amCmp_lt, amCmp_le, amCmp_gt, amCmp_ge, amCmp_eq, amCmp_ne, Nat.reduceLeDiff, Nat.reduceSub, Bool.and_true, Bool.true_and, Bool.and_self, Bool.or_true, Bool.true_or, isRf_3, isRf_4, isRf_5, isRf_8, isRf_9, isRf_10, isRf_11, isRf_15, isRf_16, isRf_17, isRf_18, isRf_19, isRf_20, isRf_21, isRf_22, isRf_23, isRf_24, isRf_25, isRf_26, isRf_27, isRf_28, k_X12_readItems_0, k_X12_readItems_1, k_X12_readItems_3, k_X12_readItems_5, k_X12_readItems_7, k_X12_readItems_10, k_X12_readItems_13, k_X12_readItems_14, k_X12_readItems_15, k_X12_readItems_17, k_X12_readItems_18, k_X12_readItems_19, k_X12_readItems_21, k_X12_readItems_24, k_X12_readItems_25, k_X12_readItems_28, k_X12_readItems_31, k_X12_readItems_32, k_X12_readItems_34, k_X12_readItems_36, k_X12_readItems_37, k_X12_readItems_40, k_X12_readItems_43, k_X12_readItems_45, k_X12_readItems_47, k_X12_readItems_48, k_X12_readItems_51, k_X12_readItems_52, k_X12_readItems_55, k_X12_readItems_56, k_X12_readItems_59, k_X12_readItems_61, k_X12_readItems_63, k_X12_readItems_66, k_X12_readItems_69, k_X12_readItems_70, k_X12_readItems_73, k_X12_readItems_74, k_X12_readItems_75, k_X12_readItems_77, k_X12_readItems_78, k_X12_readItems_80, k_X12_readItems_81, k_X12_readItems_82, k_X12_readItems_84, k_X12_readItems_85, k_X12_readItems_86, k_X12_readItems_89, k_X12_readItems_90, k_X12_readItems_91, k_X12_readItems_94, k_X12_readItems_95, k_X12_readItems_96, k_X12_readItems_98, k_X12_readItems_99, k_X12_readItems_100, k_X12_readItems_101, k_X12_readItems_103, k_X12_readItems_106, k_X12_readItems_107, k_X12_readItems_109, k_X12_readItems_112, k_X12_readItems_115, k_X12_readItems_116, k_X12_readItems_117, k_X12_readItems_120, k_X12_readItems_121, k_X12_readItems_124, k_X12_readItems_126, k_X12_readItems_127, k_X12_readItems_130, k_X12_readItems_133, k_X12_readItems_135, k_X12_readItems_138, w_J0_length_8abf5_e, w_X12_fails_e, w_X12_has_e, w_X12_leastOf_e, w_X12_look_e, w_X12_mostOf_e, w_X12_number_e, w_X12_spotOf_e, w_X12_usual_e, msk, Mt, MtO, ho_10, ho_9, ho_11, ho_u10, ho_u11, eb0, et, hs2, kv1, kv2, al, a0, ww, d0, d1, d3]
                repeat' (first | apply And.intro | intro _)
                all_goals first | omega | exact absurd trivial (by assumption) | exact i9 _ ⟨by omega, by omega⟩ | exact ⟨by omega, by omega⟩
          · have e1 := nd_0 d0
            rw [e1, if_pos (Or.inl rfl)] at hI
            have i9 := fun X => iF s2 X (by rw [← hI]; show s2 + 0 = s2; omega) (by omega) (by omega)
            simp only [↓reduceIte, inR_0, inR_1, inR_m, vSw2_e, swP_n, swP_c, vI_e, vL_e, vNull_e, vIload_e, vLload_e, vAload_e, vIstore_e, vLstore_e, vAstore_e, vIinc_e, vIadd_e, vIsub_e, vImul_e, vIand_e, vIor_e, vIxor_e, vIshl_e, vIshr_e, vIushr_e, vIdiv_e, vIrem_e, vLadd_e, vLsub_e, vLmul_e, vLand_e, vLor_e, vLxor_e, vLdiv_e, vLrem_e, vLushr_e, vLshl_e, vLcmp_e, vIneg_e, vI2l_e, vL2i_e, vI2b_e, vI2c_e, vDup_e, vPop_e, vDup2_e, vGoto_e, vIcEq_e, vIfEq_e, vIcNe_e, vIfNe_e, vIcLt_e, vIfLt_e, vIcGe_e, vIfGe_e, vIcGt_e, vIfGt_e, vIcLe_e, vIfLe_e, vNonnull_e, vSw_e, vGetI_e, vGetL_e, vGetR_e, vPutI_e, vPutZ_e, vPutL_e, vPutR_e, vIald_e, vIald_s, vLald_e, vBald_e, vBald_s, vAald_e, vIast_e, vLast_e, vBast_e, vAast_e, vAlen_e8, vAlen_e9, vAlen_e10, vAlen_e11, vAlen_e5, vAlen_e3, vGets_e, vCompact_e, vLdcS_e, vIret_e, vZret_e, vCret_e, vBret_e, vLret_e, vVret_e, vAret_e, vCallM_e0, vCallMV_e0, vCallS_e0, vCallSV_e0, vCallM_e1, vCallMV_e1, vCallS_e1, vCallSV_e1, vCallM_e2, vCallMV_e2, vCallS_e2, vCallSV_e2, vCallM_e3, vCallMV_e3, vCallS_e3, vCallSV_e3, vCallM_e4, vCallMV_e4, vCallS_e4, vCallSV_e4, vCallM_e5, vCallMV_e5, vCallS_e5, vCallSV_e5, vCallM_e6, vCallMV_e6, vCallS_e6, vCallSV_e6, vCallM_e7, vCallMV_e7, vCallS_e7, vCallSV_e7, vBad_e, vStrVal_e, vStrCod_e, vForm_e, vCallT_e0, vCallT_e1, vCallT_e2, vCopy_e, rf_0_0, rf_0_1, rf_0_2, rf_0_3, rf_0_4, rf_0_7, rf_0_10, rf_0_11, rf_0_12, rf_0_13, rf_0_14, rf_0_15, rf_0_16, rf_1_0, rf_3_0, rf_3_1, rf_6_0, rf_6_1, rf_9_0, rf_9_1, rf_9_3, rf_13_0, rf_13_1, rf_13_2, rf_16_0, rf_16_1, rf_16_2, rf_16_3, rf_21_0, rf_21_1, rf_21_2, rf_21_3, rf_26_0, rf_26_1, rf_26_2, rf_26_3, rf_26_4, rf_26_5, rf_26_6, rf_31_0, rf_31_2, rf_31_5, rf_31_6, rf_36_0, rf_36_1, rf_36_2, rf_36_3, rf_39_0, rf_39_1, rf_39_2, rf_41_0, rf_41_1, rf_41_2, rf_41_3, rf_5000_1, rf_5000_2, rf_5000_3, rf_5000_4, rf_5000_5, rf_5000_15, rf_5000_16, rf_5000_18, rf_5000_19, rf_5000_20, rf_5000_21, rf_5000_22, rf_5000_23, rf_5000_24, rf_5000_25, rf_5000_26, rf_5000_27, rf_5000_36, rf_5000_37, rf_5000_40, rf_5000_41, rf_5000_42, rf_5000_43, rf_5000_44, rf_5000_45, rf_5000_47, rf_5000_52, rf_5000_54, rf_5000_55, rf_100_0, rf_100_1, rf_103_0, rf_103_1, rf_106_0, rf_106_1, rf_109_0, rf_109_1, al_2, al_4, al_5, al_7, al_8, al_10, al_11, al_12, al_14, al_15, al_17, al_18, al_19, al_20, al_22, al_23, al_24, al_25, al_27, al_28, al_29, al_30, al_32, al_33, al_34, al_35, al_37, al_38, al_40, al_42, al_5001, al_5002, al_5003, al_5004, al_5005, al_5006, al_5007, al_5008, al_5009, al_5010, al_5011, al_5012, al_5013, al_5014, al_5015, al_5016, al_5017, al_5018, al_5019, al_5020, al_5021, al_5022, al_5023, al_5024, al_5025, al_5026, al_9000, al_101, al_102, al_104, al_105, al_107, al_108, al_110, al_111, vcs_e, lg_c0, lg_cs, lg_nil, set_c0, set_cs, okst_0, okst_s, acok_n, acok_c, List.contains_nil, List.contains_cons, Bool.or_false, Bool.false_or, Bool.false_eq_true, if_false, if_true, ite_self, ne_eq, true_and, and_true, not_false_eq_true, not_true_eq_false, false_imp_iff, true_imp_iff, Nat.ble_eq, Bool.and_eq_true, reduceCtorEq, or_false, false_or, or_true, true_or, false_and, and_false, and_self, Int.reduceLE, Int.reduceAdd, Int.reduceSub, Int.reduceMul, Int.reduceNeg, Int.reduceLT, Int.reduceEq, Int.reduceNe, Nat.reduceBEq, Nat.reduceBNe, Nat.reduceEqDiff, amCmp_in, amCmp_lt, amCmp_le, amCmp_gt, amCmp_ge, amCmp_eq, amCmp_ne, Nat.reduceLeDiff, Nat.reduceSub, Bool.and_true, Bool.true_and, Bool.and_self, Bool.or_true, Bool.true_or, isRf_3, isRf_4, isRf_5, isRf_8, isRf_9, isRf_10, isRf_11, isRf_15, isRf_16, isRf_17, isRf_18, isRf_19, isRf_20, isRf_21, isRf_22, isRf_23, isRf_24, isRf_25, isRf_26, isRf_27, isRf_28, k_X12_readItems_0, k_X12_readItems_1, k_X12_readItems_3, k_X12_readItems_5, k_X12_readItems_7, k_X12_readItems_10, k_X12_readItems_13, k_X12_readItems_14, k_X12_readItems_15, k_X12_readItems_17, k_X12_readItems_18, k_X12_readItems_19, k_X12_readItems_21, k_X12_readItems_24, k_X12_readItems_25, k_X12_readItems_28, k_X12_readItems_31, k_X12_readItems_32, k_X12_readItems_34, k_X12_readItems_36, k_X12_readItems_37, k_X12_readItems_40, k_X12_readItems_43, k_X12_readItems_45, k_X12_readItems_47, k_X12_readItems_48, k_X12_readItems_51, k_X12_readItems_52, k_X12_readItems_55, k_X12_readItems_56, k_X12_readItems_59, k_X12_readItems_61, k_X12_readItems_63, k_X12_readItems_66, k_X12_readItems_69, k_X12_readItems_70, k_X12_readItems_73, k_X12_readItems_74, k_X12_readItems_75, k_X12_readItems_77, k_X12_readItems_78, k_X12_readItems_80, k_X12_readItems_81, k_X12_readItems_82, k_X12_readItems_84, k_X12_readItems_85, k_X12_readItems_86, k_X12_readItems_89, k_X12_readItems_90, k_X12_readItems_91, k_X12_readItems_94, k_X12_readItems_95, k_X12_readItems_96, k_X12_readItems_98, k_X12_readItems_99, k_X12_readItems_100, k_X12_readItems_101, k_X12_readItems_103, k_X12_readItems_106, k_X12_readItems_107, k_X12_readItems_109, k_X12_readItems_112, k_X12_readItems_115, k_X12_readItems_116, k_X12_readItems_117, k_X12_readItems_120, k_X12_readItems_121, k_X12_readItems_124, k_X12_readItems_126, k_X12_readItems_127, k_X12_readItems_130, k_X12_readItems_133, k_X12_readItems_135, k_X12_readItems_138, w_J0_length_8abf5_e, w_X12_fails_e, w_X12_has_e, w_X12_leastOf_e, w_X12_look_e, w_X12_mostOf_e, w_X12_number_e, w_X12_spotOf_e, w_X12_usual_e, msk, Mt, MtO, ho_10, ho_9, ho_11, ho_u10, ho_u11, eb0, et, hs2, kv1, kv2, al, a0, ww, d0]
            repeat' (first | apply And.intro | intro _)
            all_goals first | omega | exact absurd trivial (by assumption) | exact i9 _ ⟨by omega, by omega⟩ | exact ⟨by omega, by omega⟩
    · have q9 := (hq2 (by rw [hx]; omega)).1 q v' vB
      rw [hx] at q9
      have xn : ¬ x = -1 := by omega
      refine ⟨60, ?_⟩
      simp only [↓reduceIte, inR_0, inR_1, inR_m, vSw2_e, swP_n, swP_c, vI_e, vL_e, vNull_e, vIload_e, vLload_e, vAload_e, vIstore_e, vLstore_e, vAstore_e, vIinc_e, vIadd_e, vIsub_e, vImul_e, vIand_e, vIor_e, vIxor_e, vIshl_e, vIshr_e, vIushr_e, vIdiv_e, vIrem_e, vLadd_e, vLsub_e, vLmul_e, vLand_e, vLor_e, vLxor_e, vLdiv_e, vLrem_e, vLushr_e, vLshl_e, vLcmp_e, vIneg_e, vI2l_e, vL2i_e, vI2b_e, vI2c_e, vDup_e, vPop_e, vDup2_e, vGoto_e, vIcEq_e, vIfEq_e, vIcNe_e, vIfNe_e, vIcLt_e, vIfLt_e, vIcGe_e, vIfGe_e, vIcGt_e, vIfGt_e, vIcLe_e, vIfLe_e, vNonnull_e, vSw_e, vGetI_e, vGetL_e, vGetR_e, vPutI_e, vPutZ_e, vPutL_e, vPutR_e, vIald_e, vIald_s, vLald_e, vBald_e, vBald_s, vAald_e, vIast_e, vLast_e, vBast_e, vAast_e, vAlen_e8, vAlen_e9, vAlen_e10, vAlen_e11, vAlen_e5, vAlen_e3, vGets_e, vCompact_e, vLdcS_e, vIret_e, vZret_e, vCret_e, vBret_e, vLret_e, vVret_e, vAret_e, vCallM_e0, vCallMV_e0, vCallS_e0, vCallSV_e0, vCallM_e1, vCallMV_e1, vCallS_e1, vCallSV_e1, vCallM_e2, vCallMV_e2, vCallS_e2, vCallSV_e2, vCallM_e3, vCallMV_e3, vCallS_e3, vCallSV_e3, vCallM_e4, vCallMV_e4, vCallS_e4, vCallSV_e4, vCallM_e5, vCallMV_e5, vCallS_e5, vCallSV_e5, vCallM_e6, vCallMV_e6, vCallS_e6, vCallSV_e6, vCallM_e7, vCallMV_e7, vCallS_e7, vCallSV_e7, vBad_e, vStrVal_e, vStrCod_e, vForm_e, vCallT_e0, vCallT_e1, vCallT_e2, vCopy_e, rf_0_0, rf_0_1, rf_0_2, rf_0_3, rf_0_4, rf_0_7, rf_0_10, rf_0_11, rf_0_12, rf_0_13, rf_0_14, rf_0_15, rf_0_16, rf_1_0, rf_3_0, rf_3_1, rf_6_0, rf_6_1, rf_9_0, rf_9_1, rf_9_3, rf_13_0, rf_13_1, rf_13_2, rf_16_0, rf_16_1, rf_16_2, rf_16_3, rf_21_0, rf_21_1, rf_21_2, rf_21_3, rf_26_0, rf_26_1, rf_26_2, rf_26_3, rf_26_4, rf_26_5, rf_26_6, rf_31_0, rf_31_2, rf_31_5, rf_31_6, rf_36_0, rf_36_1, rf_36_2, rf_36_3, rf_39_0, rf_39_1, rf_39_2, rf_41_0, rf_41_1, rf_41_2, rf_41_3, rf_5000_1, rf_5000_2, rf_5000_3, rf_5000_4, rf_5000_5, rf_5000_15, rf_5000_16, rf_5000_18, rf_5000_19, rf_5000_20, rf_5000_21, rf_5000_22, rf_5000_23, rf_5000_24, rf_5000_25, rf_5000_26, rf_5000_27, rf_5000_36, rf_5000_37, rf_5000_40, rf_5000_41, rf_5000_42, rf_5000_43, rf_5000_44, rf_5000_45, rf_5000_47, rf_5000_52, rf_5000_54, rf_5000_55, rf_100_0, rf_100_1, rf_103_0, rf_103_1, rf_106_0, rf_106_1, rf_109_0, rf_109_1, al_2, al_4, al_5, al_7, al_8, al_10, al_11, al_12, al_14, al_15, al_17, al_18, al_19, al_20, al_22, al_23, al_24, al_25, al_27, al_28, al_29, al_30, al_32, al_33, al_34, al_35, al_37, al_38, al_40, al_42, al_5001, al_5002, al_5003, al_5004, al_5005, al_5006, al_5007, al_5008, al_5009, al_5010, al_5011, al_5012, al_5013, al_5014, al_5015, al_5016, al_5017, al_5018, al_5019, al_5020, al_5021, al_5022, al_5023, al_5024, al_5025, al_5026, al_9000, al_101, al_102, al_104, al_105, al_107, al_108, al_110, al_111, vcs_e, lg_c0, lg_cs, lg_nil, set_c0, set_cs, okst_0, okst_s, acok_n, acok_c, List.contains_nil, List.contains_cons, Bool.or_false, Bool.false_or, Bool.false_eq_true, if_false, if_true, ite_self, ne_eq, true_and, and_true, not_false_eq_true, not_true_eq_false, false_imp_iff, true_imp_iff, Nat.ble_eq, Bool.and_eq_true, reduceCtorEq, or_false, false_or, or_true, true_or, false_and, and_false, and_self, Int.reduceLE, Int.reduceAdd, Int.reduceSub, Int.reduceMul, Int.reduceNeg, Int.reduceLT, Int.reduceEq, Int.reduceNe, Nat.reduceBEq, Nat.reduceBNe, Nat.reduceEqDiff, amCmp_in, amCmp_lt, amCmp_le, amCmp_gt, amCmp_ge, amCmp_eq, amCmp_ne, Nat.reduceLeDiff, Nat.reduceSub, Bool.and_true, Bool.true_and, Bool.and_self, Bool.or_true, Bool.true_or, isRf_3, isRf_4, isRf_5, isRf_8, isRf_9, isRf_10, isRf_11, isRf_15, isRf_16, isRf_17, isRf_18, isRf_19, isRf_20, isRf_21, isRf_22, isRf_23, isRf_24, isRf_25, isRf_26, isRf_27, isRf_28, k_X12_readItems_0, k_X12_readItems_1, k_X12_readItems_3, k_X12_readItems_5, k_X12_readItems_7, k_X12_readItems_10, k_X12_readItems_13, k_X12_readItems_14, k_X12_readItems_15, k_X12_readItems_17, k_X12_readItems_18, k_X12_readItems_19, k_X12_readItems_21, k_X12_readItems_24, k_X12_readItems_25, k_X12_readItems_28, k_X12_readItems_31, k_X12_readItems_32, k_X12_readItems_34, k_X12_readItems_36, k_X12_readItems_37, k_X12_readItems_40, k_X12_readItems_43, k_X12_readItems_45, k_X12_readItems_47, k_X12_readItems_48, k_X12_readItems_51, k_X12_readItems_52, k_X12_readItems_55, k_X12_readItems_56, k_X12_readItems_59, k_X12_readItems_61, k_X12_readItems_63, k_X12_readItems_66, k_X12_readItems_69, k_X12_readItems_70, k_X12_readItems_73, k_X12_readItems_74, k_X12_readItems_75, k_X12_readItems_77, k_X12_readItems_78, k_X12_readItems_80, k_X12_readItems_81, k_X12_readItems_82, k_X12_readItems_84, k_X12_readItems_85, k_X12_readItems_86, k_X12_readItems_89, k_X12_readItems_90, k_X12_readItems_91, k_X12_readItems_94, k_X12_readItems_95, k_X12_readItems_96, k_X12_readItems_98, k_X12_readItems_99, k_X12_readItems_100, k_X12_readItems_101, k_X12_readItems_103, k_X12_readItems_106, k_X12_readItems_107, k_X12_readItems_109, k_X12_readItems_112, k_X12_readItems_115, k_X12_readItems_116, k_X12_readItems_117, k_X12_readItems_120, k_X12_readItems_121, k_X12_readItems_124, k_X12_readItems_126, k_X12_readItems_127, k_X12_readItems_130, k_X12_readItems_133, k_X12_readItems_135, k_X12_readItems_138, ho_11, xn]
      repeat' (first | apply And.intro | intro _)
      all_goals first | omega | exact absurd trivial (by assumption) | exact q9
  · change vcs _ _ _ _ 60 0 [(28, 5000), (0, c), (8, a), (0, r), (4, z), (6, 0), (6, 0)] [] (hoN m p (-1) cc v)
    have i9 : ∃ k', inv_rit m cc v p k i c a r z L R k' 3 [(28, 5000), (0, c), (8, a), (0, r), (4, z), (0, 0), (6, 0)] [] (hoN m p (-1) cc v) := ⟨(10 + L).toNat, rfl, Or.inl ⟨0, rfl, rfl, by rw [show ((0 : Nat) : Int) = 0 from rfl, flv_0], by omega, by omega⟩⟩
    simp only [↓reduceIte, inR_0, inR_1, inR_m, vSw2_e, swP_n, swP_c, vI_e, vL_e, vNull_e, vIload_e, vLload_e, vAload_e, vIstore_e, vLstore_e, vAstore_e, vIinc_e, vIadd_e, vIsub_e, vImul_e, vIand_e, vIor_e, vIxor_e, vIshl_e, vIshr_e, vIushr_e, vIdiv_e, vIrem_e, vLadd_e, vLsub_e, vLmul_e, vLand_e, vLor_e, vLxor_e, vLdiv_e, vLrem_e, vLushr_e, vLshl_e, vLcmp_e, vIneg_e, vI2l_e, vL2i_e, vI2b_e, vI2c_e, vDup_e, vPop_e, vDup2_e, vGoto_e, vIcEq_e, vIfEq_e, vIcNe_e, vIfNe_e, vIcLt_e, vIfLt_e, vIcGe_e, vIfGe_e, vIcGt_e, vIfGt_e, vIcLe_e, vIfLe_e, vNonnull_e, vSw_e, vGetI_e, vGetL_e, vGetR_e, vPutI_e, vPutZ_e, vPutL_e, vPutR_e, vIald_e, vIald_s, vLald_e, vBald_e, vBald_s, vAald_e, vIast_e, vLast_e, vBast_e, vAast_e, vAlen_e8, vAlen_e9, vAlen_e10, vAlen_e11, vAlen_e5, vAlen_e3, vGets_e, vCompact_e, vLdcS_e, vIret_e, vZret_e, vCret_e, vBret_e, vLret_e, vVret_e, vAret_e, vCallM_e0, vCallMV_e0, vCallS_e0, vCallSV_e0, vCallM_e1, vCallMV_e1, vCallS_e1, vCallSV_e1, vCallM_e2, vCallMV_e2, vCallS_e2, vCallSV_e2, vCallM_e3, vCallMV_e3, vCallS_e3, vCallSV_e3, vCallM_e4, vCallMV_e4, vCallS_e4, vCallSV_e4, vCallM_e5, vCallMV_e5, vCallS_e5, vCallSV_e5, vCallM_e6, vCallMV_e6, vCallS_e6, vCallSV_e6, vCallM_e7, vCallMV_e7, vCallS_e7, vCallSV_e7, vBad_e, vStrVal_e, vStrCod_e, vForm_e, vCallT_e0, vCallT_e1, vCallT_e2, vCopy_e, rf_0_0, rf_0_1, rf_0_2, rf_0_3, rf_0_4, rf_0_7, rf_0_10, rf_0_11, rf_0_12, rf_0_13, rf_0_14, rf_0_15, rf_0_16, rf_1_0, rf_3_0, rf_3_1, rf_6_0, rf_6_1, rf_9_0, rf_9_1, rf_9_3, rf_13_0, rf_13_1, rf_13_2, rf_16_0, rf_16_1, rf_16_2, rf_16_3, rf_21_0, rf_21_1, rf_21_2, rf_21_3, rf_26_0, rf_26_1, rf_26_2, rf_26_3, rf_26_4, rf_26_5, rf_26_6, rf_31_0, rf_31_2, rf_31_5, rf_31_6, rf_36_0, rf_36_1, rf_36_2, rf_36_3, rf_39_0, rf_39_1, rf_39_2, rf_41_0, rf_41_1, rf_41_2, rf_41_3, rf_5000_1, rf_5000_2, rf_5000_3, rf_5000_4, rf_5000_5, rf_5000_15, rf_5000_16, rf_5000_18, rf_5000_19, rf_5000_20, rf_5000_21, rf_5000_22, rf_5000_23, rf_5000_24, rf_5000_25, rf_5000_26, rf_5000_27, rf_5000_36, rf_5000_37, rf_5000_40, rf_5000_41, rf_5000_42, rf_5000_43, rf_5000_44, rf_5000_45, rf_5000_47, rf_5000_52, rf_5000_54, rf_5000_55, rf_100_0, rf_100_1, rf_103_0, rf_103_1, rf_106_0, rf_106_1, rf_109_0, rf_109_1, al_2, al_4, al_5, al_7, al_8, al_10, al_11, al_12, al_14, al_15, al_17, al_18, al_19, al_20, al_22, al_23, al_24, al_25, al_27, al_28, al_29, al_30, al_32, al_33, al_34, al_35, al_37, al_38, al_40, al_42, al_5001, al_5002, al_5003, al_5004, al_5005, al_5006, al_5007, al_5008, al_5009, al_5010, al_5011, al_5012, al_5013, al_5014, al_5015, al_5016, al_5017, al_5018, al_5019, al_5020, al_5021, al_5022, al_5023, al_5024, al_5025, al_5026, al_9000, al_101, al_102, al_104, al_105, al_107, al_108, al_110, al_111, vcs_e, lg_c0, lg_cs, lg_nil, set_c0, set_cs, okst_0, okst_s, acok_n, acok_c, List.contains_nil, List.contains_cons, Bool.or_false, Bool.false_or, Bool.false_eq_true, if_false, if_true, ite_self, ne_eq, true_and, and_true, not_false_eq_true, not_true_eq_false, false_imp_iff, true_imp_iff, Nat.ble_eq, Bool.and_eq_true, reduceCtorEq, or_false, false_or, or_true, true_or, false_and, and_false, and_self, Int.reduceLE, Int.reduceAdd, Int.reduceSub, Int.reduceMul, Int.reduceNeg, Int.reduceLT, Int.reduceEq, Int.reduceNe, Nat.reduceBEq, Nat.reduceBNe, Nat.reduceEqDiff, amCmp_in, amCmp_lt, amCmp_le, amCmp_gt, amCmp_ge, amCmp_eq, amCmp_ne, Nat.reduceLeDiff, Nat.reduceSub, Bool.and_true, Bool.true_and, Bool.and_self, Bool.or_true, Bool.true_or, isRf_3, isRf_4, isRf_5, isRf_8, isRf_9, isRf_10, isRf_11, isRf_15, isRf_16, isRf_17, isRf_18, isRf_19, isRf_20, isRf_21, isRf_22, isRf_23, isRf_24, isRf_25, isRf_26, isRf_27, isRf_28, k_X12_readItems_0, k_X12_readItems_1, k_X12_readItems_3, k_X12_readItems_5, k_X12_readItems_7, k_X12_readItems_10, k_X12_readItems_13, k_X12_readItems_14, k_X12_readItems_15, k_X12_readItems_17, k_X12_readItems_18, k_X12_readItems_19, k_X12_readItems_21, k_X12_readItems_24, k_X12_readItems_25, k_X12_readItems_28, k_X12_readItems_31, k_X12_readItems_32, k_X12_readItems_34, k_X12_readItems_36, k_X12_readItems_37, k_X12_readItems_40, k_X12_readItems_43, k_X12_readItems_45, k_X12_readItems_47, k_X12_readItems_48, k_X12_readItems_51, k_X12_readItems_52, k_X12_readItems_55, k_X12_readItems_56, k_X12_readItems_59, k_X12_readItems_61, k_X12_readItems_63, k_X12_readItems_66, k_X12_readItems_69, k_X12_readItems_70, k_X12_readItems_73, k_X12_readItems_74, k_X12_readItems_75, k_X12_readItems_77, k_X12_readItems_78, k_X12_readItems_80, k_X12_readItems_81, k_X12_readItems_82, k_X12_readItems_84, k_X12_readItems_85, k_X12_readItems_86, k_X12_readItems_89, k_X12_readItems_90, k_X12_readItems_91, k_X12_readItems_94, k_X12_readItems_95, k_X12_readItems_96, k_X12_readItems_98, k_X12_readItems_99, k_X12_readItems_100, k_X12_readItems_101, k_X12_readItems_103, k_X12_readItems_106, k_X12_readItems_107, k_X12_readItems_109, k_X12_readItems_112, k_X12_readItems_115, k_X12_readItems_116, k_X12_readItems_117, k_X12_readItems_120, k_X12_readItems_121, k_X12_readItems_124, k_X12_readItems_126, k_X12_readItems_127, k_X12_readItems_130, k_X12_readItems_133, k_X12_readItems_135, k_X12_readItems_138]
    repeat' (first | apply And.intro | intro _)
    all_goals first | omega | exact absurd trivial (by assumption) | exact i9
/-! the reference reads a clause of a HOUSE -/
theorem kindF_e (s : Int) : kindF s = if s = 115 then 0 else if s = 112 then 1 else if s = 99 then 2 else if s = 116 then 3 else -1 := by
  unfold kindF
  have e0 : stv 20100 0 = 115 := by decide
  have e1 : stv 20100 1 = 112 := by decide
  have e2 : stv 20100 2 = 99 := by decide
  have e3 : stv 20100 3 = 116 := by decide
  rw [fidx_4, e0, e1, e2, e3]
  (repeat' split) <;> omega
theorem ho_uc (m : Mem) (p f x : Int) (c v : Int → Int) {k : Int} (h : 31 ≤ k ∧ k ≤ 33) : up (hoN m p f c v) 5000 k x = hoN m p f (upf c (k - 30) x) v := by
  funext b j; unfold up hoN upf
  by_cases h2 : b = 5000 ∧ j = k
  · rw [if_pos h2, h2.1, h2.2, slo_5, if_neg (by decide), if_pos ⟨rfl, h⟩, if_pos rfl]
  · rw [if_neg h2]
    by_cases h3 : b = 5000 ∧ 31 ≤ j ∧ j ≤ 33
    · rw [if_pos h3, if_pos h3, if_neg (by omega)]
    · rw [if_neg h3, if_neg h3]
      by_cases h4 : b = 5000 ∧ j = 35
      · rw [if_pos h4, if_pos h4, if_neg (by omega)]
      · rw [if_neg h4, if_neg h4]
theorem ho_u0 (m : Mem) (p f x : Int) (c v : Int → Int) : up (hoN m p f c v) 5000 35 x = hoN m p f (upf c 0 x) v := by
  funext b j; unfold up hoN upf
  by_cases h2 : b = 5000 ∧ j = 35
  · rw [if_pos h2, h2.1, h2.2, slo_5, if_neg (by decide), if_neg (by decide), if_pos ⟨rfl, rfl⟩, if_pos rfl]
  · rw [if_neg h2]
    by_cases h3 : b = 5000 ∧ 31 ≤ j ∧ j ≤ 33
    · rw [if_pos h3, if_pos h3, if_neg (by omega)]
    · rw [if_neg h3, if_neg h3, if_neg h2, if_neg h2]

theorem wd_1340 : Cond.fieldLink RX12 257 "ArmchairHouseModel" "hasRules" "Z" ∈ TBL := tb_tab (List.mem_of_getElem? (i := 1340) (by decide +kernel)) rfl
theorem fl_X12_257 : amFl RX12 12 35 257 RX12 TX12 57 := ⟨rfl, inT_12, by decide, wd_1340⟩
theorem wd_1336 : Cond.fieldLink RX12 260 "ArmchairHouseModel" "playsRead" "I" ∈ TBL := tb_tab (List.mem_of_getElem? (i := 1336) (by decide +kernel)) rfl
theorem fl_X12_260 : amFl RX12 12 31 260 RX12 TX12 57 := ⟨rfl, inT_12, by decide, wd_1336⟩
theorem wd_1337 : Cond.fieldLink RX12 263 "ArmchairHouseModel" "chairsRead" "I" ∈ TBL := tb_tab (List.mem_of_getElem? (i := 1337) (by decide +kernel)) rfl
theorem fl_X12_263 : amFl RX12 12 32 263 RX12 TX12 57 := ⟨rfl, inT_12, by decide, wd_1337⟩
theorem wd_1338 : Cond.fieldLink RX12 266 "ArmchairHouseModel" "sittersRead" "I" ∈ TBL := tb_tab (List.mem_of_getElem? (i := 1338) (by decide +kernel)) rfl
theorem fl_X12_266 : amFl RX12 12 33 266 RX12 TX12 57 := ⟨rfl, inT_12, by decide, wd_1338⟩
theorem fp_X12_257 : amFp RX12 12 35 257 RX12 TX12 57 tyX12 .boolean := ⟨fl_X12_257, tyX12_ok, nmX12, by decide +kernel⟩
theorem wd_1324 : Cond.fieldLink RX12 40 "ArmchairHouseModel" "ruleRead" "[I" ∈ TBL := tb_tab (List.mem_of_getElem? (i := 1324) (by decide +kernel)) rfl
theorem fl_X12_40 : amFl RX12 12 19 40 RX12 TX12 57 := ⟨rfl, inT_12, by decide, wd_1324⟩
theorem wd_1528 : Cond.methodLink RX12 271 yX12_readItems ∈ TBL := tb_tab (List.mem_of_getElem? (i := 1528) (by decide +kernel)) rfl
theorem wd_1531 : Cond.code yX12_readItems cX12_readItems 7 (none) ∈ TBL := tb_tab (List.mem_of_getElem? (i := 1531) (by decide +kernel)) rfl
theorem lk_X12_271 : amLk RX12 271 yX12_readItems cX12_readItems 7 (none) 4 := ⟨wd_1528, wd_12, wd_1531, by decide +kernel, by decide +kernel, by decide⟩
theorem wd_1530 : Cond.instanceMethod yX12_readItems ∈ TBL := tb_tab (List.mem_of_getElem? (i := 1530) (by decide +kernel)) rfl
theorem sl_X12_readItems : Cond.selects RX12 yX12_readItems yX12_readItems ∈ TBL := tb_sel (List.mem_of_getElem? (i := 53) (by decide +kernel)) rfl
theorem fp_X12_260 : amFp RX12 12 31 260 RX12 TX12 57 tyX12 .int := ⟨fl_X12_260, tyX12_ok, nmX12, by decide +kernel⟩
theorem wd_1326 : Cond.fieldLink RX12 46 "ArmchairHouseModel" "playRead" "[I" ∈ TBL := tb_tab (List.mem_of_getElem? (i := 1326) (by decide +kernel)) rfl
theorem fl_X12_46 : amFl RX12 12 21 46 RX12 TX12 57 := ⟨rfl, inT_12, by decide, wd_1326⟩
theorem fp_X12_263 : amFp RX12 12 32 263 RX12 TX12 57 tyX12 .int := ⟨fl_X12_263, tyX12_ok, nmX12, by decide +kernel⟩
theorem wd_1328 : Cond.fieldLink RX12 52 "ArmchairHouseModel" "chairRead" "[I" ∈ TBL := tb_tab (List.mem_of_getElem? (i := 1328) (by decide +kernel)) rfl
theorem fl_X12_52 : amFl RX12 12 23 52 RX12 TX12 57 := ⟨rfl, inT_12, by decide, wd_1328⟩
theorem fp_X12_266 : amFp RX12 12 33 266 RX12 TX12 57 tyX12 .int := ⟨fl_X12_266, tyX12_ok, nmX12, by decide +kernel⟩
theorem wd_1330 : Cond.fieldLink RX12 58 "ArmchairHouseModel" "sitterRead" "[I" ∈ TBL := tb_tab (List.mem_of_getElem? (i := 1330) (by decide +kernel)) rfl
theorem fl_X12_58 : amFl RX12 12 25 58 RX12 TX12 57 := ⟨rfl, inT_12, by decide, wd_1330⟩
def a_X12_readClause : AC := [(0, vAload 0 1), (1, vCallM w_X12_look 28 0 4), (4, vIstore 1 5), (5, vIload 1 6), (6, vI 115 8), (8, vIcNe 18 11), (11, vAload 0 12), (12, vGetI 28 35 15), (15, vIfEq 62 18), (18, vIload 1 19), (19, vI 112 21), (21, vIcNe 32 24), (24, vAload 0 25), (25, vGetI 28 31 28), (28, vI 4 29), (29, vIcLt 62 32), (32, vIload 1 33), (33, vI 99 35), (35, vIcNe 47 38), (38, vAload 0 39), (39, vGetI 28 32 42), (42, vI 6 44), (44, vIcLt 62 47), (47, vIload 1 48), (48, vI 116 50), (50, vIcNe 66 53), (53, vAload 0 54), (54, vGetI 28 33 57), (57, vI 6 59), (59, vIcGe 66 62), (62, vI 1 63), (63, vGoto 67), (66, vI 0 67), (67, vIstore 2 68), (68, vIload 2 69), (69, vIfNe 78 72), (72, vAload 0 73), (73, vCallM w_X12_fails 28 0 76), (76, vPop 77), (77, vVret), (78, vAload 0 79), (79, vDup 80), (80, vGetI 28 10 83), (83, vI 1 84), (84, vIadd 85), (85, vPutI 28 10 88), (88, vIload 1 89), (89, vI 115 91), (91, vIcNe 115 94), (94, vAload 0 95), (95, vI 1 96), (96, vPutZ 28 35 99), (99, vAload 0 100), (100, vIload 1 101), (101, vAload 0 102), (102, vGetR TT 28 19 8 105), (105, vI 0 106), (106, vLdcS 20006 109), (109, vCallMV w_X12_readItems 28 4 112), (112, vGoto 221), (115, vIload 1 116), (116, vI 112 118), (118, vIcNe 154 121), (121, vAload 0 122), (122, vDup 123), (123, vGetI 28 31 126), (126, vI 1 127), (127, vIadd 128), (128, vPutI 28 31 131), (131, vAload 0 132), (132, vIload 1 133), (133, vAload 0 134), (134, vGetR TT 28 21 8 137), (137, vI 4 138), (138, vAload 0 139), (139, vGetI 28 31 142), (142, vI 1 143), (143, vIsub 144), (144, vImul 145), (145, vLdcS 20007 148), (148, vCallMV w_X12_readItems 28 4 151), (151, vGoto 221), (154, vIload 1 155), (155, vI 99 157), (157, vIcNe 193 160), (160, vAload 0 161), (161, vDup 162), (162, vGetI 28 32 165), (165, vI 1 166), (166, vIadd 167), (167, vPutI 28 32 170), (170, vAload 0 171), (171, vIload 1 172), (172, vAload 0 173), (173, vGetR TT 28 23 8 176), (176, vI 3 177), (177, vAload 0 178), (178, vGetI 28 32 181), (181, vI 1 182), (182, vIsub 183), (183, vImul 184), (184, vLdcS 20008 187), (187, vCallMV w_X12_readItems 28 4 190), (190, vGoto 221), (193, vAload 0 194), (194, vDup 195), (195, vGetI 28 33 198), (198, vI 1 199), (199, vIadd 200), (200, vPutI 28 33 203), (203, vAload 0 204), (204, vIload 1 205), (205, vAload 0 206), (206, vGetR TT 28 25 8 209), (209, vAload 0 210), (210, vGetI 28 33 213), (213, vI 1 214), (214, vIsub 215), (215, vLdcS 20009 218), (218, vCallMV w_X12_readItems 28 4 221), (221, vVret)]
theorem k_X12_readClause_0 : look a_X12_readClause 0 = vAload 0 1 := rfl
theorem k_X12_readClause_1 : look a_X12_readClause 1 = vCallM w_X12_look 28 0 4 := rfl
theorem k_X12_readClause_4 : look a_X12_readClause 4 = vIstore 1 5 := rfl
theorem k_X12_readClause_5 : look a_X12_readClause 5 = vIload 1 6 := rfl
theorem k_X12_readClause_6 : look a_X12_readClause 6 = vI 115 8 := rfl
theorem k_X12_readClause_8 : look a_X12_readClause 8 = vIcNe 18 11 := rfl
theorem k_X12_readClause_11 : look a_X12_readClause 11 = vAload 0 12 := rfl
theorem k_X12_readClause_12 : look a_X12_readClause 12 = vGetI 28 35 15 := rfl
theorem k_X12_readClause_15 : look a_X12_readClause 15 = vIfEq 62 18 := rfl
theorem k_X12_readClause_18 : look a_X12_readClause 18 = vIload 1 19 := rfl
theorem k_X12_readClause_19 : look a_X12_readClause 19 = vI 112 21 := rfl
theorem k_X12_readClause_21 : look a_X12_readClause 21 = vIcNe 32 24 := rfl
theorem k_X12_readClause_24 : look a_X12_readClause 24 = vAload 0 25 := rfl
theorem k_X12_readClause_25 : look a_X12_readClause 25 = vGetI 28 31 28 := rfl
theorem k_X12_readClause_28 : look a_X12_readClause 28 = vI 4 29 := rfl
theorem k_X12_readClause_29 : look a_X12_readClause 29 = vIcLt 62 32 := rfl
theorem k_X12_readClause_32 : look a_X12_readClause 32 = vIload 1 33 := rfl
theorem k_X12_readClause_33 : look a_X12_readClause 33 = vI 99 35 := rfl
theorem k_X12_readClause_35 : look a_X12_readClause 35 = vIcNe 47 38 := rfl
theorem k_X12_readClause_38 : look a_X12_readClause 38 = vAload 0 39 := rfl
theorem k_X12_readClause_39 : look a_X12_readClause 39 = vGetI 28 32 42 := rfl
theorem k_X12_readClause_42 : look a_X12_readClause 42 = vI 6 44 := rfl
theorem k_X12_readClause_44 : look a_X12_readClause 44 = vIcLt 62 47 := rfl
theorem k_X12_readClause_47 : look a_X12_readClause 47 = vIload 1 48 := rfl
theorem k_X12_readClause_48 : look a_X12_readClause 48 = vI 116 50 := rfl
theorem k_X12_readClause_50 : look a_X12_readClause 50 = vIcNe 66 53 := rfl
theorem k_X12_readClause_53 : look a_X12_readClause 53 = vAload 0 54 := rfl
theorem k_X12_readClause_54 : look a_X12_readClause 54 = vGetI 28 33 57 := rfl
theorem k_X12_readClause_57 : look a_X12_readClause 57 = vI 6 59 := rfl
theorem k_X12_readClause_59 : look a_X12_readClause 59 = vIcGe 66 62 := rfl
theorem k_X12_readClause_62 : look a_X12_readClause 62 = vI 1 63 := rfl
theorem k_X12_readClause_63 : look a_X12_readClause 63 = vGoto 67 := rfl
theorem k_X12_readClause_66 : look a_X12_readClause 66 = vI 0 67 := rfl
theorem k_X12_readClause_67 : look a_X12_readClause 67 = vIstore 2 68 := rfl
theorem k_X12_readClause_68 : look a_X12_readClause 68 = vIload 2 69 := rfl
theorem k_X12_readClause_69 : look a_X12_readClause 69 = vIfNe 78 72 := rfl
theorem k_X12_readClause_72 : look a_X12_readClause 72 = vAload 0 73 := rfl
theorem k_X12_readClause_73 : look a_X12_readClause 73 = vCallM w_X12_fails 28 0 76 := rfl
theorem k_X12_readClause_76 : look a_X12_readClause 76 = vPop 77 := rfl
theorem k_X12_readClause_77 : look a_X12_readClause 77 = vVret := rfl
theorem k_X12_readClause_78 : look a_X12_readClause 78 = vAload 0 79 := rfl
theorem k_X12_readClause_79 : look a_X12_readClause 79 = vDup 80 := rfl
theorem k_X12_readClause_80 : look a_X12_readClause 80 = vGetI 28 10 83 := rfl
theorem k_X12_readClause_83 : look a_X12_readClause 83 = vI 1 84 := rfl
theorem k_X12_readClause_84 : look a_X12_readClause 84 = vIadd 85 := rfl
theorem k_X12_readClause_85 : look a_X12_readClause 85 = vPutI 28 10 88 := rfl
theorem k_X12_readClause_88 : look a_X12_readClause 88 = vIload 1 89 := rfl
theorem k_X12_readClause_89 : look a_X12_readClause 89 = vI 115 91 := rfl
theorem k_X12_readClause_91 : look a_X12_readClause 91 = vIcNe 115 94 := rfl
theorem k_X12_readClause_94 : look a_X12_readClause 94 = vAload 0 95 := rfl
theorem k_X12_readClause_95 : look a_X12_readClause 95 = vI 1 96 := rfl
theorem k_X12_readClause_96 : look a_X12_readClause 96 = vPutZ 28 35 99 := rfl
theorem k_X12_readClause_99 : look a_X12_readClause 99 = vAload 0 100 := rfl
theorem k_X12_readClause_100 : look a_X12_readClause 100 = vIload 1 101 := rfl
theorem k_X12_readClause_101 : look a_X12_readClause 101 = vAload 0 102 := rfl
theorem k_X12_readClause_102 : look a_X12_readClause 102 = vGetR TT 28 19 8 105 := rfl
theorem k_X12_readClause_105 : look a_X12_readClause 105 = vI 0 106 := rfl
theorem k_X12_readClause_106 : look a_X12_readClause 106 = vLdcS 20006 109 := rfl
theorem k_X12_readClause_109 : look a_X12_readClause 109 = vCallMV w_X12_readItems 28 4 112 := rfl
theorem k_X12_readClause_112 : look a_X12_readClause 112 = vGoto 221 := rfl
theorem k_X12_readClause_115 : look a_X12_readClause 115 = vIload 1 116 := rfl
theorem k_X12_readClause_116 : look a_X12_readClause 116 = vI 112 118 := rfl
theorem k_X12_readClause_118 : look a_X12_readClause 118 = vIcNe 154 121 := rfl
theorem k_X12_readClause_121 : look a_X12_readClause 121 = vAload 0 122 := rfl
theorem k_X12_readClause_122 : look a_X12_readClause 122 = vDup 123 := rfl
theorem k_X12_readClause_123 : look a_X12_readClause 123 = vGetI 28 31 126 := rfl
theorem k_X12_readClause_126 : look a_X12_readClause 126 = vI 1 127 := rfl
theorem k_X12_readClause_127 : look a_X12_readClause 127 = vIadd 128 := rfl
theorem k_X12_readClause_128 : look a_X12_readClause 128 = vPutI 28 31 131 := rfl
theorem k_X12_readClause_131 : look a_X12_readClause 131 = vAload 0 132 := rfl
theorem k_X12_readClause_132 : look a_X12_readClause 132 = vIload 1 133 := rfl
theorem k_X12_readClause_133 : look a_X12_readClause 133 = vAload 0 134 := rfl
theorem k_X12_readClause_134 : look a_X12_readClause 134 = vGetR TT 28 21 8 137 := rfl
theorem k_X12_readClause_137 : look a_X12_readClause 137 = vI 4 138 := rfl
theorem k_X12_readClause_138 : look a_X12_readClause 138 = vAload 0 139 := rfl
theorem k_X12_readClause_139 : look a_X12_readClause 139 = vGetI 28 31 142 := rfl
theorem k_X12_readClause_142 : look a_X12_readClause 142 = vI 1 143 := rfl
theorem k_X12_readClause_143 : look a_X12_readClause 143 = vIsub 144 := rfl
theorem k_X12_readClause_144 : look a_X12_readClause 144 = vImul 145 := rfl
theorem k_X12_readClause_145 : look a_X12_readClause 145 = vLdcS 20007 148 := rfl
theorem k_X12_readClause_148 : look a_X12_readClause 148 = vCallMV w_X12_readItems 28 4 151 := rfl
theorem k_X12_readClause_151 : look a_X12_readClause 151 = vGoto 221 := rfl
theorem k_X12_readClause_154 : look a_X12_readClause 154 = vIload 1 155 := rfl
theorem k_X12_readClause_155 : look a_X12_readClause 155 = vI 99 157 := rfl
theorem k_X12_readClause_157 : look a_X12_readClause 157 = vIcNe 193 160 := rfl
theorem k_X12_readClause_160 : look a_X12_readClause 160 = vAload 0 161 := rfl
theorem k_X12_readClause_161 : look a_X12_readClause 161 = vDup 162 := rfl
theorem k_X12_readClause_162 : look a_X12_readClause 162 = vGetI 28 32 165 := rfl
theorem k_X12_readClause_165 : look a_X12_readClause 165 = vI 1 166 := rfl
theorem k_X12_readClause_166 : look a_X12_readClause 166 = vIadd 167 := rfl
theorem k_X12_readClause_167 : look a_X12_readClause 167 = vPutI 28 32 170 := rfl
theorem k_X12_readClause_170 : look a_X12_readClause 170 = vAload 0 171 := rfl
theorem k_X12_readClause_171 : look a_X12_readClause 171 = vIload 1 172 := rfl
theorem k_X12_readClause_172 : look a_X12_readClause 172 = vAload 0 173 := rfl
theorem k_X12_readClause_173 : look a_X12_readClause 173 = vGetR TT 28 23 8 176 := rfl
theorem k_X12_readClause_176 : look a_X12_readClause 176 = vI 3 177 := rfl
theorem k_X12_readClause_177 : look a_X12_readClause 177 = vAload 0 178 := rfl
theorem k_X12_readClause_178 : look a_X12_readClause 178 = vGetI 28 32 181 := rfl
theorem k_X12_readClause_181 : look a_X12_readClause 181 = vI 1 182 := rfl
theorem k_X12_readClause_182 : look a_X12_readClause 182 = vIsub 183 := rfl
theorem k_X12_readClause_183 : look a_X12_readClause 183 = vImul 184 := rfl
theorem k_X12_readClause_184 : look a_X12_readClause 184 = vLdcS 20008 187 := rfl
theorem k_X12_readClause_187 : look a_X12_readClause 187 = vCallMV w_X12_readItems 28 4 190 := rfl
theorem k_X12_readClause_190 : look a_X12_readClause 190 = vGoto 221 := rfl
theorem k_X12_readClause_193 : look a_X12_readClause 193 = vAload 0 194 := rfl
theorem k_X12_readClause_194 : look a_X12_readClause 194 = vDup 195 := rfl
theorem k_X12_readClause_195 : look a_X12_readClause 195 = vGetI 28 33 198 := rfl
theorem k_X12_readClause_198 : look a_X12_readClause 198 = vI 1 199 := rfl
theorem k_X12_readClause_199 : look a_X12_readClause 199 = vIadd 200 := rfl
theorem k_X12_readClause_200 : look a_X12_readClause 200 = vPutI 28 33 203 := rfl
theorem k_X12_readClause_203 : look a_X12_readClause 203 = vAload 0 204 := rfl
theorem k_X12_readClause_204 : look a_X12_readClause 204 = vIload 1 205 := rfl
theorem k_X12_readClause_205 : look a_X12_readClause 205 = vAload 0 206 := rfl
theorem k_X12_readClause_206 : look a_X12_readClause 206 = vGetR TT 28 25 8 209 := rfl
theorem k_X12_readClause_209 : look a_X12_readClause 209 = vAload 0 210 := rfl
theorem k_X12_readClause_210 : look a_X12_readClause 210 = vGetI 28 33 213 := rfl
theorem k_X12_readClause_213 : look a_X12_readClause 213 = vI 1 214 := rfl
theorem k_X12_readClause_214 : look a_X12_readClause 214 = vIsub 215 := rfl
theorem k_X12_readClause_215 : look a_X12_readClause 215 = vLdcS 20009 218 := rfl
theorem k_X12_readClause_218 : look a_X12_readClause 218 = vCallMV w_X12_readItems 28 4 221 := rfl
theorem k_X12_readClause_221 : look a_X12_readClause 221 = vVret := rfl
theorem o_X12_readClause {X : amX} (e1 : XT X = TT) (e2 : XD X = 6) (hB : amB X RX12 cX12_readClause (none) 3) : ∀ pc, amOK X pc (look a_X12_readClause pc) := by
  have hT : amTok (XT X) := e1 ▸ TT_ok
  refine look_ok ?_
  unfold a_X12_readClause
  refine fc (ok_aload_n hB dX12_readClause_0) ?_
  refine fc (ok_callM hB hT (e1 ▸ s_X12_look) lk_X12_153 (by rw [e2]; decide) (c := 12) rfl rfl rfl wd_1521 sl_X12_look dX12_readClause_1) ?_
  refine fc (ok_istore_n hB (by decide) dX12_readClause_4) ?_
  refine fc (ok_iload_n hB dX12_readClause_5) ?_
  refine fc (ok_bipush hB dX12_readClause_6 (by decide)) ?_
  refine fc (ok_icmp_ne hB (t := 18) (by decide) dX12_readClause_8) ?_
  refine fc (ok_aload_n hB dX12_readClause_11) ?_
  refine fc (ok_getI hB hT fl_X12_257 rfl rfl (Or.inr af_12_35) dX12_readClause_12) ?_
  refine fc (ok_if_eq hB (t := 62) (by decide) dX12_readClause_15) ?_
  refine fc (ok_iload_n hB dX12_readClause_18) ?_
  refine fc (ok_bipush hB dX12_readClause_19 (by decide)) ?_
  refine fc (ok_icmp_ne hB (t := 32) (by decide) dX12_readClause_21) ?_
  refine fc (ok_aload_n hB dX12_readClause_24) ?_
  refine fc (ok_getI hB hT fl_X12_260 rfl rfl (Or.inl af_12_31) dX12_readClause_25) ?_
  refine fc (ok_iconst hB dX12_readClause_28) ?_
  refine fc (ok_icmp_lt hB (t := 62) (by decide) dX12_readClause_29) ?_
  refine fc (ok_iload_n hB dX12_readClause_32) ?_
  refine fc (ok_bipush hB dX12_readClause_33 (by decide)) ?_
  refine fc (ok_icmp_ne hB (t := 47) (by decide) dX12_readClause_35) ?_
  refine fc (ok_aload_n hB dX12_readClause_38) ?_
  refine fc (ok_getI hB hT fl_X12_263 rfl rfl (Or.inl af_12_32) dX12_readClause_39) ?_
  refine fc (ok_bipush hB dX12_readClause_42 (by decide)) ?_
  refine fc (ok_icmp_lt hB (t := 62) (by decide) dX12_readClause_44) ?_
  refine fc (ok_iload_n hB dX12_readClause_47) ?_
  refine fc (ok_bipush hB dX12_readClause_48 (by decide)) ?_
  refine fc (ok_icmp_ne hB (t := 66) (by decide) dX12_readClause_50) ?_
  refine fc (ok_aload_n hB dX12_readClause_53) ?_
  refine fc (ok_getI hB hT fl_X12_266 rfl rfl (Or.inl af_12_33) dX12_readClause_54) ?_
  refine fc (ok_bipush hB dX12_readClause_57 (by decide)) ?_
  refine fc (ok_icmp_ge hB (t := 66) (by decide) dX12_readClause_59) ?_
  refine fc (ok_iconst hB dX12_readClause_62) ?_
  refine fc (ok_goto hB (t := 67) (by decide) dX12_readClause_63) ?_
  refine fc (ok_iconst hB dX12_readClause_66) ?_
  refine fc (ok_istore_n hB (by decide) dX12_readClause_67) ?_
  refine fc (ok_iload_n hB dX12_readClause_68) ?_
  refine fc (ok_if_ne hB (t := 78) (by decide) dX12_readClause_69) ?_
  refine fc (ok_aload_n hB dX12_readClause_72) ?_
  refine fc (ok_callM hB hT (e1 ▸ s_X12_fails) lk_X12_149 (by rw [e2]; decide) (c := 12) rfl rfl rfl wd_1525 sl_X12_fails dX12_readClause_73) ?_
  refine fc (ok_pop hB dX12_readClause_76) ?_
  refine fc (ok_vret hB dX12_readClause_77) ?_
  refine fc (ok_aload_n hB dX12_readClause_78) ?_
  refine fc (ok_dup hB dX12_readClause_79) ?_
  refine fc (ok_getI hB hT fl_X12_134 rfl rfl (Or.inl af_12_10) dX12_readClause_80) ?_
  refine fc (ok_iconst hB dX12_readClause_83) ?_
  refine fc (ok_iadd hB dX12_readClause_84) ?_
  refine fc (ok_putI hB hT fp_X12_134 rfl rfl rfl af_12_10 dX12_readClause_85) ?_
  refine fc (ok_iload_n hB dX12_readClause_88) ?_
  refine fc (ok_bipush hB dX12_readClause_89 (by decide)) ?_
  refine fc (ok_icmp_ne hB (t := 115) (by decide) dX12_readClause_91) ?_
  refine fc (ok_aload_n hB dX12_readClause_94) ?_
  refine fc (ok_iconst hB dX12_readClause_95) ?_
  refine fc (ok_putZ hB hT fp_X12_257 rfl rfl rfl af_12_35 dX12_readClause_96) ?_
  refine fc (ok_aload_n hB dX12_readClause_99) ?_
  refine fc (ok_iload_n hB dX12_readClause_100) ?_
  refine fc (ok_aload_n hB dX12_readClause_101) ?_
  refine fc (okt_getR e1 hB hT fl_X12_40 rfl af_12_19 at_12_19 (by decide) dX12_readClause_102) ?_
  refine fc (ok_iconst hB dX12_readClause_105) ?_
  refine fc (ok_ldcwS hB (k := 6) rfl rfl rfl rfl dX12_readClause_106) ?_
  refine fc (ok_callMV hB hT (e1 ▸ s_X12_readItems) lk_X12_271 (by rw [e2]; decide) (c := 12) rfl rfl rfl wd_1530 sl_X12_readItems dX12_readClause_109) ?_
  refine fc (ok_goto hB (t := 221) (by decide) dX12_readClause_112) ?_
  refine fc (ok_iload_n hB dX12_readClause_115) ?_
  refine fc (ok_bipush hB dX12_readClause_116 (by decide)) ?_
  refine fc (ok_icmp_ne hB (t := 154) (by decide) dX12_readClause_118) ?_
  refine fc (ok_aload_n hB dX12_readClause_121) ?_
  refine fc (ok_dup hB dX12_readClause_122) ?_
  refine fc (ok_getI hB hT fl_X12_260 rfl rfl (Or.inl af_12_31) dX12_readClause_123) ?_
  refine fc (ok_iconst hB dX12_readClause_126) ?_
  refine fc (ok_iadd hB dX12_readClause_127) ?_
  refine fc (ok_putI hB hT fp_X12_260 rfl rfl rfl af_12_31 dX12_readClause_128) ?_
  refine fc (ok_aload_n hB dX12_readClause_131) ?_
  refine fc (ok_iload_n hB dX12_readClause_132) ?_
  refine fc (ok_aload_n hB dX12_readClause_133) ?_
  refine fc (okt_getR e1 hB hT fl_X12_46 rfl af_12_21 at_12_21 (by decide) dX12_readClause_134) ?_
  refine fc (ok_iconst hB dX12_readClause_137) ?_
  refine fc (ok_aload_n hB dX12_readClause_138) ?_
  refine fc (ok_getI hB hT fl_X12_260 rfl rfl (Or.inl af_12_31) dX12_readClause_139) ?_
  refine fc (ok_iconst hB dX12_readClause_142) ?_
  refine fc (ok_isub hB dX12_readClause_143) ?_
  refine fc (ok_imul hB dX12_readClause_144) ?_
  refine fc (ok_ldcwS hB (k := 7) rfl rfl rfl rfl dX12_readClause_145) ?_
  refine fc (ok_callMV hB hT (e1 ▸ s_X12_readItems) lk_X12_271 (by rw [e2]; decide) (c := 12) rfl rfl rfl wd_1530 sl_X12_readItems dX12_readClause_148) ?_
  refine fc (ok_goto hB (t := 221) (by decide) dX12_readClause_151) ?_
  refine fc (ok_iload_n hB dX12_readClause_154) ?_
  refine fc (ok_bipush hB dX12_readClause_155 (by decide)) ?_
  refine fc (ok_icmp_ne hB (t := 193) (by decide) dX12_readClause_157) ?_
  refine fc (ok_aload_n hB dX12_readClause_160) ?_
  refine fc (ok_dup hB dX12_readClause_161) ?_
  refine fc (ok_getI hB hT fl_X12_263 rfl rfl (Or.inl af_12_32) dX12_readClause_162) ?_
  refine fc (ok_iconst hB dX12_readClause_165) ?_
  refine fc (ok_iadd hB dX12_readClause_166) ?_
  refine fc (ok_putI hB hT fp_X12_263 rfl rfl rfl af_12_32 dX12_readClause_167) ?_
  refine fc (ok_aload_n hB dX12_readClause_170) ?_
  refine fc (ok_iload_n hB dX12_readClause_171) ?_
  refine fc (ok_aload_n hB dX12_readClause_172) ?_
  refine fc (okt_getR e1 hB hT fl_X12_52 rfl af_12_23 at_12_23 (by decide) dX12_readClause_173) ?_
  refine fc (ok_iconst hB dX12_readClause_176) ?_
  refine fc (ok_aload_n hB dX12_readClause_177) ?_
  refine fc (ok_getI hB hT fl_X12_263 rfl rfl (Or.inl af_12_32) dX12_readClause_178) ?_
  refine fc (ok_iconst hB dX12_readClause_181) ?_
  refine fc (ok_isub hB dX12_readClause_182) ?_
  refine fc (ok_imul hB dX12_readClause_183) ?_
  refine fc (ok_ldcwS hB (k := 8) rfl rfl rfl rfl dX12_readClause_184) ?_
  refine fc (ok_callMV hB hT (e1 ▸ s_X12_readItems) lk_X12_271 (by rw [e2]; decide) (c := 12) rfl rfl rfl wd_1530 sl_X12_readItems dX12_readClause_187) ?_
  refine fc (ok_goto hB (t := 221) (by decide) dX12_readClause_190) ?_
  refine fc (ok_aload_n hB dX12_readClause_193) ?_
  refine fc (ok_dup hB dX12_readClause_194) ?_
  refine fc (ok_getI hB hT fl_X12_266 rfl rfl (Or.inl af_12_33) dX12_readClause_195) ?_
  refine fc (ok_iconst hB dX12_readClause_198) ?_
  refine fc (ok_iadd hB dX12_readClause_199) ?_
  refine fc (ok_putI hB hT fp_X12_266 rfl rfl rfl af_12_33 dX12_readClause_200) ?_
  refine fc (ok_aload_n hB dX12_readClause_203) ?_
  refine fc (ok_iload_n hB dX12_readClause_204) ?_
  refine fc (ok_aload_n hB dX12_readClause_205) ?_
  refine fc (okt_getR e1 hB hT fl_X12_58 rfl af_12_25 at_12_25 (by decide) dX12_readClause_206) ?_
  refine fc (ok_aload_n hB dX12_readClause_209) ?_
  refine fc (ok_getI hB hT fl_X12_266 rfl rfl (Or.inl af_12_33) dX12_readClause_210) ?_
  refine fc (ok_iconst hB dX12_readClause_213) ?_
  refine fc (ok_isub hB dX12_readClause_214) ?_
  refine fc (ok_ldcwS hB (k := 9) rfl rfl rfl rfl dX12_readClause_215) ?_
  refine fc (ok_callMV hB hT (e1 ▸ s_X12_readItems) lk_X12_271 (by rw [e2]; decide) (c := 12) rfl rfl rfl wd_1530 sl_X12_readItems dX12_readClause_218) ?_
  refine fc (ok_vret hB dX12_readClause_221) ?_
  exact fn

def w_X12_readClause : WP := fun av σ Q => av = [(28, 5000)] ∧ (∃ (m : Mem) (p : Int) (c v : Int → Int), σ = hoN m p (-1) c v ∧ txOk m ∧ 0 ≤ p ∧ p ≤ m 5000 9 ∧ cntB c ∧ c 0 ≤ 1 ∧ rowB v ∧
(¬ (0 ≤ hK (mtx m) (m 5000 9) p ∧ c (hK (mtx m) (m 5000 9) p) < mostK (hK (mtx m) (m 5000 9) p)) → Q (6, 0) (hoN m (sk (mtx m) (m 5000 9) p) (sk (mtx m) (m 5000 9) p) c v)) ∧
(0 ≤ hK (mtx m) (m 5000 9) p → c (hK (mtx m) (m 5000 9) p) < mostK (hK (mtx m) (m 5000 9) p) → ((hR (mtx m) (m 5000 9) p c v).1 = -1 → Q (6, 0) (hoN m (hR (mtx m) (m 5000 9) p c v).2.1 (-1) (upf c (hK (mtx m) (m 5000 9) p) (c (hK (mtx m) (m 5000 9) p) + 1)) (hR (mtx m) (m 5000 9) p c v).2.2)) ∧ ((hR (mtx m) (m 5000 9) p c v).1 ≠ -1 → (∀ q v', rowB v' → Q (6, 0) (hoN m q (hR (mtx m) (m 5000 9) p c v).1 (upf c (hK (mtx m) (m 5000 9) p) (c (hK (mtx m) (m 5000 9) p) + 1)) v')) ∧ (∀ v', rowB v' → mtx m (hR (mtx m) (m 5000 9) p c v).1 ≠ -1 → mtx m (hR (mtx m) (m 5000 9) p c v).1 ≠ 59 → sk (mtx m) (m 5000 9) (hR (mtx m) (m 5000 9) p c v).1 = (hR (mtx m) (m 5000 9) p c v).1 → Q (6, 0) (hoN m (hR (mtx m) (m 5000 9) p c v).1 (-1) (upf c (hK (mtx m) (m 5000 9) p) (c (hK (mtx m) (m 5000 9) p) + 1)) v')))))
theorem w_X12_readClause_e  (σ : Mem) (Q : AV → Mem → Prop) : w_X12_readClause [(28, 5000)] σ Q = (∃ (m : Mem) (p : Int) (c v : Int → Int), σ = hoN m p (-1) c v ∧ txOk m ∧ 0 ≤ p ∧ p ≤ m 5000 9 ∧ cntB c ∧ c 0 ≤ 1 ∧ rowB v ∧
(¬ (0 ≤ hK (mtx m) (m 5000 9) p ∧ c (hK (mtx m) (m 5000 9) p) < mostK (hK (mtx m) (m 5000 9) p)) → Q (6, 0) (hoN m (sk (mtx m) (m 5000 9) p) (sk (mtx m) (m 5000 9) p) c v)) ∧
(0 ≤ hK (mtx m) (m 5000 9) p → c (hK (mtx m) (m 5000 9) p) < mostK (hK (mtx m) (m 5000 9) p) → ((hR (mtx m) (m 5000 9) p c v).1 = -1 → Q (6, 0) (hoN m (hR (mtx m) (m 5000 9) p c v).2.1 (-1) (upf c (hK (mtx m) (m 5000 9) p) (c (hK (mtx m) (m 5000 9) p) + 1)) (hR (mtx m) (m 5000 9) p c v).2.2)) ∧ ((hR (mtx m) (m 5000 9) p c v).1 ≠ -1 → (∀ q v', rowB v' → Q (6, 0) (hoN m q (hR (mtx m) (m 5000 9) p c v).1 (upf c (hK (mtx m) (m 5000 9) p) (c (hK (mtx m) (m 5000 9) p) + 1)) v')) ∧ (∀ v', rowB v' → mtx m (hR (mtx m) (m 5000 9) p c v).1 ≠ -1 → mtx m (hR (mtx m) (m 5000 9) p c v).1 ≠ 59 → sk (mtx m) (m 5000 9) (hR (mtx m) (m 5000 9) p c v).1 = (hR (mtx m) (m 5000 9) p c v).1 → Q (6, 0) (hoN m (hR (mtx m) (m 5000 9) p c v).1 (-1) (upf c (hK (mtx m) (m 5000 9) p) (c (hK (mtx m) (m 5000 9) p) + 1)) v'))))) := by
  apply propext; constructor
  · rintro ⟨h9, hb9⟩; cases h9; exact hb9
  · intro hb9; exact ⟨rfl, hb9⟩

set_option maxRecDepth 100000 in
set_option maxHeartbeats 4000000 in
theorem s_X12_readClause : ∀ av σ Q, w_X12_readClause av σ Q → amCall 6 0 0 TT yX12_readClause cX12_readClause 3 (none) av σ Q := by
  rintro av σ Q ⟨rfl, m, p, c, v, rfl, ht, p0, p1, hc, hc0, hvB, hq1, hq2⟩
  have n0 := ht.1
  have n1 := ht.2.1
  have hte := mtx_n ht
  have s1 := sk_b (mtx m) p1
  have b1 := mtx_b ht (sk (mtx m) (m 5000 9) p)
  have g0 := hc 0 (by decide) (by decide)
  have g1 := hc 1 (by decide) (by decide)
  have g2 := hc 2 (by decide) (by decide)
  have g3 := hc 3 (by decide) (by decide)
  have Mt : ∀ p f c v, mtx (hoN m p f c v) = mtx m := fun p f c v => (ho_tx ht p f c v).1
  have MtO : ∀ p f c v, txOk (hoN m p f c v) = True := fun p f c v => eq_true (ho_tx ht p f c v).2
  have r1 : ∀ p f c v, hoN m p f c v 5000 31 = c 1 := fun p f c v => ho_cc m p f c v (by decide)
  have r2 : ∀ p f c v, hoN m p f c v 5000 32 = c 2 := fun p f c v => ho_cc m p f c v (by decide)
  have r3 : ∀ p f c v, hoN m p f c v 5000 33 = c 3 := fun p f c v => ho_cc m p f c v (by decide)
  have u1 : ∀ p f c v x, up (hoN m p f c v) 5000 31 x = hoN m p f (upf c 1 x) v := fun p f c v x => ho_uc m p f x c v (by decide)
  have u2 : ∀ p f c v x, up (hoN m p f c v) 5000 32 x = hoN m p f (upf c 2 x) v := fun p f c v x => ho_uc m p f x c v (by decide)
  have u3 : ∀ p f c v x, up (hoN m p f c v) 5000 33 x = hoN m p f (upf c 3 x) v := fun p f c v x => ho_uc m p f x c v (by decide)
  have ek : hK (mtx m) (m 5000 9) p = kindF (mtx m (sk (mtx m) (m 5000 9) p)) := rfl
  have eR : hR (mtx m) (m 5000 9) p c v = hIt (mtx m) (m 5000 9) (hK (mtx m) (m 5000 9) p) (firstK (hK (mtx m) (m 5000 9) p) + c (hK (mtx m) (m 5000 9) p)) 5 0 (sk (mtx m) (m 5000 9) p + 1) (filv v (hK (mtx m) (m 5000 9) p) (c (hK (mtx m) (m 5000 9) p))) := rfl
  rw [kindF_e] at ek
  generalize hs : sk (mtx m) (m 5000 9) p = s at *
  generalize hS : mtx m s = S at *
  have m0 : mostK 0 = 1 := rfl
  have m1 : mostK 1 = 4 := rfl
  have m2 : mostK 2 = 6 := rfl
  have m3 : mostK 3 = 6 := rfl
  have lts : S ≠ -1 → s < m 5000 9 := fun e => sk_lt hte (q := s) (by omega)
  refine am_m0 (own := RX12) (A := look a_X12_readClause) (fun X e1 e2 hB => o_X12_readClause e1 e2 hB) rfl (by decide +kernel) rfl rfl 120 (w := 3) ?_
  change vcs _ _ _ _ 120 0 [(28, 5000), (6, 0), (6, 0)] [] (hoN m p (-1) c v)
  by_cases c0 : S = 115
  · rw [if_pos c0] at ek
    have l9 := lts (by omega)
    rw [ek] at hq1 hq2 eR
    rw [m0] at hq1 hq2
    by_cases z : c 0 < 1
    · have hq := hq2 (by decide) z
      rw [eR] at hq
      have z0 : c 0 = 0 := by omega
      rw [show c 0 + 1 = 1 by omega] at hq
      simp only [↓reduceIte, inR_0, inR_1, inR_m, vSw2_e, swP_n, swP_c, vI_e, vL_e, vNull_e, vIload_e, vLload_e, vAload_e, vIstore_e, vLstore_e, vAstore_e, vIinc_e, vIadd_e, vIsub_e, vImul_e, vIand_e, vIor_e, vIxor_e, vIshl_e, vIshr_e, vIushr_e, vIdiv_e, vIrem_e, vLadd_e, vLsub_e, vLmul_e, vLand_e, vLor_e, vLxor_e, vLdiv_e, vLrem_e, vLushr_e, vLshl_e, vLcmp_e, vIneg_e, vI2l_e, vL2i_e, vI2b_e, vI2c_e, vDup_e, vPop_e, vDup2_e, vGoto_e, vIcEq_e, vIfEq_e, vIcNe_e, vIfNe_e, vIcLt_e, vIfLt_e, vIcGe_e, vIfGe_e, vIcGt_e, vIfGt_e, vIcLe_e, vIfLe_e, vNonnull_e, vSw_e, vGetI_e, vGetL_e, vGetR_e, vPutI_e, vPutZ_e, vPutL_e, vPutR_e, vIald_e, vIald_s, vLald_e, vBald_e, vBald_s, vAald_e, vIast_e, vLast_e, vBast_e, vAast_e, vAlen_e8, vAlen_e9, vAlen_e10, vAlen_e11, vAlen_e5, vAlen_e3, vGets_e, vCompact_e, vLdcS_e, vIret_e, vZret_e, vCret_e, vBret_e, vLret_e, vVret_e, vAret_e, vCallM_e0, vCallMV_e0, vCallS_e0, vCallSV_e0, vCallM_e1, vCallMV_e1, vCallS_e1, vCallSV_e1, vCallM_e2, vCallMV_e2, vCallS_e2, vCallSV_e2, vCallM_e3, vCallMV_e3, vCallS_e3, vCallSV_e3, vCallM_e4, vCallMV_e4, vCallS_e4, vCallSV_e4, vCallM_e5, vCallMV_e5, vCallS_e5, vCallSV_e5, vCallM_e6, vCallMV_e6, vCallS_e6, vCallSV_e6, vCallM_e7, vCallMV_e7, vCallS_e7, vCallSV_e7, vBad_e, vStrVal_e, vStrCod_e, vForm_e, vCallT_e0, vCallT_e1, vCallT_e2, vCopy_e, rf_0_0, rf_0_1, rf_0_2, rf_0_3, rf_0_4, rf_0_7, rf_0_10, rf_0_11, rf_0_12, rf_0_13, rf_0_14, rf_0_15, rf_0_16, rf_1_0, rf_3_0, rf_3_1, rf_6_0, rf_6_1, rf_9_0, rf_9_1, rf_9_3, rf_13_0, rf_13_1, rf_13_2, rf_16_0, rf_16_1, rf_16_2, rf_16_3, rf_21_0, rf_21_1, rf_21_2, rf_21_3, rf_26_0, rf_26_1, rf_26_2, rf_26_3, rf_26_4, rf_26_5, rf_26_6, rf_31_0, rf_31_2, rf_31_5, rf_31_6, rf_36_0, rf_36_1, rf_36_2, rf_36_3, rf_39_0, rf_39_1, rf_39_2, rf_41_0, rf_41_1, rf_41_2, rf_41_3, rf_5000_1, rf_5000_2, rf_5000_3, rf_5000_4, rf_5000_5, rf_5000_15, rf_5000_16, rf_5000_18, rf_5000_19, rf_5000_20, rf_5000_21, rf_5000_22, rf_5000_23, rf_5000_24, rf_5000_25, rf_5000_26, rf_5000_27, rf_5000_36, rf_5000_37, rf_5000_40, rf_5000_41, rf_5000_42, rf_5000_43, rf_5000_44, rf_5000_45, rf_5000_47, rf_5000_52, rf_5000_54, rf_5000_55, rf_100_0, rf_100_1, rf_103_0, rf_103_1, rf_106_0, rf_106_1, rf_109_0, rf_109_1, al_2, al_4, al_5, al_7, al_8, al_10, al_11, al_12, al_14, al_15, al_17, al_18, al_19, al_20, al_22, al_23, al_24, al_25, al_27, al_28, al_29, al_30, al_32, al_33, al_34, al_35, al_37, al_38, al_40, al_42, al_5001, al_5002, al_5003, al_5004, al_5005, al_5006, al_5007, al_5008, al_5009, al_5010, al_5011, al_5012, al_5013, al_5014, al_5015, al_5016, al_5017, al_5018, al_5019, al_5020, al_5021, al_5022, al_5023, al_5024, al_5025, al_5026, al_9000, al_101, al_102, al_104, al_105, al_107, al_108, al_110, al_111, vcs_e, lg_c0, lg_cs, lg_nil, set_c0, set_cs, okst_0, okst_s, acok_n, acok_c, List.contains_nil, List.contains_cons, Bool.or_false, Bool.false_or, Bool.false_eq_true, if_false, if_true, ite_self, ne_eq, true_and, and_true, not_false_eq_true, not_true_eq_false, false_imp_iff, true_imp_iff, Nat.ble_eq, Bool.and_eq_true, reduceCtorEq, or_false, false_or, or_true, true_or, false_and, and_false, and_self, Int.reduceLE, Int.reduceAdd, Int.reduceSub, Int.reduceMul, Int.reduceNeg, Int.reduceLT, Int.reduceEq, Int.reduceNe, Nat.reduceBEq, Nat.reduceBNe, Nat.reduceEqDiff, amCmp_in, amCmp_lt, amCmp_le, amCmp_gt, amCmp_ge, amCmp_eq, amCmp_ne, Nat.reduceLeDiff, Nat.reduceSub, Bool.and_true, Bool.true_and, Bool.and_self, Bool.or_true, Bool.true_or, isRf_3, isRf_4, isRf_5, isRf_8, isRf_9, isRf_10, isRf_11, isRf_15, isRf_16, isRf_17, isRf_18, isRf_19, isRf_20, isRf_21, isRf_22, isRf_23, isRf_24, isRf_25, isRf_26, isRf_27, isRf_28, k_X12_readClause_0, k_X12_readClause_1, k_X12_readClause_4, k_X12_readClause_5, k_X12_readClause_6, k_X12_readClause_8, k_X12_readClause_11, k_X12_readClause_12, k_X12_readClause_15, k_X12_readClause_18, k_X12_readClause_19, k_X12_readClause_21, k_X12_readClause_24, k_X12_readClause_25, k_X12_readClause_28, k_X12_readClause_29, k_X12_readClause_32, k_X12_readClause_33, k_X12_readClause_35, k_X12_readClause_38, k_X12_readClause_39, k_X12_readClause_42, k_X12_readClause_44, k_X12_readClause_47, k_X12_readClause_48, k_X12_readClause_50, k_X12_readClause_53, k_X12_readClause_54, k_X12_readClause_57, k_X12_readClause_59, k_X12_readClause_62, k_X12_readClause_63, k_X12_readClause_66, k_X12_readClause_67, k_X12_readClause_68, k_X12_readClause_69, k_X12_readClause_72, k_X12_readClause_73, k_X12_readClause_76, k_X12_readClause_77, k_X12_readClause_78, k_X12_readClause_79, k_X12_readClause_80, k_X12_readClause_83, k_X12_readClause_84, k_X12_readClause_85, k_X12_readClause_88, k_X12_readClause_89, k_X12_readClause_91, k_X12_readClause_94, k_X12_readClause_95, k_X12_readClause_96, k_X12_readClause_99, k_X12_readClause_100, k_X12_readClause_101, k_X12_readClause_102, k_X12_readClause_105, k_X12_readClause_106, k_X12_readClause_109, k_X12_readClause_112, k_X12_readClause_115, k_X12_readClause_116, k_X12_readClause_118, k_X12_readClause_121, k_X12_readClause_122, k_X12_readClause_123, k_X12_readClause_126, k_X12_readClause_127, k_X12_readClause_128, k_X12_readClause_131, k_X12_readClause_132, k_X12_readClause_133, k_X12_readClause_134, k_X12_readClause_137, k_X12_readClause_138, k_X12_readClause_139, k_X12_readClause_142, k_X12_readClause_143, k_X12_readClause_144, k_X12_readClause_145, k_X12_readClause_148, k_X12_readClause_151, k_X12_readClause_154, k_X12_readClause_155, k_X12_readClause_157, k_X12_readClause_160, k_X12_readClause_161, k_X12_readClause_162, k_X12_readClause_165, k_X12_readClause_166, k_X12_readClause_167, k_X12_readClause_170, k_X12_readClause_171, k_X12_readClause_172, k_X12_readClause_173, k_X12_readClause_176, k_X12_readClause_177, k_X12_readClause_178, k_X12_readClause_181, k_X12_readClause_182, k_X12_readClause_183, k_X12_readClause_184, k_X12_readClause_187, k_X12_readClause_190, k_X12_readClause_193, k_X12_readClause_194, k_X12_readClause_195, k_X12_readClause_198, k_X12_readClause_199, k_X12_readClause_200, k_X12_readClause_203, k_X12_readClause_204, k_X12_readClause_205, k_X12_readClause_206, k_X12_readClause_209, k_X12_readClause_210, k_X12_readClause_213, k_X12_readClause_214, k_X12_readClause_215, k_X12_readClause_218, k_X12_readClause_221, w_X12_fails_e, w_X12_look_e, w_X12_readItems_e, msk, Mt, MtO, ho_10, ho_9, ho_11, ho_u10, ho_u11, hs, hS, c0, r1, r2, r3, u1, u2, u3, ho_c0, ho_u0, z0]
      repeat' (first | apply And.intro | intro _)
      all_goals first | omega | exact absurd trivial (by assumption) | exact ⟨by omega, by omega⟩ | skip
      all_goals (exact ⟨m, s + 1, upf c 0 1, v, 0, 0, rfl, rfl, rfl, rfl, rfl, by decide, by decide, by decide, by decide, ht, by omega, by omega, hvB, by rw [z0] at hq; exact hq.1, by rw [z0] at hq; exact hq.2⟩)
    · have hq := hq1 (by omega)
      have z1 : c 0 = 1 := by omega
      simp only [↓reduceIte, inR_0, inR_1, inR_m, vSw2_e, swP_n, swP_c, vI_e, vL_e, vNull_e, vIload_e, vLload_e, vAload_e, vIstore_e, vLstore_e, vAstore_e, vIinc_e, vIadd_e, vIsub_e, vImul_e, vIand_e, vIor_e, vIxor_e, vIshl_e, vIshr_e, vIushr_e, vIdiv_e, vIrem_e, vLadd_e, vLsub_e, vLmul_e, vLand_e, vLor_e, vLxor_e, vLdiv_e, vLrem_e, vLushr_e, vLshl_e, vLcmp_e, vIneg_e, vI2l_e, vL2i_e, vI2b_e, vI2c_e, vDup_e, vPop_e, vDup2_e, vGoto_e, vIcEq_e, vIfEq_e, vIcNe_e, vIfNe_e, vIcLt_e, vIfLt_e, vIcGe_e, vIfGe_e, vIcGt_e, vIfGt_e, vIcLe_e, vIfLe_e, vNonnull_e, vSw_e, vGetI_e, vGetL_e, vGetR_e, vPutI_e, vPutZ_e, vPutL_e, vPutR_e, vIald_e, vIald_s, vLald_e, vBald_e, vBald_s, vAald_e, vIast_e, vLast_e, vBast_e, vAast_e, vAlen_e8, vAlen_e9, vAlen_e10, vAlen_e11, vAlen_e5, vAlen_e3, vGets_e, vCompact_e, vLdcS_e, vIret_e, vZret_e, vCret_e, vBret_e, vLret_e, vVret_e, vAret_e, vCallM_e0, vCallMV_e0, vCallS_e0, vCallSV_e0, vCallM_e1, vCallMV_e1, vCallS_e1, vCallSV_e1, vCallM_e2, vCallMV_e2, vCallS_e2, vCallSV_e2, vCallM_e3, vCallMV_e3, vCallS_e3, vCallSV_e3, vCallM_e4, vCallMV_e4, vCallS_e4, vCallSV_e4, vCallM_e5, vCallMV_e5, vCallS_e5, vCallSV_e5, vCallM_e6, vCallMV_e6, vCallS_e6, vCallSV_e6, vCallM_e7, vCallMV_e7, vCallS_e7, vCallSV_e7, vBad_e, vStrVal_e, vStrCod_e, vForm_e, vCallT_e0, vCallT_e1, vCallT_e2, vCopy_e, rf_0_0, rf_0_1, rf_0_2, rf_0_3, rf_0_4, rf_0_7, rf_0_10, rf_0_11, rf_0_12, rf_0_13, rf_0_14, rf_0_15, rf_0_16, rf_1_0, rf_3_0, rf_3_1, rf_6_0, rf_6_1, rf_9_0, rf_9_1, rf_9_3, rf_13_0, rf_13_1, rf_13_2, rf_16_0, rf_16_1, rf_16_2, rf_16_3, rf_21_0, rf_21_1, rf_21_2, rf_21_3, rf_26_0, rf_26_1, rf_26_2, rf_26_3, rf_26_4, rf_26_5, rf_26_6, rf_31_0, rf_31_2, rf_31_5, rf_31_6, rf_36_0, rf_36_1, rf_36_2, rf_36_3, rf_39_0, rf_39_1, rf_39_2, rf_41_0, rf_41_1, rf_41_2, rf_41_3, rf_5000_1, rf_5000_2, rf_5000_3, rf_5000_4, rf_5000_5, rf_5000_15, rf_5000_16, rf_5000_18, rf_5000_19, rf_5000_20, rf_5000_21, rf_5000_22, rf_5000_23, rf_5000_24, rf_5000_25, rf_5000_26, rf_5000_27, rf_5000_36, rf_5000_37, rf_5000_40, rf_5000_41, rf_5000_42, rf_5000_43, rf_5000_44, rf_5000_45, rf_5000_47, rf_5000_52, rf_5000_54, rf_5000_55, rf_100_0, rf_100_1, rf_103_0, rf_103_1, rf_106_0, rf_106_1, rf_109_0, rf_109_1, al_2, al_4, al_5, al_7, al_8, al_10, al_11, al_12, al_14, al_15, al_17, al_18, al_19, al_20, al_22, al_23, al_24, al_25, al_27, al_28, al_29, al_30, al_32, al_33, al_34, al_35, al_37, al_38, al_40, al_42, al_5001, al_5002, al_5003, al_5004, al_5005, al_5006, al_5007, al_5008, al_5009, al_5010, al_5011, al_5012, al_5013, al_5014, al_5015, al_5016, al_5017, al_5018, al_5019, al_5020, al_5021, al_5022, al_5023, al_5024, al_5025, al_5026, al_9000, al_101, al_102, al_104, al_105, al_107, al_108, al_110, al_111, vcs_e, lg_c0, lg_cs, lg_nil, set_c0, set_cs, okst_0, okst_s, acok_n, acok_c, List.contains_nil, List.contains_cons, Bool.or_false, Bool.false_or, Bool.false_eq_true, if_false, if_true, ite_self, ne_eq, true_and, and_true, not_false_eq_true, not_true_eq_false, false_imp_iff, true_imp_iff, Nat.ble_eq, Bool.and_eq_true, reduceCtorEq, or_false, false_or, or_true, true_or, false_and, and_false, and_self, Int.reduceLE, Int.reduceAdd, Int.reduceSub, Int.reduceMul, Int.reduceNeg, Int.reduceLT, Int.reduceEq, Int.reduceNe, Nat.reduceBEq, Nat.reduceBNe, Nat.reduceEqDiff, amCmp_in, amCmp_lt, amCmp_le, amCmp_gt, amCmp_ge, amCmp_eq, amCmp_ne, Nat.reduceLeDiff, Nat.reduceSub, Bool.and_true, Bool.true_and, Bool.and_self, Bool.or_true, Bool.true_or, isRf_3, isRf_4, isRf_5, isRf_8, isRf_9, isRf_10, isRf_11, isRf_15, isRf_16, isRf_17, isRf_18, isRf_19, isRf_20, isRf_21, isRf_22, isRf_23, isRf_24, isRf_25, isRf_26, isRf_27, isRf_28, k_X12_readClause_0, k_X12_readClause_1, k_X12_readClause_4, k_X12_readClause_5, k_X12_readClause_6, k_X12_readClause_8, k_X12_readClause_11, k_X12_readClause_12, k_X12_readClause_15, k_X12_readClause_18, k_X12_readClause_19, k_X12_readClause_21, k_X12_readClause_24, k_X12_readClause_25, k_X12_readClause_28, k_X12_readClause_29, k_X12_readClause_32, k_X12_readClause_33, k_X12_readClause_35, k_X12_readClause_38, k_X12_readClause_39, k_X12_readClause_42, k_X12_readClause_44, k_X12_readClause_47, k_X12_readClause_48, k_X12_readClause_50, k_X12_readClause_53, k_X12_readClause_54, k_X12_readClause_57, k_X12_readClause_59, k_X12_readClause_62, k_X12_readClause_63, k_X12_readClause_66, k_X12_readClause_67, k_X12_readClause_68, k_X12_readClause_69, k_X12_readClause_72, k_X12_readClause_73, k_X12_readClause_76, k_X12_readClause_77, k_X12_readClause_78, k_X12_readClause_79, k_X12_readClause_80, k_X12_readClause_83, k_X12_readClause_84, k_X12_readClause_85, k_X12_readClause_88, k_X12_readClause_89, k_X12_readClause_91, k_X12_readClause_94, k_X12_readClause_95, k_X12_readClause_96, k_X12_readClause_99, k_X12_readClause_100, k_X12_readClause_101, k_X12_readClause_102, k_X12_readClause_105, k_X12_readClause_106, k_X12_readClause_109, k_X12_readClause_112, k_X12_readClause_115, k_X12_readClause_116, k_X12_readClause_118, k_X12_readClause_121, k_X12_readClause_122, k_X12_readClause_123, k_X12_readClause_126, k_X12_readClause_127, k_X12_readClause_128, k_X12_readClause_131, k_X12_readClause_132, k_X12_readClause_133, k_X12_readClause_134, k_X12_readClause_137, k_X12_readClause_138, k_X12_readClause_139, k_X12_readClause_142, k_X12_readClause_143, k_X12_readClause_144, k_X12_readClause_145, k_X12_readClause_148, k_X12_readClause_151, k_X12_readClause_154, k_X12_readClause_155, k_X12_readClause_157, k_X12_readClause_160, k_X12_readClause_161, k_X12_readClause_162, k_X12_readClause_165, k_X12_readClause_166, k_X12_readClause_167, k_X12_readClause_170, k_X12_readClause_171, k_X12_readClause_172, k_X12_readClause_173, k_X12_readClause_176, k_X12_readClause_177, k_X12_readClause_178, k_X12_readClause_181, k_X12_readClause_182, k_X12_readClause_183, k_X12_readClause_184, k_X12_readClause_187, k_X12_readClause_190, k_X12_readClause_193, k_X12_readClause_194, k_X12_readClause_195, k_X12_readClause_198, k_X12_readClause_199, k_X12_readClause_200, k_X12_readClause_203, k_X12_readClause_204, k_X12_readClause_205, k_X12_readClause_206, k_X12_readClause_209, k_X12_readClause_210, k_X12_readClause_213, k_X12_readClause_214, k_X12_readClause_215, k_X12_readClause_218, k_X12_readClause_221, w_X12_fails_e, w_X12_look_e, w_X12_readItems_e, msk, Mt, MtO, ho_10, ho_9, ho_11, ho_u10, ho_u11, hs, hS, c0, r1, r2, r3, ho_c0, ho_fa, z1]
      repeat' (first | apply And.intro | intro _)
      all_goals first | omega | exact absurd trivial (by assumption) | exact hq | exact ⟨by omega, by omega⟩
  · rw [if_neg c0] at ek
    by_cases c1 : S = 112
    · rw [if_pos c1] at ek
      have l9 := lts (by omega)
      rw [ek] at hq1 hq2 eR
      rw [m1] at hq1 hq2
      by_cases z : c 1 < 4
      · have hq := hq2 (by decide) z
        rw [eR] at hq
        have ux : ∀ x, upf c 1 x 1 = x := fun x => upf_s2 _ _ _
        simp only [↓reduceIte, inR_0, inR_1, inR_m, vSw2_e, swP_n, swP_c, vI_e, vL_e, vNull_e, vIload_e, vLload_e, vAload_e, vIstore_e, vLstore_e, vAstore_e, vIinc_e, vIadd_e, vIsub_e, vImul_e, vIand_e, vIor_e, vIxor_e, vIshl_e, vIshr_e, vIushr_e, vIdiv_e, vIrem_e, vLadd_e, vLsub_e, vLmul_e, vLand_e, vLor_e, vLxor_e, vLdiv_e, vLrem_e, vLushr_e, vLshl_e, vLcmp_e, vIneg_e, vI2l_e, vL2i_e, vI2b_e, vI2c_e, vDup_e, vPop_e, vDup2_e, vGoto_e, vIcEq_e, vIfEq_e, vIcNe_e, vIfNe_e, vIcLt_e, vIfLt_e, vIcGe_e, vIfGe_e, vIcGt_e, vIfGt_e, vIcLe_e, vIfLe_e, vNonnull_e, vSw_e, vGetI_e, vGetL_e, vGetR_e, vPutI_e, vPutZ_e, vPutL_e, vPutR_e, vIald_e, vIald_s, vLald_e, vBald_e, vBald_s, vAald_e, vIast_e, vLast_e, vBast_e, vAast_e, vAlen_e8, vAlen_e9, vAlen_e10, vAlen_e11, vAlen_e5, vAlen_e3, vGets_e, vCompact_e, vLdcS_e, vIret_e, vZret_e, vCret_e, vBret_e, vLret_e, vVret_e, vAret_e, vCallM_e0, vCallMV_e0, vCallS_e0, vCallSV_e0, vCallM_e1, vCallMV_e1, vCallS_e1, vCallSV_e1, vCallM_e2, vCallMV_e2, vCallS_e2, vCallSV_e2, vCallM_e3, vCallMV_e3, vCallS_e3, vCallSV_e3, vCallM_e4, vCallMV_e4, vCallS_e4, vCallSV_e4, vCallM_e5, vCallMV_e5, vCallS_e5, vCallSV_e5, vCallM_e6, vCallMV_e6, vCallS_e6, vCallSV_e6, vCallM_e7, vCallMV_e7, vCallS_e7, vCallSV_e7, vBad_e, vStrVal_e, vStrCod_e, vForm_e, vCallT_e0, vCallT_e1, vCallT_e2, vCopy_e, rf_0_0, rf_0_1, rf_0_2, rf_0_3, rf_0_4, rf_0_7, rf_0_10, rf_0_11, rf_0_12, rf_0_13, rf_0_14, rf_0_15, rf_0_16, rf_1_0, rf_3_0, rf_3_1, rf_6_0, rf_6_1, rf_9_0, rf_9_1, rf_9_3, rf_13_0, rf_13_1, rf_13_2, rf_16_0, rf_16_1, rf_16_2, rf_16_3, rf_21_0, rf_21_1, rf_21_2, rf_21_3, rf_26_0, rf_26_1, rf_26_2, rf_26_3, rf_26_4, rf_26_5, rf_26_6, rf_31_0, rf_31_2, rf_31_5, rf_31_6, rf_36_0, rf_36_1, rf_36_2, rf_36_3, rf_39_0, rf_39_1, rf_39_2, rf_41_0, rf_41_1, rf_41_2, rf_41_3, rf_5000_1, rf_5000_2, rf_5000_3, rf_5000_4, rf_5000_5, rf_5000_15, rf_5000_16, rf_5000_18, rf_5000_19, rf_5000_20, rf_5000_21, rf_5000_22, rf_5000_23, rf_5000_24, rf_5000_25, rf_5000_26, rf_5000_27, rf_5000_36, rf_5000_37, rf_5000_40, rf_5000_41, rf_5000_42, rf_5000_43, rf_5000_44, rf_5000_45, rf_5000_47, rf_5000_52, rf_5000_54, rf_5000_55, rf_100_0, rf_100_1, rf_103_0, rf_103_1, rf_106_0, rf_106_1, rf_109_0, rf_109_1, al_2, al_4, al_5, al_7, al_8, al_10, al_11, al_12, al_14, al_15, al_17, al_18, al_19, al_20, al_22, al_23, al_24, al_25, al_27, al_28, al_29, al_30, al_32, al_33, al_34, al_35, al_37, al_38, al_40, al_42, al_5001, al_5002, al_5003, al_5004, al_5005, al_5006, al_5007, al_5008, al_5009, al_5010, al_5011, al_5012, al_5013, al_5014, al_5015, al_5016, al_5017, al_5018, al_5019, al_5020, al_5021, al_5022, al_5023, al_5024, al_5025, al_5026, al_9000, al_101, al_102, al_104, al_105, al_107, al_108, al_110, al_111, vcs_e, lg_c0, lg_cs, lg_nil, set_c0, set_cs, okst_0, okst_s, acok_n, acok_c, List.contains_nil, List.contains_cons, Bool.or_false, Bool.false_or, Bool.false_eq_true, if_false, if_true, ite_self, ne_eq, true_and, and_true, not_false_eq_true, not_true_eq_false, false_imp_iff, true_imp_iff, Nat.ble_eq, Bool.and_eq_true, reduceCtorEq, or_false, false_or, or_true, true_or, false_and, and_false, and_self, Int.reduceLE, Int.reduceAdd, Int.reduceSub, Int.reduceMul, Int.reduceNeg, Int.reduceLT, Int.reduceEq, Int.reduceNe, Nat.reduceBEq, Nat.reduceBNe, Nat.reduceEqDiff, amCmp_in, amCmp_lt, amCmp_le, amCmp_gt, amCmp_ge, amCmp_eq, amCmp_ne, Nat.reduceLeDiff, Nat.reduceSub, Bool.and_true, Bool.true_and, Bool.and_self, Bool.or_true, Bool.true_or, isRf_3, isRf_4, isRf_5, isRf_8, isRf_9, isRf_10, isRf_11, isRf_15, isRf_16, isRf_17, isRf_18, isRf_19, isRf_20, isRf_21, isRf_22, isRf_23, isRf_24, isRf_25, isRf_26, isRf_27, isRf_28, k_X12_readClause_0, k_X12_readClause_1, k_X12_readClause_4, k_X12_readClause_5, k_X12_readClause_6, k_X12_readClause_8, k_X12_readClause_11, k_X12_readClause_12, k_X12_readClause_15, k_X12_readClause_18, k_X12_readClause_19, k_X12_readClause_21, k_X12_readClause_24, k_X12_readClause_25, k_X12_readClause_28, k_X12_readClause_29, k_X12_readClause_32, k_X12_readClause_33, k_X12_readClause_35, k_X12_readClause_38, k_X12_readClause_39, k_X12_readClause_42, k_X12_readClause_44, k_X12_readClause_47, k_X12_readClause_48, k_X12_readClause_50, k_X12_readClause_53, k_X12_readClause_54, k_X12_readClause_57, k_X12_readClause_59, k_X12_readClause_62, k_X12_readClause_63, k_X12_readClause_66, k_X12_readClause_67, k_X12_readClause_68, k_X12_readClause_69, k_X12_readClause_72, k_X12_readClause_73, k_X12_readClause_76, k_X12_readClause_77, k_X12_readClause_78, k_X12_readClause_79, k_X12_readClause_80, k_X12_readClause_83, k_X12_readClause_84, k_X12_readClause_85, k_X12_readClause_88, k_X12_readClause_89, k_X12_readClause_91, k_X12_readClause_94, k_X12_readClause_95, k_X12_readClause_96, k_X12_readClause_99, k_X12_readClause_100, k_X12_readClause_101, k_X12_readClause_102, k_X12_readClause_105, k_X12_readClause_106, k_X12_readClause_109, k_X12_readClause_112, k_X12_readClause_115, k_X12_readClause_116, k_X12_readClause_118, k_X12_readClause_121, k_X12_readClause_122, k_X12_readClause_123, k_X12_readClause_126, k_X12_readClause_127, k_X12_readClause_128, k_X12_readClause_131, k_X12_readClause_132, k_X12_readClause_133, k_X12_readClause_134, k_X12_readClause_137, k_X12_readClause_138, k_X12_readClause_139, k_X12_readClause_142, k_X12_readClause_143, k_X12_readClause_144, k_X12_readClause_145, k_X12_readClause_148, k_X12_readClause_151, k_X12_readClause_154, k_X12_readClause_155, k_X12_readClause_157, k_X12_readClause_160, k_X12_readClause_161, k_X12_readClause_162, k_X12_readClause_165, k_X12_readClause_166, k_X12_readClause_167, k_X12_readClause_170, k_X12_readClause_171, k_X12_readClause_172, k_X12_readClause_173, k_X12_readClause_176, k_X12_readClause_177, k_X12_readClause_178, k_X12_readClause_181, k_X12_readClause_182, k_X12_readClause_183, k_X12_readClause_184, k_X12_readClause_187, k_X12_readClause_190, k_X12_readClause_193, k_X12_readClause_194, k_X12_readClause_195, k_X12_readClause_198, k_X12_readClause_199, k_X12_readClause_200, k_X12_readClause_203, k_X12_readClause_204, k_X12_readClause_205, k_X12_readClause_206, k_X12_readClause_209, k_X12_readClause_210, k_X12_readClause_213, k_X12_readClause_214, k_X12_readClause_215, k_X12_readClause_218, k_X12_readClause_221, w_X12_fails_e, w_X12_look_e, w_X12_readItems_e, msk, Mt, MtO, ho_10, ho_9, ho_11, ho_u10, ho_u11, hs, hS, c1, r1, r2, r3, u1, u2, u3, ho_c0, ho_u0, ux]
        repeat' (first | apply And.intro | intro _)
        all_goals first | omega | exact absurd trivial (by assumption) | exact ⟨by omega, by omega⟩ | skip
        all_goals (exact ⟨m, s + 1, upf c 1 (c 1 + 1), v, 1, c 1, rfl, rfl, rfl, by rw [show kln 1 = 4 from rfl]; omega, rfl, by decide, by decide, by omega, by rw [m1]; exact z, ht, by omega, by omega, hvB, hq.1, hq.2⟩)
      · have hq := hq1 (by omega)
        simp only [↓reduceIte, inR_0, inR_1, inR_m, vSw2_e, swP_n, swP_c, vI_e, vL_e, vNull_e, vIload_e, vLload_e, vAload_e, vIstore_e, vLstore_e, vAstore_e, vIinc_e, vIadd_e, vIsub_e, vImul_e, vIand_e, vIor_e, vIxor_e, vIshl_e, vIshr_e, vIushr_e, vIdiv_e, vIrem_e, vLadd_e, vLsub_e, vLmul_e, vLand_e, vLor_e, vLxor_e, vLdiv_e, vLrem_e, vLushr_e, vLshl_e, vLcmp_e, vIneg_e, vI2l_e, vL2i_e, vI2b_e, vI2c_e, vDup_e, vPop_e, vDup2_e, vGoto_e, vIcEq_e, vIfEq_e, vIcNe_e, vIfNe_e, vIcLt_e, vIfLt_e, vIcGe_e, vIfGe_e, vIcGt_e, vIfGt_e, vIcLe_e, vIfLe_e, vNonnull_e, vSw_e, vGetI_e, vGetL_e, vGetR_e, vPutI_e, vPutZ_e, vPutL_e, vPutR_e, vIald_e, vIald_s, vLald_e, vBald_e, vBald_s, vAald_e, vIast_e, vLast_e, vBast_e, vAast_e, vAlen_e8, vAlen_e9, vAlen_e10, vAlen_e11, vAlen_e5, vAlen_e3, vGets_e, vCompact_e, vLdcS_e, vIret_e, vZret_e, vCret_e, vBret_e, vLret_e, vVret_e, vAret_e, vCallM_e0, vCallMV_e0, vCallS_e0, vCallSV_e0, vCallM_e1, vCallMV_e1, vCallS_e1, vCallSV_e1, vCallM_e2, vCallMV_e2, vCallS_e2, vCallSV_e2, vCallM_e3, vCallMV_e3, vCallS_e3, vCallSV_e3, vCallM_e4, vCallMV_e4, vCallS_e4, vCallSV_e4, vCallM_e5, vCallMV_e5, vCallS_e5, vCallSV_e5, vCallM_e6, vCallMV_e6, vCallS_e6, vCallSV_e6, vCallM_e7, vCallMV_e7, vCallS_e7, vCallSV_e7, vBad_e, vStrVal_e, vStrCod_e, vForm_e, vCallT_e0, vCallT_e1, vCallT_e2, vCopy_e, rf_0_0, rf_0_1, rf_0_2, rf_0_3, rf_0_4, rf_0_7, rf_0_10, rf_0_11, rf_0_12, rf_0_13, rf_0_14, rf_0_15, rf_0_16, rf_1_0, rf_3_0, rf_3_1, rf_6_0, rf_6_1, rf_9_0, rf_9_1, rf_9_3, rf_13_0, rf_13_1, rf_13_2, rf_16_0, rf_16_1, rf_16_2, rf_16_3, rf_21_0, rf_21_1, rf_21_2, rf_21_3, rf_26_0, rf_26_1, rf_26_2, rf_26_3, rf_26_4, rf_26_5, rf_26_6, rf_31_0, rf_31_2, rf_31_5, rf_31_6, rf_36_0, rf_36_1, rf_36_2, rf_36_3, rf_39_0, rf_39_1, rf_39_2, rf_41_0, rf_41_1, rf_41_2, rf_41_3, rf_5000_1, rf_5000_2, rf_5000_3, rf_5000_4, rf_5000_5, rf_5000_15, rf_5000_16, rf_5000_18, rf_5000_19, rf_5000_20, rf_5000_21, rf_5000_22, rf_5000_23, rf_5000_24, rf_5000_25, rf_5000_26, rf_5000_27, rf_5000_36, rf_5000_37, rf_5000_40, rf_5000_41, rf_5000_42, rf_5000_43, rf_5000_44, rf_5000_45, rf_5000_47, rf_5000_52, rf_5000_54, rf_5000_55, rf_100_0, rf_100_1, rf_103_0, rf_103_1, rf_106_0, rf_106_1, rf_109_0, rf_109_1, al_2, al_4, al_5, al_7, al_8, al_10, al_11, al_12, al_14, al_15, al_17, al_18, al_19, al_20, al_22, al_23, al_24, al_25, al_27, al_28, al_29, al_30, al_32, al_33, al_34, al_35, al_37, al_38, al_40, al_42, al_5001, al_5002, al_5003, al_5004, al_5005, al_5006, al_5007, al_5008, al_5009, al_5010, al_5011, al_5012, al_5013, al_5014, al_5015, al_5016, al_5017, al_5018, al_5019, al_5020, al_5021, al_5022, al_5023, al_5024, al_5025, al_5026, al_9000, al_101, al_102, al_104, al_105, al_107, al_108, al_110, al_111, vcs_e, lg_c0, lg_cs, lg_nil, set_c0, set_cs, okst_0, okst_s, acok_n, acok_c, List.contains_nil, List.contains_cons, Bool.or_false, Bool.false_or, Bool.false_eq_true, if_false, if_true, ite_self, ne_eq, true_and, and_true, not_false_eq_true, not_true_eq_false, false_imp_iff, true_imp_iff, Nat.ble_eq, Bool.and_eq_true, reduceCtorEq, or_false, false_or, or_true, true_or, false_and, and_false, and_self, Int.reduceLE, Int.reduceAdd, Int.reduceSub, Int.reduceMul, Int.reduceNeg, Int.reduceLT, Int.reduceEq, Int.reduceNe, Nat.reduceBEq, Nat.reduceBNe, Nat.reduceEqDiff, amCmp_in, amCmp_lt, amCmp_le, amCmp_gt, amCmp_ge, amCmp_eq, amCmp_ne, Nat.reduceLeDiff, Nat.reduceSub, Bool.and_true, Bool.true_and, Bool.and_self, Bool.or_true, Bool.true_or, isRf_3, isRf_4, isRf_5, isRf_8, isRf_9, isRf_10, isRf_11, isRf_15, isRf_16, isRf_17, isRf_18, isRf_19, isRf_20, isRf_21, isRf_22, isRf_23, isRf_24, isRf_25, isRf_26, isRf_27, isRf_28, k_X12_readClause_0, k_X12_readClause_1, k_X12_readClause_4, k_X12_readClause_5, k_X12_readClause_6, k_X12_readClause_8, k_X12_readClause_11, k_X12_readClause_12, k_X12_readClause_15, k_X12_readClause_18, k_X12_readClause_19, k_X12_readClause_21, k_X12_readClause_24, k_X12_readClause_25, k_X12_readClause_28, k_X12_readClause_29, k_X12_readClause_32, k_X12_readClause_33, k_X12_readClause_35, k_X12_readClause_38, k_X12_readClause_39, k_X12_readClause_42, k_X12_readClause_44, k_X12_readClause_47, k_X12_readClause_48, k_X12_readClause_50, k_X12_readClause_53, k_X12_readClause_54, k_X12_readClause_57, k_X12_readClause_59, k_X12_readClause_62, k_X12_readClause_63, k_X12_readClause_66, k_X12_readClause_67, k_X12_readClause_68, k_X12_readClause_69, k_X12_readClause_72, k_X12_readClause_73, k_X12_readClause_76, k_X12_readClause_77, k_X12_readClause_78, k_X12_readClause_79, k_X12_readClause_80, k_X12_readClause_83, k_X12_readClause_84, k_X12_readClause_85, k_X12_readClause_88, k_X12_readClause_89, k_X12_readClause_91, k_X12_readClause_94, k_X12_readClause_95, k_X12_readClause_96, k_X12_readClause_99, k_X12_readClause_100, k_X12_readClause_101, k_X12_readClause_102, k_X12_readClause_105, k_X12_readClause_106, k_X12_readClause_109, k_X12_readClause_112, k_X12_readClause_115, k_X12_readClause_116, k_X12_readClause_118, k_X12_readClause_121, k_X12_readClause_122, k_X12_readClause_123, k_X12_readClause_126, k_X12_readClause_127, k_X12_readClause_128, k_X12_readClause_131, k_X12_readClause_132, k_X12_readClause_133, k_X12_readClause_134, k_X12_readClause_137, k_X12_readClause_138, k_X12_readClause_139, k_X12_readClause_142, k_X12_readClause_143, k_X12_readClause_144, k_X12_readClause_145, k_X12_readClause_148, k_X12_readClause_151, k_X12_readClause_154, k_X12_readClause_155, k_X12_readClause_157, k_X12_readClause_160, k_X12_readClause_161, k_X12_readClause_162, k_X12_readClause_165, k_X12_readClause_166, k_X12_readClause_167, k_X12_readClause_170, k_X12_readClause_171, k_X12_readClause_172, k_X12_readClause_173, k_X12_readClause_176, k_X12_readClause_177, k_X12_readClause_178, k_X12_readClause_181, k_X12_readClause_182, k_X12_readClause_183, k_X12_readClause_184, k_X12_readClause_187, k_X12_readClause_190, k_X12_readClause_193, k_X12_readClause_194, k_X12_readClause_195, k_X12_readClause_198, k_X12_readClause_199, k_X12_readClause_200, k_X12_readClause_203, k_X12_readClause_204, k_X12_readClause_205, k_X12_readClause_206, k_X12_readClause_209, k_X12_readClause_210, k_X12_readClause_213, k_X12_readClause_214, k_X12_readClause_215, k_X12_readClause_218, k_X12_readClause_221, w_X12_fails_e, w_X12_look_e, w_X12_readItems_e, msk, Mt, MtO, ho_10, ho_9, ho_11, ho_u10, ho_u11, hs, hS, c1, r1, r2, r3, ho_c0, ho_fa]
        repeat' (first | apply And.intro | intro _)
        all_goals first | omega | exact absurd trivial (by assumption) | exact hq | exact ⟨by omega, by omega⟩
    · rw [if_neg c1] at ek
      by_cases c2 : S = 99
      · rw [if_pos c2] at ek
        have l9 := lts (by omega)
        rw [ek] at hq1 hq2 eR
        rw [m2] at hq1 hq2
        by_cases z : c 2 < 6
        · have hq := hq2 (by decide) z
          rw [eR] at hq
          have ux : ∀ x, upf c 2 x 2 = x := fun x => upf_s2 _ _ _
          simp only [↓reduceIte, inR_0, inR_1, inR_m, vSw2_e, swP_n, swP_c, vI_e, vL_e, vNull_e, vIload_e, vLload_e, vAload_e, vIstore_e, vLstore_e, vAstore_e, vIinc_e, vIadd_e, vIsub_e, vImul_e, vIand_e, vIor_e, vIxor_e, vIshl_e, vIshr_e, vIushr_e, vIdiv_e, vIrem_e, vLadd_e, vLsub_e, vLmul_e, vLand_e, vLor_e, vLxor_e, vLdiv_e, vLrem_e, vLushr_e, vLshl_e, vLcmp_e, vIneg_e, vI2l_e, vL2i_e, vI2b_e, vI2c_e, vDup_e, vPop_e, vDup2_e, vGoto_e, vIcEq_e, vIfEq_e, vIcNe_e, vIfNe_e, vIcLt_e, vIfLt_e, vIcGe_e, vIfGe_e, vIcGt_e, vIfGt_e, vIcLe_e, vIfLe_e, vNonnull_e, vSw_e, vGetI_e, vGetL_e, vGetR_e, vPutI_e, vPutZ_e, vPutL_e, vPutR_e, vIald_e, vIald_s, vLald_e, vBald_e, vBald_s, vAald_e, vIast_e, vLast_e, vBast_e, vAast_e, vAlen_e8, vAlen_e9, vAlen_e10, vAlen_e11, vAlen_e5, vAlen_e3, vGets_e, vCompact_e, vLdcS_e, vIret_e, vZret_e, vCret_e, vBret_e, vLret_e, vVret_e, vAret_e, vCallM_e0, vCallMV_e0, vCallS_e0, vCallSV_e0, vCallM_e1, vCallMV_e1, vCallS_e1, vCallSV_e1, vCallM_e2, vCallMV_e2, vCallS_e2, vCallSV_e2, vCallM_e3, vCallMV_e3, vCallS_e3, vCallSV_e3, vCallM_e4, vCallMV_e4, vCallS_e4, vCallSV_e4, vCallM_e5, vCallMV_e5, vCallS_e5, vCallSV_e5, vCallM_e6, vCallMV_e6, vCallS_e6, vCallSV_e6, vCallM_e7, vCallMV_e7, vCallS_e7, vCallSV_e7, vBad_e, vStrVal_e, vStrCod_e, vForm_e, vCallT_e0, vCallT_e1, vCallT_e2, vCopy_e, rf_0_0, rf_0_1, rf_0_2, rf_0_3, rf_0_4, rf_0_7, rf_0_10, rf_0_11, rf_0_12, rf_0_13, rf_0_14, rf_0_15, rf_0_16, rf_1_0, rf_3_0, rf_3_1, rf_6_0, rf_6_1, rf_9_0, rf_9_1, rf_9_3, rf_13_0, rf_13_1, rf_13_2, rf_16_0, rf_16_1, rf_16_2, rf_16_3, rf_21_0, rf_21_1, rf_21_2, rf_21_3, rf_26_0, rf_26_1, rf_26_2, rf_26_3, rf_26_4, rf_26_5, rf_26_6, rf_31_0, rf_31_2, rf_31_5, rf_31_6, rf_36_0, rf_36_1, rf_36_2, rf_36_3, rf_39_0, rf_39_1, rf_39_2, rf_41_0, rf_41_1, rf_41_2, rf_41_3, rf_5000_1, rf_5000_2, rf_5000_3, rf_5000_4, rf_5000_5, rf_5000_15, rf_5000_16, rf_5000_18, rf_5000_19, rf_5000_20, rf_5000_21, rf_5000_22, rf_5000_23, rf_5000_24, rf_5000_25, rf_5000_26, rf_5000_27, rf_5000_36, rf_5000_37, rf_5000_40, rf_5000_41, rf_5000_42, rf_5000_43, rf_5000_44, rf_5000_45, rf_5000_47, rf_5000_52, rf_5000_54, rf_5000_55, rf_100_0, rf_100_1, rf_103_0, rf_103_1, rf_106_0, rf_106_1, rf_109_0, rf_109_1, al_2, al_4, al_5, al_7, al_8, al_10, al_11, al_12, al_14, al_15, al_17, al_18, al_19, al_20, al_22, al_23, al_24, al_25, al_27, al_28, al_29, al_30, al_32, al_33, al_34, al_35, al_37, al_38, al_40, al_42, al_5001, al_5002, al_5003, al_5004, al_5005, al_5006, al_5007, al_5008, al_5009, al_5010, al_5011, al_5012, al_5013, al_5014, al_5015, al_5016, al_5017, al_5018, al_5019, al_5020, al_5021, al_5022, al_5023, al_5024, al_5025, al_5026, al_9000, al_101, al_102, al_104, al_105, al_107, al_108, al_110, al_111, vcs_e, lg_c0, lg_cs, lg_nil, set_c0, set_cs, okst_0, okst_s, acok_n, acok_c, List.contains_nil, List.contains_cons, Bool.or_false, Bool.false_or, Bool.false_eq_true, if_false, if_true, ite_self, ne_eq, true_and, and_true, not_false_eq_true, not_true_eq_false, false_imp_iff, true_imp_iff, Nat.ble_eq, Bool.and_eq_true, reduceCtorEq, or_false, false_or, or_true, true_or, false_and, and_false, and_self, Int.reduceLE, Int.reduceAdd, Int.reduceSub, Int.reduceMul, Int.reduceNeg, Int.reduceLT, Int.reduceEq, Int.reduceNe, Nat.reduceBEq, Nat.reduceBNe, Nat.reduceEqDiff, amCmp_in, amCmp_lt, amCmp_le, amCmp_gt, amCmp_ge, amCmp_eq, amCmp_ne, Nat.reduceLeDiff, Nat.reduceSub, Bool.and_true, Bool.true_and, Bool.and_self, Bool.or_true, Bool.true_or, isRf_3, isRf_4, isRf_5, isRf_8, isRf_9, isRf_10, isRf_11, isRf_15, isRf_16, isRf_17, isRf_18, isRf_19, isRf_20, isRf_21, isRf_22, isRf_23, isRf_24, isRf_25, isRf_26, isRf_27, isRf_28, k_X12_readClause_0, k_X12_readClause_1, k_X12_readClause_4, k_X12_readClause_5, k_X12_readClause_6, k_X12_readClause_8, k_X12_readClause_11, k_X12_readClause_12, k_X12_readClause_15, k_X12_readClause_18, k_X12_readClause_19, k_X12_readClause_21, k_X12_readClause_24, k_X12_readClause_25, k_X12_readClause_28, k_X12_readClause_29, k_X12_readClause_32, k_X12_readClause_33, k_X12_readClause_35, k_X12_readClause_38, k_X12_readClause_39, k_X12_readClause_42, k_X12_readClause_44, k_X12_readClause_47, k_X12_readClause_48, k_X12_readClause_50, k_X12_readClause_53, k_X12_readClause_54, k_X12_readClause_57, k_X12_readClause_59, k_X12_readClause_62, k_X12_readClause_63, k_X12_readClause_66, k_X12_readClause_67, k_X12_readClause_68, k_X12_readClause_69, k_X12_readClause_72, k_X12_readClause_73, k_X12_readClause_76, k_X12_readClause_77, k_X12_readClause_78, k_X12_readClause_79, k_X12_readClause_80, k_X12_readClause_83, k_X12_readClause_84, k_X12_readClause_85, k_X12_readClause_88, k_X12_readClause_89, k_X12_readClause_91, k_X12_readClause_94, k_X12_readClause_95, k_X12_readClause_96, k_X12_readClause_99, k_X12_readClause_100, k_X12_readClause_101, k_X12_readClause_102, k_X12_readClause_105, k_X12_readClause_106, k_X12_readClause_109, k_X12_readClause_112, k_X12_readClause_115, k_X12_readClause_116, k_X12_readClause_118, k_X12_readClause_121, k_X12_readClause_122, k_X12_readClause_123, k_X12_readClause_126, k_X12_readClause_127, k_X12_readClause_128, k_X12_readClause_131, k_X12_readClause_132, k_X12_readClause_133, k_X12_readClause_134, k_X12_readClause_137, k_X12_readClause_138, k_X12_readClause_139, k_X12_readClause_142, k_X12_readClause_143, k_X12_readClause_144, k_X12_readClause_145, k_X12_readClause_148, k_X12_readClause_151, k_X12_readClause_154, k_X12_readClause_155, k_X12_readClause_157, k_X12_readClause_160, k_X12_readClause_161, k_X12_readClause_162, k_X12_readClause_165, k_X12_readClause_166, k_X12_readClause_167, k_X12_readClause_170, k_X12_readClause_171, k_X12_readClause_172, k_X12_readClause_173, k_X12_readClause_176, k_X12_readClause_177, k_X12_readClause_178, k_X12_readClause_181, k_X12_readClause_182, k_X12_readClause_183, k_X12_readClause_184, k_X12_readClause_187, k_X12_readClause_190, k_X12_readClause_193, k_X12_readClause_194, k_X12_readClause_195, k_X12_readClause_198, k_X12_readClause_199, k_X12_readClause_200, k_X12_readClause_203, k_X12_readClause_204, k_X12_readClause_205, k_X12_readClause_206, k_X12_readClause_209, k_X12_readClause_210, k_X12_readClause_213, k_X12_readClause_214, k_X12_readClause_215, k_X12_readClause_218, k_X12_readClause_221, w_X12_fails_e, w_X12_look_e, w_X12_readItems_e, msk, Mt, MtO, ho_10, ho_9, ho_11, ho_u10, ho_u11, hs, hS, c2, r1, r2, r3, u1, u2, u3, ho_c0, ho_u0, ux]
          repeat' (first | apply And.intro | intro _)
          all_goals first | omega | exact absurd trivial (by assumption) | exact ⟨by omega, by omega⟩ | skip
          all_goals (exact ⟨m, s + 1, upf c 2 (c 2 + 1), v, 2, c 2, rfl, rfl, rfl, by rw [show kln 2 = 3 from rfl]; omega, rfl, by decide, by decide, by omega, by rw [m2]; exact z, ht, by omega, by omega, hvB, hq.1, hq.2⟩)
        · have hq := hq1 (by omega)
          simp only [↓reduceIte, inR_0, inR_1, inR_m, vSw2_e, swP_n, swP_c, vI_e, vL_e, vNull_e, vIload_e, vLload_e, vAload_e, vIstore_e, vLstore_e, vAstore_e, vIinc_e, vIadd_e, vIsub_e, vImul_e, vIand_e, vIor_e, vIxor_e, vIshl_e, vIshr_e, vIushr_e, vIdiv_e, vIrem_e, vLadd_e, vLsub_e, vLmul_e, vLand_e, vLor_e, vLxor_e, vLdiv_e, vLrem_e, vLushr_e, vLshl_e, vLcmp_e, vIneg_e, vI2l_e, vL2i_e, vI2b_e, vI2c_e, vDup_e, vPop_e, vDup2_e, vGoto_e, vIcEq_e, vIfEq_e, vIcNe_e, vIfNe_e, vIcLt_e, vIfLt_e, vIcGe_e, vIfGe_e, vIcGt_e, vIfGt_e, vIcLe_e, vIfLe_e, vNonnull_e, vSw_e, vGetI_e, vGetL_e, vGetR_e, vPutI_e, vPutZ_e, vPutL_e, vPutR_e, vIald_e, vIald_s, vLald_e, vBald_e, vBald_s, vAald_e, vIast_e, vLast_e, vBast_e, vAast_e, vAlen_e8, vAlen_e9, vAlen_e10, vAlen_e11, vAlen_e5, vAlen_e3, vGets_e, vCompact_e, vLdcS_e, vIret_e, vZret_e, vCret_e, vBret_e, vLret_e, vVret_e, vAret_e, vCallM_e0, vCallMV_e0, vCallS_e0, vCallSV_e0, vCallM_e1, vCallMV_e1, vCallS_e1, vCallSV_e1, vCallM_e2, vCallMV_e2, vCallS_e2, vCallSV_e2, vCallM_e3, vCallMV_e3, vCallS_e3, vCallSV_e3, vCallM_e4, vCallMV_e4, vCallS_e4, vCallSV_e4, vCallM_e5, vCallMV_e5, vCallS_e5, vCallSV_e5, vCallM_e6, vCallMV_e6, vCallS_e6, vCallSV_e6, vCallM_e7, vCallMV_e7, vCallS_e7, vCallSV_e7, vBad_e, vStrVal_e, vStrCod_e, vForm_e, vCallT_e0, vCallT_e1, vCallT_e2, vCopy_e, rf_0_0, rf_0_1, rf_0_2, rf_0_3, rf_0_4, rf_0_7, rf_0_10, rf_0_11, rf_0_12, rf_0_13, rf_0_14, rf_0_15, rf_0_16, rf_1_0, rf_3_0, rf_3_1, rf_6_0, rf_6_1, rf_9_0, rf_9_1, rf_9_3, rf_13_0, rf_13_1, rf_13_2, rf_16_0, rf_16_1, rf_16_2, rf_16_3, rf_21_0, rf_21_1, rf_21_2, rf_21_3, rf_26_0, rf_26_1, rf_26_2, rf_26_3, rf_26_4, rf_26_5, rf_26_6, rf_31_0, rf_31_2, rf_31_5, rf_31_6, rf_36_0, rf_36_1, rf_36_2, rf_36_3, rf_39_0, rf_39_1, rf_39_2, rf_41_0, rf_41_1, rf_41_2, rf_41_3, rf_5000_1, rf_5000_2, rf_5000_3, rf_5000_4, rf_5000_5, rf_5000_15, rf_5000_16, rf_5000_18, rf_5000_19, rf_5000_20, rf_5000_21, rf_5000_22, rf_5000_23, rf_5000_24, rf_5000_25, rf_5000_26, rf_5000_27, rf_5000_36, rf_5000_37, rf_5000_40, rf_5000_41, rf_5000_42, rf_5000_43, rf_5000_44, rf_5000_45, rf_5000_47, rf_5000_52, rf_5000_54, rf_5000_55, rf_100_0, rf_100_1, rf_103_0, rf_103_1, rf_106_0, rf_106_1, rf_109_0, rf_109_1, al_2, al_4, al_5, al_7, al_8, al_10, al_11, al_12, al_14, al_15, al_17, al_18, al_19, al_20, al_22, al_23, al_24, al_25, al_27, al_28, al_29, al_30, al_32, al_33, al_34, al_35, al_37, al_38, al_40, al_42, al_5001, al_5002, al_5003, al_5004, al_5005, al_5006, al_5007, al_5008, al_5009, al_5010, al_5011, al_5012, al_5013, al_5014, al_5015, al_5016, al_5017, al_5018, al_5019, al_5020, al_5021, al_5022, al_5023, al_5024, al_5025, al_5026, al_9000, al_101, al_102, al_104, al_105, al_107, al_108, al_110, al_111, vcs_e, lg_c0, lg_cs, lg_nil, set_c0, set_cs, okst_0, okst_s, acok_n, acok_c, List.contains_nil, List.contains_cons, Bool.or_false, Bool.false_or, Bool.false_eq_true, if_false, if_true, ite_self, ne_eq, true_and, and_true, not_false_eq_true, not_true_eq_false, false_imp_iff, true_imp_iff, Nat.ble_eq, Bool.and_eq_true, reduceCtorEq, or_false, false_or, or_true, true_or, false_and, and_false, and_self, Int.reduceLE, Int.reduceAdd, Int.reduceSub, Int.reduceMul, Int.reduceNeg, Int.reduceLT, Int.reduceEq, Int.reduceNe, Nat.reduceBEq, Nat.reduceBNe, Nat.reduceEqDiff, amCmp_in, amCmp_lt, amCmp_le, amCmp_gt, amCmp_ge, amCmp_eq, amCmp_ne, Nat.reduceLeDiff, Nat.reduceSub, Bool.and_true, Bool.true_and, Bool.and_self, Bool.or_true, Bool.true_or, isRf_3, isRf_4, isRf_5, isRf_8, isRf_9, isRf_10, isRf_11, isRf_15, isRf_16, isRf_17, isRf_18, isRf_19, isRf_20, isRf_21, isRf_22, isRf_23, isRf_24, isRf_25, isRf_26, isRf_27, isRf_28, k_X12_readClause_0, k_X12_readClause_1, k_X12_readClause_4, k_X12_readClause_5, k_X12_readClause_6, k_X12_readClause_8, k_X12_readClause_11, k_X12_readClause_12, k_X12_readClause_15, k_X12_readClause_18, k_X12_readClause_19, k_X12_readClause_21, k_X12_readClause_24, k_X12_readClause_25, k_X12_readClause_28, k_X12_readClause_29, k_X12_readClause_32, k_X12_readClause_33, k_X12_readClause_35, k_X12_readClause_38, k_X12_readClause_39, k_X12_readClause_42, k_X12_readClause_44, k_X12_readClause_47, k_X12_readClause_48, k_X12_readClause_50, k_X12_readClause_53, k_X12_readClause_54, k_X12_readClause_57, k_X12_readClause_59, k_X12_readClause_62, k_X12_readClause_63, k_X12_readClause_66, k_X12_readClause_67, k_X12_readClause_68, k_X12_readClause_69, k_X12_readClause_72, k_X12_readClause_73, k_X12_readClause_76, k_X12_readClause_77, k_X12_readClause_78, k_X12_readClause_79, k_X12_readClause_80, k_X12_readClause_83, k_X12_readClause_84, k_X12_readClause_85, k_X12_readClause_88, k_X12_readClause_89, k_X12_readClause_91, k_X12_readClause_94, k_X12_readClause_95, k_X12_readClause_96, k_X12_readClause_99, k_X12_readClause_100, k_X12_readClause_101, k_X12_readClause_102, k_X12_readClause_105, k_X12_readClause_106, k_X12_readClause_109, k_X12_readClause_112, k_X12_readClause_115, k_X12_readClause_116, k_X12_readClause_118, k_X12_readClause_121, k_X12_readClause_122, k_X12_readClause_123, k_X12_readClause_126, k_X12_readClause_127, k_X12_readClause_128, k_X12_readClause_131, k_X12_readClause_132, k_X12_readClause_133, k_X12_readClause_134, k_X12_readClause_137, k_X12_readClause_138, k_X12_readClause_139, k_X12_readClause_142, k_X12_readClause_143, k_X12_readClause_144, k_X12_readClause_145, k_X12_readClause_148, k_X12_readClause_151, k_X12_readClause_154, k_X12_readClause_155, k_X12_readClause_157, k_X12_readClause_160, k_X12_readClause_161, k_X12_readClause_162, k_X12_readClause_165, k_X12_readClause_166, k_X12_readClause_167, k_X12_readClause_170, k_X12_readClause_171, k_X12_readClause_172, k_X12_readClause_173, k_X12_readClause_176, k_X12_readClause_177, k_X12_readClause_178, k_X12_readClause_181, k_X12_readClause_182, k_X12_readClause_183, k_X12_readClause_184, k_X12_readClause_187, k_X12_readClause_190, k_X12_readClause_193, k_X12_readClause_194, k_X12_readClause_195, k_X12_readClause_198, k_X12_readClause_199, k_X12_readClause_200, k_X12_readClause_203, k_X12_readClause_204, k_X12_readClause_205, k_X12_readClause_206, k_X12_readClause_209, k_X12_readClause_210, k_X12_readClause_213, k_X12_readClause_214, k_X12_readClause_215, k_X12_readClause_218, k_X12_readClause_221, w_X12_fails_e, w_X12_look_e, w_X12_readItems_e, msk, Mt, MtO, ho_10, ho_9, ho_11, ho_u10, ho_u11, hs, hS, c2, r1, r2, r3, ho_c0, ho_fa]
          repeat' (first | apply And.intro | intro _)
          all_goals first | omega | exact absurd trivial (by assumption) | exact hq | exact ⟨by omega, by omega⟩
      · rw [if_neg c2] at ek
        by_cases c3 : S = 116
        · rw [if_pos c3] at ek
          have l9 := lts (by omega)
          rw [ek] at hq1 hq2 eR
          rw [m3] at hq1 hq2
          by_cases z : c 3 < 6
          · have hq := hq2 (by decide) z
            rw [eR] at hq
            have ux : ∀ x, upf c 3 x 3 = x := fun x => upf_s2 _ _ _
            simp only [↓reduceIte, inR_0, inR_1, inR_m, vSw2_e, swP_n, swP_c, vI_e, vL_e, vNull_e, vIload_e, vLload_e, vAload_e, vIstore_e, vLstore_e, vAstore_e, vIinc_e, vIadd_e, vIsub_e, vImul_e, vIand_e, vIor_e, vIxor_e, vIshl_e, vIshr_e, vIushr_e, vIdiv_e, vIrem_e, vLadd_e, vLsub_e, vLmul_e, vLand_e, vLor_e, vLxor_e, vLdiv_e, vLrem_e, vLushr_e, vLshl_e, vLcmp_e, vIneg_e, vI2l_e, vL2i_e, vI2b_e, vI2c_e, vDup_e, vPop_e, vDup2_e, vGoto_e, vIcEq_e, vIfEq_e, vIcNe_e, vIfNe_e, vIcLt_e, vIfLt_e, vIcGe_e, vIfGe_e, vIcGt_e, vIfGt_e, vIcLe_e, vIfLe_e, vNonnull_e, vSw_e, vGetI_e, vGetL_e, vGetR_e, vPutI_e, vPutZ_e, vPutL_e, vPutR_e, vIald_e, vIald_s, vLald_e, vBald_e, vBald_s, vAald_e, vIast_e, vLast_e, vBast_e, vAast_e, vAlen_e8, vAlen_e9, vAlen_e10, vAlen_e11, vAlen_e5, vAlen_e3, vGets_e, vCompact_e, vLdcS_e, vIret_e, vZret_e, vCret_e, vBret_e, vLret_e, vVret_e, vAret_e, vCallM_e0, vCallMV_e0, vCallS_e0, vCallSV_e0, vCallM_e1, vCallMV_e1, vCallS_e1, vCallSV_e1, vCallM_e2, vCallMV_e2, vCallS_e2, vCallSV_e2, vCallM_e3, vCallMV_e3, vCallS_e3, vCallSV_e3, vCallM_e4, vCallMV_e4, vCallS_e4, vCallSV_e4, vCallM_e5, vCallMV_e5, vCallS_e5, vCallSV_e5, vCallM_e6, vCallMV_e6, vCallS_e6, vCallSV_e6, vCallM_e7, vCallMV_e7, vCallS_e7, vCallSV_e7, vBad_e, vStrVal_e, vStrCod_e, vForm_e, vCallT_e0, vCallT_e1, vCallT_e2, vCopy_e, rf_0_0, rf_0_1, rf_0_2, rf_0_3, rf_0_4, rf_0_7, rf_0_10, rf_0_11, rf_0_12, rf_0_13, rf_0_14, rf_0_15, rf_0_16, rf_1_0, rf_3_0, rf_3_1, rf_6_0, rf_6_1, rf_9_0, rf_9_1, rf_9_3, rf_13_0, rf_13_1, rf_13_2, rf_16_0, rf_16_1, rf_16_2, rf_16_3, rf_21_0, rf_21_1, rf_21_2, rf_21_3, rf_26_0, rf_26_1, rf_26_2, rf_26_3, rf_26_4, rf_26_5, rf_26_6, rf_31_0, rf_31_2, rf_31_5, rf_31_6, rf_36_0, rf_36_1, rf_36_2, rf_36_3, rf_39_0, rf_39_1, rf_39_2, rf_41_0, rf_41_1, rf_41_2, rf_41_3, rf_5000_1, rf_5000_2, rf_5000_3, rf_5000_4, rf_5000_5, rf_5000_15, rf_5000_16, rf_5000_18, rf_5000_19, rf_5000_20, rf_5000_21, rf_5000_22, rf_5000_23, rf_5000_24, rf_5000_25, rf_5000_26, rf_5000_27, rf_5000_36, rf_5000_37, rf_5000_40, rf_5000_41, rf_5000_42, rf_5000_43, rf_5000_44, rf_5000_45, rf_5000_47, rf_5000_52, rf_5000_54, rf_5000_55, rf_100_0, rf_100_1, rf_103_0, rf_103_1, rf_106_0, rf_106_1, rf_109_0, rf_109_1, al_2, al_4, al_5, al_7, al_8, al_10, al_11, al_12, al_14, al_15, al_17, al_18, al_19, al_20, al_22, al_23, al_24, al_25, al_27, al_28, al_29, al_30, al_32, al_33, al_34, al_35, al_37, al_38, al_40, al_42, al_5001, al_5002, al_5003, al_5004, al_5005, al_5006, al_5007, al_5008, al_5009, al_5010, al_5011, al_5012, al_5013, al_5014, al_5015, al_5016, al_5017, al_5018, al_5019, al_5020, al_5021, al_5022, al_5023, al_5024, al_5025, al_5026, al_9000, al_101, al_102, al_104, al_105, al_107, al_108, al_110, al_111, vcs_e, lg_c0, lg_cs, lg_nil, set_c0, set_cs, okst_0, okst_s, acok_n, acok_c, List.contains_nil, List.contains_cons, Bool.or_false, Bool.false_or, Bool.false_eq_true, if_false, if_true, ite_self, ne_eq, true_and, and_true, not_false_eq_true, not_true_eq_false, false_imp_iff, true_imp_iff, Nat.ble_eq, Bool.and_eq_true, reduceCtorEq, or_false, false_or, or_true, true_or, false_and, and_false, and_self, Int.reduceLE, Int.reduceAdd, Int.reduceSub, Int.reduceMul, Int.reduceNeg, Int.reduceLT, Int.reduceEq, Int.reduceNe, Nat.reduceBEq, Nat.reduceBNe, Nat.reduceEqDiff, amCmp_in, amCmp_lt, amCmp_le, amCmp_gt, amCmp_ge, amCmp_eq, amCmp_ne, Nat.reduceLeDiff, Nat.reduceSub, Bool.and_true, Bool.true_and, Bool.and_self, Bool.or_true, Bool.true_or, isRf_3, isRf_4, isRf_5, isRf_8, isRf_9, isRf_10, isRf_11, isRf_15, isRf_16, isRf_17, isRf_18, isRf_19, isRf_20, isRf_21, isRf_22, isRf_23, isRf_24, isRf_25, isRf_26, isRf_27, isRf_28, k_X12_readClause_0, k_X12_readClause_1, k_X12_readClause_4, k_X12_readClause_5, k_X12_readClause_6, k_X12_readClause_8, k_X12_readClause_11, k_X12_readClause_12, k_X12_readClause_15, k_X12_readClause_18, k_X12_readClause_19, k_X12_readClause_21, k_X12_readClause_24, k_X12_readClause_25, k_X12_readClause_28, k_X12_readClause_29, k_X12_readClause_32, k_X12_readClause_33, k_X12_readClause_35, k_X12_readClause_38, k_X12_readClause_39, k_X12_readClause_42, k_X12_readClause_44, k_X12_readClause_47, k_X12_readClause_48, k_X12_readClause_50, k_X12_readClause_53, k_X12_readClause_54, k_X12_readClause_57, k_X12_readClause_59, k_X12_readClause_62, k_X12_readClause_63, k_X12_readClause_66, k_X12_readClause_67, k_X12_readClause_68, k_X12_readClause_69, k_X12_readClause_72, k_X12_readClause_73, k_X12_readClause_76, k_X12_readClause_77, k_X12_readClause_78, k_X12_readClause_79, k_X12_readClause_80, k_X12_readClause_83, k_X12_readClause_84, k_X12_readClause_85, k_X12_readClause_88, k_X12_readClause_89, k_X12_readClause_91, k_X12_readClause_94, k_X12_readClause_95, k_X12_readClause_96, k_X12_readClause_99, k_X12_readClause_100, k_X12_readClause_101, k_X12_readClause_102, k_X12_readClause_105, k_X12_readClause_106, k_X12_readClause_109, k_X12_readClause_112, k_X12_readClause_115, k_X12_readClause_116, k_X12_readClause_118, k_X12_readClause_121, k_X12_readClause_122, k_X12_readClause_123, k_X12_readClause_126, k_X12_readClause_127, k_X12_readClause_128, k_X12_readClause_131, k_X12_readClause_132, k_X12_readClause_133, k_X12_readClause_134, k_X12_readClause_137, k_X12_readClause_138, k_X12_readClause_139, k_X12_readClause_142, k_X12_readClause_143, k_X12_readClause_144, k_X12_readClause_145, k_X12_readClause_148, k_X12_readClause_151, k_X12_readClause_154, k_X12_readClause_155, k_X12_readClause_157, k_X12_readClause_160, k_X12_readClause_161, k_X12_readClause_162, k_X12_readClause_165, k_X12_readClause_166, k_X12_readClause_167, k_X12_readClause_170, k_X12_readClause_171, k_X12_readClause_172, k_X12_readClause_173, k_X12_readClause_176, k_X12_readClause_177, k_X12_readClause_178, k_X12_readClause_181, k_X12_readClause_182, k_X12_readClause_183, k_X12_readClause_184, k_X12_readClause_187, k_X12_readClause_190, k_X12_readClause_193, k_X12_readClause_194, k_X12_readClause_195, k_X12_readClause_198, k_X12_readClause_199, k_X12_readClause_200, k_X12_readClause_203, k_X12_readClause_204, k_X12_readClause_205, k_X12_readClause_206, k_X12_readClause_209, k_X12_readClause_210, k_X12_readClause_213, k_X12_readClause_214, k_X12_readClause_215, k_X12_readClause_218, k_X12_readClause_221, w_X12_fails_e, w_X12_look_e, w_X12_readItems_e, msk, Mt, MtO, ho_10, ho_9, ho_11, ho_u10, ho_u11, hs, hS, c3, r1, r2, r3, u1, u2, u3, ho_c0, ho_u0, ux]
            repeat' (first | apply And.intro | intro _)
            all_goals first | omega | exact absurd trivial (by assumption) | exact ⟨by omega, by omega⟩ | skip
            all_goals (exact ⟨m, s + 1, upf c 3 (c 3 + 1), v, 3, c 3, rfl, rfl, rfl, by rw [show kln 3 = 1 from rfl]; omega, rfl, by decide, by decide, by omega, by rw [m3]; exact z, ht, by omega, by omega, hvB, hq.1, hq.2⟩)
          · have hq := hq1 (by omega)
            simp only [↓reduceIte, inR_0, inR_1, inR_m, vSw2_e, swP_n, swP_c, vI_e, vL_e, vNull_e, vIload_e, vLload_e, vAload_e, vIstore_e, vLstore_e, vAstore_e, vIinc_e, vIadd_e, vIsub_e, vImul_e, vIand_e, vIor_e, vIxor_e, vIshl_e, vIshr_e, vIushr_e, vIdiv_e, vIrem_e, vLadd_e, vLsub_e, vLmul_e, vLand_e, vLor_e, vLxor_e, vLdiv_e, vLrem_e, vLushr_e, vLshl_e, vLcmp_e, vIneg_e, vI2l_e, vL2i_e, vI2b_e, vI2c_e, vDup_e, vPop_e, vDup2_e, vGoto_e, vIcEq_e, vIfEq_e, vIcNe_e, vIfNe_e, vIcLt_e, vIfLt_e, vIcGe_e, vIfGe_e, vIcGt_e, vIfGt_e, vIcLe_e, vIfLe_e, vNonnull_e, vSw_e, vGetI_e, vGetL_e, vGetR_e, vPutI_e, vPutZ_e, vPutL_e, vPutR_e, vIald_e, vIald_s, vLald_e, vBald_e, vBald_s, vAald_e, vIast_e, vLast_e, vBast_e, vAast_e, vAlen_e8, vAlen_e9, vAlen_e10, vAlen_e11, vAlen_e5, vAlen_e3, vGets_e, vCompact_e, vLdcS_e, vIret_e, vZret_e, vCret_e, vBret_e, vLret_e, vVret_e, vAret_e, vCallM_e0, vCallMV_e0, vCallS_e0, vCallSV_e0, vCallM_e1, vCallMV_e1, vCallS_e1, vCallSV_e1, vCallM_e2, vCallMV_e2, vCallS_e2, vCallSV_e2, vCallM_e3, vCallMV_e3, vCallS_e3, vCallSV_e3, vCallM_e4, vCallMV_e4, vCallS_e4, vCallSV_e4, vCallM_e5, vCallMV_e5, vCallS_e5, vCallSV_e5, vCallM_e6, vCallMV_e6, vCallS_e6, vCallSV_e6, vCallM_e7, vCallMV_e7, vCallS_e7, vCallSV_e7, vBad_e, vStrVal_e, vStrCod_e, vForm_e, vCallT_e0, vCallT_e1, vCallT_e2, vCopy_e, rf_0_0, rf_0_1, rf_0_2, rf_0_3, rf_0_4, rf_0_7, rf_0_10, rf_0_11, rf_0_12, rf_0_13, rf_0_14, rf_0_15, rf_0_16, rf_1_0, rf_3_0, rf_3_1, rf_6_0, rf_6_1, rf_9_0, rf_9_1, rf_9_3, rf_13_0, rf_13_1, rf_13_2, rf_16_0, rf_16_1, rf_16_2, rf_16_3, rf_21_0, rf_21_1, rf_21_2, rf_21_3, rf_26_0, rf_26_1, rf_26_2, rf_26_3, rf_26_4, rf_26_5, rf_26_6, rf_31_0, rf_31_2, rf_31_5, rf_31_6, rf_36_0, rf_36_1, rf_36_2, rf_36_3, rf_39_0, rf_39_1, rf_39_2, rf_41_0, rf_41_1, rf_41_2, rf_41_3, rf_5000_1, rf_5000_2, rf_5000_3, rf_5000_4, rf_5000_5, rf_5000_15, rf_5000_16, rf_5000_18, rf_5000_19, rf_5000_20, rf_5000_21, rf_5000_22, rf_5000_23, rf_5000_24, rf_5000_25, rf_5000_26, rf_5000_27, rf_5000_36, rf_5000_37, rf_5000_40, rf_5000_41, rf_5000_42, rf_5000_43, rf_5000_44, rf_5000_45, rf_5000_47, rf_5000_52, rf_5000_54, rf_5000_55, rf_100_0, rf_100_1, rf_103_0, rf_103_1, rf_106_0, rf_106_1, rf_109_0, rf_109_1, al_2, al_4, al_5, al_7, al_8, al_10, al_11, al_12, al_14, al_15, al_17, al_18, al_19, al_20, al_22, al_23, al_24, al_25, al_27, al_28, al_29, al_30, al_32, al_33, al_34, al_35, al_37, al_38, al_40, al_42, al_5001, al_5002, al_5003, al_5004, al_5005, al_5006, al_5007, al_5008, al_5009, al_5010, al_5011, al_5012, al_5013, al_5014, al_5015, al_5016, al_5017, al_5018, al_5019, al_5020, al_5021, al_5022, al_5023, al_5024, al_5025, al_5026, al_9000, al_101, al_102, al_104, al_105, al_107, al_108, al_110, al_111, vcs_e, lg_c0, lg_cs, lg_nil, set_c0, set_cs, okst_0, okst_s, acok_n, acok_c, List.contains_nil, List.contains_cons, Bool.or_false, Bool.false_or, Bool.false_eq_true, if_false, if_true, ite_self, ne_eq, true_and, and_true, not_false_eq_true, not_true_eq_false, false_imp_iff, true_imp_iff, Nat.ble_eq, Bool.and_eq_true, reduceCtorEq, or_false, false_or, or_true, true_or, false_and, and_false, and_self, Int.reduceLE, Int.reduceAdd, Int.reduceSub, Int.reduceMul, Int.reduceNeg, Int.reduceLT, Int.reduceEq, Int.reduceNe, Nat.reduceBEq, Nat.reduceBNe, Nat.reduceEqDiff, amCmp_in, amCmp_lt, amCmp_le, amCmp_gt, amCmp_ge, amCmp_eq, amCmp_ne, Nat.reduceLeDiff, Nat.reduceSub, Bool.and_true, Bool.true_and, Bool.and_self, Bool.or_true, Bool.true_or, isRf_3, isRf_4, isRf_5, isRf_8, isRf_9, isRf_10, isRf_11, isRf_15, isRf_16, isRf_17, isRf_18, isRf_19, isRf_20, isRf_21, isRf_22, isRf_23, isRf_24, isRf_25, isRf_26, isRf_27, isRf_28, k_X12_readClause_0, k_X12_readClause_1, k_X12_readClause_4, k_X12_readClause_5, k_X12_readClause_6, k_X12_readClause_8, k_X12_readClause_11, k_X12_readClause_12, k_X12_readClause_15, k_X12_readClause_18, k_X12_readClause_19, k_X12_readClause_21, k_X12_readClause_24, k_X12_readClause_25, k_X12_readClause_28, k_X12_readClause_29, k_X12_readClause_32, k_X12_readClause_33, k_X12_readClause_35, k_X12_readClause_38, k_X12_readClause_39, k_X12_readClause_42, k_X12_readClause_44, k_X12_readClause_47, k_X12_readClause_48, k_X12_readClause_50, k_X12_readClause_53, k_X12_readClause_54, k_X12_readClause_57, k_X12_readClause_59, k_X12_readClause_62, k_X12_readClause_63, k_X12_readClause_66, k_X12_readClause_67, k_X12_readClause_68, k_X12_readClause_69, k_X12_readClause_72, k_X12_readClause_73, k_X12_readClause_76, k_X12_readClause_77, k_X12_readClause_78, k_X12_readClause_79, k_X12_readClause_80, k_X12_readClause_83, k_X12_readClause_84, k_X12_readClause_85, k_X12_readClause_88, k_X12_readClause_89, k_X12_readClause_91, k_X12_readClause_94, k_X12_readClause_95, k_X12_readClause_96, k_X12_readClause_99, k_X12_readClause_100, k_X12_readClause_101, k_X12_readClause_102, k_X12_readClause_105, k_X12_readClause_106, k_X12_readClause_109, k_X12_readClause_112, k_X12_readClause_115, k_X12_readClause_116, k_X12_readClause_118, k_X12_readClause_121, k_X12_readClause_122, k_X12_readClause_123, k_X12_readClause_126, k_X12_readClause_127, k_X12_readClause_128, k_X12_readClause_131, k_X12_readClause_132, k_X12_readClause_133, k_X12_readClause_134, k_X12_readClause_137, k_X12_readClause_138, k_X12_readClause_139, k_X12_readClause_142, k_X12_readClause_143, k_X12_readClause_144, k_X12_readClause_145, k_X12_readClause_148, k_X12_readClause_151, k_X12_readClause_154, k_X12_readClause_155, k_X12_readClause_157, k_X12_readClause_160, k_X12_readClause_161, k_X12_readClause_162, k_X12_readClause_165, k_X12_readClause_166, k_X12_readClause_167, k_X12_readClause_170, k_X12_readClause_171, k_X12_readClause_172, k_X12_readClause_173, k_X12_readClause_176, k_X12_readClause_177, k_X12_readClause_178, k_X12_readClause_181, k_X12_readClause_182, k_X12_readClause_183, k_X12_readClause_184, k_X12_readClause_187, k_X12_readClause_190, k_X12_readClause_193, k_X12_readClause_194, k_X12_readClause_195, k_X12_readClause_198, k_X12_readClause_199, k_X12_readClause_200, k_X12_readClause_203, k_X12_readClause_204, k_X12_readClause_205, k_X12_readClause_206, k_X12_readClause_209, k_X12_readClause_210, k_X12_readClause_213, k_X12_readClause_214, k_X12_readClause_215, k_X12_readClause_218, k_X12_readClause_221, w_X12_fails_e, w_X12_look_e, w_X12_readItems_e, msk, Mt, MtO, ho_10, ho_9, ho_11, ho_u10, ho_u11, hs, hS, c3, r1, r2, r3, ho_c0, ho_fa]
            repeat' (first | apply And.intro | intro _)
            all_goals first | omega | exact absurd trivial (by assumption) | exact hq | exact ⟨by omega, by omega⟩
        · rw [if_neg c3] at ek
          have hq := hq1 (by rw [ek]; omega)
          simp only [↓reduceIte, inR_0, inR_1, inR_m, vSw2_e, swP_n, swP_c, vI_e, vL_e, vNull_e, vIload_e, vLload_e, vAload_e, vIstore_e, vLstore_e, vAstore_e, vIinc_e, vIadd_e, vIsub_e, vImul_e, vIand_e, vIor_e, vIxor_e, vIshl_e, vIshr_e, vIushr_e, vIdiv_e, vIrem_e, vLadd_e, vLsub_e, vLmul_e, vLand_e, vLor_e, vLxor_e, vLdiv_e, vLrem_e, vLushr_e, vLshl_e, vLcmp_e, vIneg_e, vI2l_e, vL2i_e, vI2b_e, vI2c_e, vDup_e, vPop_e, vDup2_e, vGoto_e, vIcEq_e, vIfEq_e, vIcNe_e, vIfNe_e, vIcLt_e, vIfLt_e, vIcGe_e, vIfGe_e, vIcGt_e, vIfGt_e, vIcLe_e, vIfLe_e, vNonnull_e, vSw_e, vGetI_e, vGetL_e, vGetR_e, vPutI_e, vPutZ_e, vPutL_e, vPutR_e, vIald_e, vIald_s, vLald_e, vBald_e, vBald_s, vAald_e, vIast_e, vLast_e, vBast_e, vAast_e, vAlen_e8, vAlen_e9, vAlen_e10, vAlen_e11, vAlen_e5, vAlen_e3, vGets_e, vCompact_e, vLdcS_e, vIret_e, vZret_e, vCret_e, vBret_e, vLret_e, vVret_e, vAret_e, vCallM_e0, vCallMV_e0, vCallS_e0, vCallSV_e0, vCallM_e1, vCallMV_e1, vCallS_e1, vCallSV_e1, vCallM_e2, vCallMV_e2, vCallS_e2, vCallSV_e2, vCallM_e3, vCallMV_e3, vCallS_e3, vCallSV_e3, vCallM_e4, vCallMV_e4, vCallS_e4, vCallSV_e4, vCallM_e5, vCallMV_e5, vCallS_e5, vCallSV_e5, vCallM_e6, vCallMV_e6, vCallS_e6, vCallSV_e6, vCallM_e7, vCallMV_e7, vCallS_e7, vCallSV_e7, vBad_e, vStrVal_e, vStrCod_e, vForm_e, vCallT_e0, vCallT_e1, vCallT_e2, vCopy_e, rf_0_0, rf_0_1, rf_0_2, rf_0_3, rf_0_4, rf_0_7, rf_0_10, rf_0_11, rf_0_12, rf_0_13, rf_0_14, rf_0_15, rf_0_16, rf_1_0, rf_3_0, rf_3_1, rf_6_0, rf_6_1, rf_9_0, rf_9_1, rf_9_3, rf_13_0, rf_13_1, rf_13_2, rf_16_0, rf_16_1, rf_16_2, rf_16_3, rf_21_0, rf_21_1, rf_21_2, rf_21_3, rf_26_0, rf_26_1, rf_26_2, rf_26_3, rf_26_4, rf_26_5, rf_26_6, rf_31_0, rf_31_2, rf_31_5, rf_31_6, rf_36_0, rf_36_1, rf_36_2, rf_36_3, rf_39_0, rf_39_1, rf_39_2, rf_41_0, rf_41_1, rf_41_2, rf_41_3, rf_5000_1, rf_5000_2, rf_5000_3, rf_5000_4, rf_5000_5, rf_5000_15, rf_5000_16, rf_5000_18, rf_5000_19, rf_5000_20, rf_5000_21, rf_5000_22, rf_5000_23, rf_5000_24, rf_5000_25, rf_5000_26, rf_5000_27, rf_5000_36, rf_5000_37, rf_5000_40, rf_5000_41, rf_5000_42, rf_5000_43, rf_5000_44, rf_5000_45, rf_5000_47, rf_5000_52, rf_5000_54, rf_5000_55, rf_100_0, rf_100_1, rf_103_0, rf_103_1, rf_106_0, rf_106_1, rf_109_0, rf_109_1, al_2, al_4, al_5, al_7, al_8, al_10, al_11, al_12, al_14, al_15, al_17, al_18, al_19, al_20, al_22, al_23, al_24, al_25, al_27, al_28, al_29, al_30, al_32, al_33, al_34, al_35, al_37, al_38, al_40, al_42, al_5001, al_5002, al_5003, al_5004, al_5005, al_5006, al_5007, al_5008, al_5009, al_5010, al_5011, al_5012, al_5013, al_5014, al_5015, al_5016, al_5017, al_5018, al_5019, al_5020, al_5021, al_5022, al_5023, al_5024, al_5025, al_5026, al_9000, al_101, al_102, al_104, al_105, al_107, al_108, al_110, al_111, vcs_e, lg_c0, lg_cs, lg_nil, set_c0, set_cs, okst_0, okst_s, acok_n, acok_c, List.contains_nil, List.contains_cons, Bool.or_false, Bool.false_or, Bool.false_eq_true, if_false, if_true, ite_self, ne_eq, true_and, and_true, not_false_eq_true, not_true_eq_false, false_imp_iff, true_imp_iff, Nat.ble_eq, Bool.and_eq_true, reduceCtorEq, or_false, false_or, or_true, true_or, false_and, and_false, and_self, Int.reduceLE, Int.reduceAdd, Int.reduceSub, Int.reduceMul, Int.reduceNeg, Int.reduceLT, Int.reduceEq, Int.reduceNe, Nat.reduceBEq, Nat.reduceBNe, Nat.reduceEqDiff, amCmp_in, amCmp_lt, amCmp_le, amCmp_gt, amCmp_ge, amCmp_eq, amCmp_ne, Nat.reduceLeDiff, Nat.reduceSub, Bool.and_true, Bool.true_and, Bool.and_self, Bool.or_true, Bool.true_or, isRf_3, isRf_4, isRf_5, isRf_8, isRf_9, isRf_10, isRf_11, isRf_15, isRf_16, isRf_17, isRf_18, isRf_19, isRf_20, isRf_21, isRf_22, isRf_23, isRf_24, isRf_25, isRf_26, isRf_27, isRf_28, k_X12_readClause_0, k_X12_readClause_1, k_X12_readClause_4, k_X12_readClause_5, k_X12_readClause_6, k_X12_readClause_8, k_X12_readClause_11, k_X12_readClause_12, k_X12_readClause_15, k_X12_readClause_18, k_X12_readClause_19, k_X12_readClause_21, k_X12_readClause_24, k_X12_readClause_25, k_X12_readClause_28, k_X12_readClause_29, k_X12_readClause_32, k_X12_readClause_33, k_X12_readClause_35, k_X12_readClause_38, k_X12_readClause_39, k_X12_readClause_42, k_X12_readClause_44, k_X12_readClause_47, k_X12_readClause_48, k_X12_readClause_50, k_X12_readClause_53, k_X12_readClause_54, k_X12_readClause_57, k_X12_readClause_59, k_X12_readClause_62, k_X12_readClause_63, k_X12_readClause_66, k_X12_readClause_67, k_X12_readClause_68, k_X12_readClause_69, k_X12_readClause_72, k_X12_readClause_73, k_X12_readClause_76, k_X12_readClause_77, k_X12_readClause_78, k_X12_readClause_79, k_X12_readClause_80, k_X12_readClause_83, k_X12_readClause_84, k_X12_readClause_85, k_X12_readClause_88, k_X12_readClause_89, k_X12_readClause_91, k_X12_readClause_94, k_X12_readClause_95, k_X12_readClause_96, k_X12_readClause_99, k_X12_readClause_100, k_X12_readClause_101, k_X12_readClause_102, k_X12_readClause_105, k_X12_readClause_106, k_X12_readClause_109, k_X12_readClause_112, k_X12_readClause_115, k_X12_readClause_116, k_X12_readClause_118, k_X12_readClause_121, k_X12_readClause_122, k_X12_readClause_123, k_X12_readClause_126, k_X12_readClause_127, k_X12_readClause_128, k_X12_readClause_131, k_X12_readClause_132, k_X12_readClause_133, k_X12_readClause_134, k_X12_readClause_137, k_X12_readClause_138, k_X12_readClause_139, k_X12_readClause_142, k_X12_readClause_143, k_X12_readClause_144, k_X12_readClause_145, k_X12_readClause_148, k_X12_readClause_151, k_X12_readClause_154, k_X12_readClause_155, k_X12_readClause_157, k_X12_readClause_160, k_X12_readClause_161, k_X12_readClause_162, k_X12_readClause_165, k_X12_readClause_166, k_X12_readClause_167, k_X12_readClause_170, k_X12_readClause_171, k_X12_readClause_172, k_X12_readClause_173, k_X12_readClause_176, k_X12_readClause_177, k_X12_readClause_178, k_X12_readClause_181, k_X12_readClause_182, k_X12_readClause_183, k_X12_readClause_184, k_X12_readClause_187, k_X12_readClause_190, k_X12_readClause_193, k_X12_readClause_194, k_X12_readClause_195, k_X12_readClause_198, k_X12_readClause_199, k_X12_readClause_200, k_X12_readClause_203, k_X12_readClause_204, k_X12_readClause_205, k_X12_readClause_206, k_X12_readClause_209, k_X12_readClause_210, k_X12_readClause_213, k_X12_readClause_214, k_X12_readClause_215, k_X12_readClause_218, k_X12_readClause_221, w_X12_fails_e, w_X12_look_e, w_X12_readItems_e, msk, Mt, MtO, ho_10, ho_9, ho_11, ho_u10, ho_u11, hs, hS, c0, c1, c2, c3, r1, r2, r3, ho_c0, ho_fa]
          repeat' (first | apply And.intro | intro _)
          all_goals first | omega | exact absurd trivial (by assumption) | exact hq | exact ⟨by omega, by omega⟩
def a_X12_isWhole : AC := [(0, vI 0 1), (1, vIstore 1 2), (2, vIload 1 3), (3, vAload 0 4), (4, vGetI 28 32 7), (7, vIcGe 35 10), (10, vAload 0 11), (11, vGetR TT 28 23 8 14), (14, vI 3 15), (15, vIload 1 16), (16, vImul 17), (17, vI 1 18), (18, vIadd 19), (19, vIald TT 20), (20, vAload 0 21), (21, vGetI 28 33 24), (24, vIcLt 29 27), (27, vI 0 28), (28, vZret), (29, vIinc 1 1 32), (32, vGoto 2), (35, vAload 0 36), (36, vGetI 28 31 39), (39, vIfLe 60 42), (42, vAload 0 43), (43, vGetI 28 32 46), (46, vIfLe 60 49), (49, vAload 0 50), (50, vGetI 28 33 53), (53, vIfLe 60 56), (56, vI 1 57), (57, vGoto 61), (60, vI 0 61), (61, vZret)]
theorem k_X12_isWhole_0 : look a_X12_isWhole 0 = vI 0 1 := rfl
theorem k_X12_isWhole_1 : look a_X12_isWhole 1 = vIstore 1 2 := rfl
theorem k_X12_isWhole_2 : look a_X12_isWhole 2 = vIload 1 3 := rfl
theorem k_X12_isWhole_3 : look a_X12_isWhole 3 = vAload 0 4 := rfl
theorem k_X12_isWhole_4 : look a_X12_isWhole 4 = vGetI 28 32 7 := rfl
theorem k_X12_isWhole_7 : look a_X12_isWhole 7 = vIcGe 35 10 := rfl
theorem k_X12_isWhole_10 : look a_X12_isWhole 10 = vAload 0 11 := rfl
theorem k_X12_isWhole_11 : look a_X12_isWhole 11 = vGetR TT 28 23 8 14 := rfl
theorem k_X12_isWhole_14 : look a_X12_isWhole 14 = vI 3 15 := rfl
theorem k_X12_isWhole_15 : look a_X12_isWhole 15 = vIload 1 16 := rfl
theorem k_X12_isWhole_16 : look a_X12_isWhole 16 = vImul 17 := rfl
theorem k_X12_isWhole_17 : look a_X12_isWhole 17 = vI 1 18 := rfl
theorem k_X12_isWhole_18 : look a_X12_isWhole 18 = vIadd 19 := rfl
theorem k_X12_isWhole_19 : look a_X12_isWhole 19 = vIald TT 20 := rfl
theorem k_X12_isWhole_20 : look a_X12_isWhole 20 = vAload 0 21 := rfl
theorem k_X12_isWhole_21 : look a_X12_isWhole 21 = vGetI 28 33 24 := rfl
theorem k_X12_isWhole_24 : look a_X12_isWhole 24 = vIcLt 29 27 := rfl
theorem k_X12_isWhole_27 : look a_X12_isWhole 27 = vI 0 28 := rfl
theorem k_X12_isWhole_28 : look a_X12_isWhole 28 = vZret := rfl
theorem k_X12_isWhole_29 : look a_X12_isWhole 29 = vIinc 1 1 32 := rfl
theorem k_X12_isWhole_32 : look a_X12_isWhole 32 = vGoto 2 := rfl
theorem k_X12_isWhole_35 : look a_X12_isWhole 35 = vAload 0 36 := rfl
theorem k_X12_isWhole_36 : look a_X12_isWhole 36 = vGetI 28 31 39 := rfl
theorem k_X12_isWhole_39 : look a_X12_isWhole 39 = vIfLe 60 42 := rfl
theorem k_X12_isWhole_42 : look a_X12_isWhole 42 = vAload 0 43 := rfl
theorem k_X12_isWhole_43 : look a_X12_isWhole 43 = vGetI 28 32 46 := rfl
theorem k_X12_isWhole_46 : look a_X12_isWhole 46 = vIfLe 60 49 := rfl
theorem k_X12_isWhole_49 : look a_X12_isWhole 49 = vAload 0 50 := rfl
theorem k_X12_isWhole_50 : look a_X12_isWhole 50 = vGetI 28 33 53 := rfl
theorem k_X12_isWhole_53 : look a_X12_isWhole 53 = vIfLe 60 56 := rfl
theorem k_X12_isWhole_56 : look a_X12_isWhole 56 = vI 1 57 := rfl
theorem k_X12_isWhole_57 : look a_X12_isWhole 57 = vGoto 61 := rfl
theorem k_X12_isWhole_60 : look a_X12_isWhole 60 = vI 0 61 := rfl
theorem k_X12_isWhole_61 : look a_X12_isWhole 61 = vZret := rfl
theorem o_X12_isWhole {X : amX} (e1 : XT X = TT) (e2 : XD X = 0) (hB : amB X RX12 cX12_isWhole (some .boolean) 2) : ∀ pc, amOK X pc (look a_X12_isWhole pc) := by
  have hT : amTok (XT X) := e1 ▸ TT_ok
  refine look_ok ?_
  unfold a_X12_isWhole
  refine fc (ok_iconst hB dX12_isWhole_0) ?_
  refine fc (ok_istore_n hB (by decide) dX12_isWhole_1) ?_
  refine fc (ok_iload_n hB dX12_isWhole_2) ?_
  refine fc (ok_aload_n hB dX12_isWhole_3) ?_
  refine fc (ok_getI hB hT fl_X12_263 rfl rfl (Or.inl af_12_32) dX12_isWhole_4) ?_
  refine fc (ok_icmp_ge hB (t := 35) (by decide) dX12_isWhole_7) ?_
  refine fc (ok_aload_n hB dX12_isWhole_10) ?_
  refine fc (okt_getR e1 hB hT fl_X12_52 rfl af_12_23 at_12_23 (by decide) dX12_isWhole_11) ?_
  refine fc (ok_iconst hB dX12_isWhole_14) ?_
  refine fc (ok_iload_n hB dX12_isWhole_15) ?_
  refine fc (ok_imul hB dX12_isWhole_16) ?_
  refine fc (ok_iconst hB dX12_isWhole_17) ?_
  refine fc (ok_iadd hB dX12_isWhole_18) ?_
  refine fc (okt_iaload e1 hB dX12_isWhole_19) ?_
  refine fc (ok_aload_n hB dX12_isWhole_20) ?_
  refine fc (ok_getI hB hT fl_X12_266 rfl rfl (Or.inl af_12_33) dX12_isWhole_21) ?_
  refine fc (ok_icmp_lt hB (t := 29) (by decide) dX12_isWhole_24) ?_
  refine fc (ok_iconst hB dX12_isWhole_27) ?_
  refine fc (ok_zret hB dX12_isWhole_28) ?_
  refine fc (ok_iinc hB (by decide) dX12_isWhole_29) ?_
  refine fc (ok_goto hB (t := 2) (by decide) dX12_isWhole_32) ?_
  refine fc (ok_aload_n hB dX12_isWhole_35) ?_
  refine fc (ok_getI hB hT fl_X12_260 rfl rfl (Or.inl af_12_31) dX12_isWhole_36) ?_
  refine fc (ok_if_le hB (t := 60) (by decide) dX12_isWhole_39) ?_
  refine fc (ok_aload_n hB dX12_isWhole_42) ?_
  refine fc (ok_getI hB hT fl_X12_263 rfl rfl (Or.inl af_12_32) dX12_isWhole_43) ?_
  refine fc (ok_if_le hB (t := 60) (by decide) dX12_isWhole_46) ?_
  refine fc (ok_aload_n hB dX12_isWhole_49) ?_
  refine fc (ok_getI hB hT fl_X12_266 rfl rfl (Or.inl af_12_33) dX12_isWhole_50) ?_
  refine fc (ok_if_le hB (t := 60) (by decide) dX12_isWhole_53) ?_
  refine fc (ok_iconst hB dX12_isWhole_56) ?_
  refine fc (ok_goto hB (t := 61) (by decide) dX12_isWhole_57) ?_
  refine fc (ok_iconst hB dX12_isWhole_60) ?_
  refine fc (ok_zret hB dX12_isWhole_61) ?_
  exact fn
def inv_mwh (σ : Mem) (c v : Int → Int) (n pc : Nat) (ls st : List AV) (σ' : Mem) : Prop := pc = 2 ∧ st = [] ∧ σ' = σ ∧ ∃ k : Nat, ls = [(28, 5000), (0, (k : Int))] ∧ (k : Int) + n = c 2 ∧ hTick v (c 3) k
def w_X12_isWhole : WP := fun av σ Q => av = [(28, 5000)] ∧ (∃ (m : Mem) (p f : Int) (c v : Int → Int), σ = hoN m p f c v ∧ cntB c ∧ rowB v ∧ (hWhole c v → Q (0, 1) σ) ∧ (¬ hWhole c v → Q (0, 0) σ))
theorem w_X12_isWhole_e  (σ : Mem) (Q : AV → Mem → Prop) : w_X12_isWhole [(28, 5000)] σ Q = (∃ (m : Mem) (p f : Int) (c v : Int → Int), σ = hoN m p f c v ∧ cntB c ∧ rowB v ∧ (hWhole c v → Q (0, 1) σ) ∧ (¬ hWhole c v → Q (0, 0) σ)) := by
  apply propext; constructor
  · rintro ⟨h9, hb9⟩; cases h9; exact hb9
  · intro hb9; exact ⟨rfl, hb9⟩

set_option maxRecDepth 100000 in
set_option maxHeartbeats 4000000 in
theorem s_X12_isWhole : ∀ av σ Q, w_X12_isWhole av σ Q → amCall 0 0 0 TT yX12_isWhole cX12_isWhole 2 (some .boolean) av σ Q := by
  rintro av σ Q ⟨rfl, m, p, f, c, v, hσ, hc, hv, h1, h2⟩
  have g1 := hc 1 (by decide) (by decide)
  have g2 := hc 2 (by decide) (by decide)
  have g3 := hc 3 (by decide) (by decide)
  have r1 : σ 5000 31 = c 1 := by rw [hσ]; exact ho_cc m p f c v (by decide)
  have r2 : σ 5000 32 = c 2 := by rw [hσ]; exact ho_cc m p f c v (by decide)
  have r3 : σ 5000 33 = c 3 := by rw [hσ]; exact ho_cc m p f c v (by decide)
  have rc : ∀ k : Int, 0 ≤ k → k < 6 → σ 5010 (3 * k + 1) = v ((5 + k) * 4 + 1) := fun k a b => by
    rw [hσ]; unfold hoN
    have e : slo 5010 (3 * k + 1) = (5 + k) * 4 + 1 := by
      unfold slo; rw [if_neg (by omega), if_neg (by omega), if_pos (by omega)]; omega
    rw [e, if_pos (by omega)]
  unfold hWhole at h1 h2
  refine am_m [2] (inv_mwh σ c v) (own := RX12) (A := look a_X12_isWhole) (fun X e1 e2 hB => o_X12_isWhole e1 e2 hB) rfl (by decide +kernel) rfl rfl ?_ ⟨60, ?_⟩ (w := 2)
  · rintro n pc ls st σ' ⟨rfl, rfl, rfl, k, rfl, hk, hh⟩
    refine ⟨60, ?_⟩
    by_cases cc : (k : Int) < c 2
    · have rk := rc k (by omega) (by omega)
      have vb := hv ((5 + (k : Int)) * 4 + 1) (by omega) (by omega)
      have i9 : v ((5 + (k : Int)) * 4 + 1) < c 3 → ∃ k', k' < n ∧ inv_mwh σ' c v k' 2 [(28, 5000), (0, (k : Int) + 1)] [] σ' := fun e => ⟨n - 1, by omega, rfl, rfl, rfl, k + 1, rfl, by omega, ⟨hh, e⟩⟩
      have q9 : ¬ v ((5 + (k : Int)) * 4 + 1) < c 3 → Q (0, 0) σ' := fun e => h2 (fun g => e (hTick_le _ _ _ (k + 1) (by omega) g.2.2.2).2)
      simp only [↓reduceIte, inR_0, inR_1, inR_m, vSw2_e, swP_n, swP_c, vI_e, vL_e, vNull_e, vIload_e, vLload_e, vAload_e, vIstore_e, vLstore_e, vAstore_e, vIinc_e, vIadd_e, vIsub_e, vImul_e, vIand_e, vIor_e, vIxor_e, vIshl_e, vIshr_e, vIushr_e, vIdiv_e, vIrem_e, vLadd_e, vLsub_e, vLmul_e, vLand_e, vLor_e, vLxor_e, vLdiv_e, vLrem_e, vLushr_e, vLshl_e, vLcmp_e, vIneg_e, vI2l_e, vL2i_e, vI2b_e, vI2c_e, vDup_e, vPop_e, vDup2_e, vGoto_e, vIcEq_e, vIfEq_e, vIcNe_e, vIfNe_e, vIcLt_e, vIfLt_e, vIcGe_e, vIfGe_e, vIcGt_e, vIfGt_e, vIcLe_e, vIfLe_e, vNonnull_e, vSw_e, vGetI_e, vGetL_e, vGetR_e, vPutI_e, vPutZ_e, vPutL_e, vPutR_e, vIald_e, vIald_s, vLald_e, vBald_e, vBald_s, vAald_e, vIast_e, vLast_e, vBast_e, vAast_e, vAlen_e8, vAlen_e9, vAlen_e10, vAlen_e11, vAlen_e5, vAlen_e3, vGets_e, vCompact_e, vLdcS_e, vIret_e, vZret_e, vCret_e, vBret_e, vLret_e, vVret_e, vAret_e, vCallM_e0, vCallMV_e0, vCallS_e0, vCallSV_e0, vCallM_e1, vCallMV_e1, vCallS_e1, vCallSV_e1, vCallM_e2, vCallMV_e2, vCallS_e2, vCallSV_e2, vCallM_e3, vCallMV_e3, vCallS_e3, vCallSV_e3, vCallM_e4, vCallMV_e4, vCallS_e4, vCallSV_e4, vCallM_e5, vCallMV_e5, vCallS_e5, vCallSV_e5, vCallM_e6, vCallMV_e6, vCallS_e6, vCallSV_e6, vCallM_e7, vCallMV_e7, vCallS_e7, vCallSV_e7, vBad_e, vStrVal_e, vStrCod_e, vForm_e, vCallT_e0, vCallT_e1, vCallT_e2, vCopy_e, rf_0_0, rf_0_1, rf_0_2, rf_0_3, rf_0_4, rf_0_7, rf_0_10, rf_0_11, rf_0_12, rf_0_13, rf_0_14, rf_0_15, rf_0_16, rf_1_0, rf_3_0, rf_3_1, rf_6_0, rf_6_1, rf_9_0, rf_9_1, rf_9_3, rf_13_0, rf_13_1, rf_13_2, rf_16_0, rf_16_1, rf_16_2, rf_16_3, rf_21_0, rf_21_1, rf_21_2, rf_21_3, rf_26_0, rf_26_1, rf_26_2, rf_26_3, rf_26_4, rf_26_5, rf_26_6, rf_31_0, rf_31_2, rf_31_5, rf_31_6, rf_36_0, rf_36_1, rf_36_2, rf_36_3, rf_39_0, rf_39_1, rf_39_2, rf_41_0, rf_41_1, rf_41_2, rf_41_3, rf_5000_1, rf_5000_2, rf_5000_3, rf_5000_4, rf_5000_5, rf_5000_15, rf_5000_16, rf_5000_18, rf_5000_19, rf_5000_20, rf_5000_21, rf_5000_22, rf_5000_23, rf_5000_24, rf_5000_25, rf_5000_26, rf_5000_27, rf_5000_36, rf_5000_37, rf_5000_40, rf_5000_41, rf_5000_42, rf_5000_43, rf_5000_44, rf_5000_45, rf_5000_47, rf_5000_52, rf_5000_54, rf_5000_55, rf_100_0, rf_100_1, rf_103_0, rf_103_1, rf_106_0, rf_106_1, rf_109_0, rf_109_1, al_2, al_4, al_5, al_7, al_8, al_10, al_11, al_12, al_14, al_15, al_17, al_18, al_19, al_20, al_22, al_23, al_24, al_25, al_27, al_28, al_29, al_30, al_32, al_33, al_34, al_35, al_37, al_38, al_40, al_42, al_5001, al_5002, al_5003, al_5004, al_5005, al_5006, al_5007, al_5008, al_5009, al_5010, al_5011, al_5012, al_5013, al_5014, al_5015, al_5016, al_5017, al_5018, al_5019, al_5020, al_5021, al_5022, al_5023, al_5024, al_5025, al_5026, al_9000, al_101, al_102, al_104, al_105, al_107, al_108, al_110, al_111, vcs_e, lg_c0, lg_cs, lg_nil, set_c0, set_cs, okst_0, okst_s, acok_n, acok_c, List.contains_nil, List.contains_cons, Bool.or_false, Bool.false_or, Bool.false_eq_true, if_false, if_true, ite_self, ne_eq, true_and, and_true, not_false_eq_true, not_true_eq_false, false_imp_iff, true_imp_iff, Nat.ble_eq, Bool.and_eq_true, reduceCtorEq, or_false, false_or, or_true, true_or, false_and, and_false, and_self, Int.reduceLE, Int.reduceAdd, Int.reduceSub, Int.reduceMul, Int.reduceNeg, Int.reduceLT, Int.reduceEq, Int.reduceNe, Nat.reduceBEq, Nat.reduceBNe, Nat.reduceEqDiff, amCmp_in, amCmp_lt, amCmp_le, amCmp_gt, amCmp_ge, amCmp_eq, amCmp_ne, Nat.reduceLeDiff, Nat.reduceSub, Bool.and_true, Bool.true_and, Bool.and_self, Bool.or_true, Bool.true_or, isRf_3, isRf_4, isRf_5, isRf_8, isRf_9, isRf_10, isRf_11, isRf_15, isRf_16, isRf_17, isRf_18, isRf_19, isRf_20, isRf_21, isRf_22, isRf_23, isRf_24, isRf_25, isRf_26, isRf_27, isRf_28, k_X12_isWhole_0, k_X12_isWhole_1, k_X12_isWhole_2, k_X12_isWhole_3, k_X12_isWhole_4, k_X12_isWhole_7, k_X12_isWhole_10, k_X12_isWhole_11, k_X12_isWhole_14, k_X12_isWhole_15, k_X12_isWhole_16, k_X12_isWhole_17, k_X12_isWhole_18, k_X12_isWhole_19, k_X12_isWhole_20, k_X12_isWhole_21, k_X12_isWhole_24, k_X12_isWhole_27, k_X12_isWhole_28, k_X12_isWhole_29, k_X12_isWhole_32, k_X12_isWhole_35, k_X12_isWhole_36, k_X12_isWhole_39, k_X12_isWhole_42, k_X12_isWhole_43, k_X12_isWhole_46, k_X12_isWhole_49, k_X12_isWhole_50, k_X12_isWhole_53, k_X12_isWhole_56, k_X12_isWhole_57, k_X12_isWhole_60, k_X12_isWhole_61, r2, r3, rk]
      repeat' (first | apply And.intro | intro _)
      all_goals first | omega | exact absurd trivial (by assumption) | exact i9 (by omega) | exact q9 (by omega)
    · have ek : (c 2).toNat = k := by omega
      rw [ek] at h1 h2
      have q8 : c 1 ≠ 0 → c 2 ≠ 0 → c 3 ≠ 0 → Q (0, 1) σ' := fun a b d => h1 ⟨a, b, d, hh⟩
      have q9 : ¬ (c 1 ≠ 0 ∧ c 2 ≠ 0 ∧ c 3 ≠ 0) → Q (0, 0) σ' := fun a => h2 (fun g => a ⟨g.1, g.2.1, g.2.2.1⟩)
      simp only [↓reduceIte, inR_0, inR_1, inR_m, vSw2_e, swP_n, swP_c, vI_e, vL_e, vNull_e, vIload_e, vLload_e, vAload_e, vIstore_e, vLstore_e, vAstore_e, vIinc_e, vIadd_e, vIsub_e, vImul_e, vIand_e, vIor_e, vIxor_e, vIshl_e, vIshr_e, vIushr_e, vIdiv_e, vIrem_e, vLadd_e, vLsub_e, vLmul_e, vLand_e, vLor_e, vLxor_e, vLdiv_e, vLrem_e, vLushr_e, vLshl_e, vLcmp_e, vIneg_e, vI2l_e, vL2i_e, vI2b_e, vI2c_e, vDup_e, vPop_e, vDup2_e, vGoto_e, vIcEq_e, vIfEq_e, vIcNe_e, vIfNe_e, vIcLt_e, vIfLt_e, vIcGe_e, vIfGe_e, vIcGt_e, vIfGt_e, vIcLe_e, vIfLe_e, vNonnull_e, vSw_e, vGetI_e, vGetL_e, vGetR_e, vPutI_e, vPutZ_e, vPutL_e, vPutR_e, vIald_e, vIald_s, vLald_e, vBald_e, vBald_s, vAald_e, vIast_e, vLast_e, vBast_e, vAast_e, vAlen_e8, vAlen_e9, vAlen_e10, vAlen_e11, vAlen_e5, vAlen_e3, vGets_e, vCompact_e, vLdcS_e, vIret_e, vZret_e, vCret_e, vBret_e, vLret_e, vVret_e, vAret_e, vCallM_e0, vCallMV_e0, vCallS_e0, vCallSV_e0, vCallM_e1, vCallMV_e1, vCallS_e1, vCallSV_e1, vCallM_e2, vCallMV_e2, vCallS_e2, vCallSV_e2, vCallM_e3, vCallMV_e3, vCallS_e3, vCallSV_e3, vCallM_e4, vCallMV_e4, vCallS_e4, vCallSV_e4, vCallM_e5, vCallMV_e5, vCallS_e5, vCallSV_e5, vCallM_e6, vCallMV_e6, vCallS_e6, vCallSV_e6, vCallM_e7, vCallMV_e7, vCallS_e7, vCallSV_e7, vBad_e, vStrVal_e, vStrCod_e, vForm_e, vCallT_e0, vCallT_e1, vCallT_e2, vCopy_e, rf_0_0, rf_0_1, rf_0_2, rf_0_3, rf_0_4, rf_0_7, rf_0_10, rf_0_11, rf_0_12, rf_0_13, rf_0_14, rf_0_15, rf_0_16, rf_1_0, rf_3_0, rf_3_1, rf_6_0, rf_6_1, rf_9_0, rf_9_1, rf_9_3, rf_13_0, rf_13_1, rf_13_2, rf_16_0, rf_16_1, rf_16_2, rf_16_3, rf_21_0, rf_21_1, rf_21_2, rf_21_3, rf_26_0, rf_26_1, rf_26_2, rf_26_3, rf_26_4, rf_26_5, rf_26_6, rf_31_0, rf_31_2, rf_31_5, rf_31_6, rf_36_0, rf_36_1, rf_36_2, rf_36_3, rf_39_0, rf_39_1, rf_39_2, rf_41_0, rf_41_1, rf_41_2, rf_41_3, rf_5000_1, rf_5000_2, rf_5000_3, rf_5000_4, rf_5000_5, rf_5000_15, rf_5000_16, rf_5000_18, rf_5000_19, rf_5000_20, rf_5000_21, rf_5000_22, rf_5000_23, rf_5000_24, rf_5000_25, rf_5000_26, rf_5000_27, rf_5000_36, rf_5000_37, rf_5000_40, rf_5000_41, rf_5000_42, rf_5000_43, rf_5000_44, rf_5000_45, rf_5000_47, rf_5000_52, rf_5000_54, rf_5000_55, rf_100_0, rf_100_1, rf_103_0, rf_103_1, rf_106_0, rf_106_1, rf_109_0, rf_109_1, al_2, al_4, al_5, al_7, al_8, al_10, al_11, al_12, al_14, al_15, al_17, al_18, al_19, al_20, al_22, al_23, al_24, al_25, al_27, al_28, al_29, al_30, al_32, al_33, al_34, al_35, al_37, al_38, al_40, al_42, al_5001, al_5002, al_5003, al_5004, al_5005, al_5006, al_5007, al_5008, al_5009, al_5010, al_5011, al_5012, al_5013, al_5014, al_5015, al_5016, al_5017, al_5018, al_5019, al_5020, al_5021, al_5022, al_5023, al_5024, al_5025, al_5026, al_9000, al_101, al_102, al_104, al_105, al_107, al_108, al_110, al_111, vcs_e, lg_c0, lg_cs, lg_nil, set_c0, set_cs, okst_0, okst_s, acok_n, acok_c, List.contains_nil, List.contains_cons, Bool.or_false, Bool.false_or, Bool.false_eq_true, if_false, if_true, ite_self, ne_eq, true_and, and_true, not_false_eq_true, not_true_eq_false, false_imp_iff, true_imp_iff, Nat.ble_eq, Bool.and_eq_true, reduceCtorEq, or_false, false_or, or_true, true_or, false_and, and_false, and_self, Int.reduceLE, Int.reduceAdd, Int.reduceSub, Int.reduceMul, Int.reduceNeg, Int.reduceLT, Int.reduceEq, Int.reduceNe, Nat.reduceBEq, Nat.reduceBNe, Nat.reduceEqDiff, amCmp_in, amCmp_lt, amCmp_le, amCmp_gt, amCmp_ge, amCmp_eq, amCmp_ne, Nat.reduceLeDiff, Nat.reduceSub, Bool.and_true, Bool.true_and, Bool.and_self, Bool.or_true, Bool.true_or, isRf_3, isRf_4, isRf_5, isRf_8, isRf_9, isRf_10, isRf_11, isRf_15, isRf_16, isRf_17, isRf_18, isRf_19, isRf_20, isRf_21, isRf_22, isRf_23, isRf_24, isRf_25, isRf_26, isRf_27, isRf_28, k_X12_isWhole_0, k_X12_isWhole_1, k_X12_isWhole_2, k_X12_isWhole_3, k_X12_isWhole_4, k_X12_isWhole_7, k_X12_isWhole_10, k_X12_isWhole_11, k_X12_isWhole_14, k_X12_isWhole_15, k_X12_isWhole_16, k_X12_isWhole_17, k_X12_isWhole_18, k_X12_isWhole_19, k_X12_isWhole_20, k_X12_isWhole_21, k_X12_isWhole_24, k_X12_isWhole_27, k_X12_isWhole_28, k_X12_isWhole_29, k_X12_isWhole_32, k_X12_isWhole_35, k_X12_isWhole_36, k_X12_isWhole_39, k_X12_isWhole_42, k_X12_isWhole_43, k_X12_isWhole_46, k_X12_isWhole_49, k_X12_isWhole_50, k_X12_isWhole_53, k_X12_isWhole_56, k_X12_isWhole_57, k_X12_isWhole_60, k_X12_isWhole_61, r1, r2, r3]
      repeat' (first | apply And.intro | intro _)
      all_goals first | omega | exact absurd trivial (by assumption) | exact q8 (by omega) (by omega) (by omega) | exact q9 (by omega)
  · change vcs _ _ _ _ 60 0 [(28, 5000), (6, 0)] [] σ
    simp only [↓reduceIte, inR_0, inR_1, inR_m, vSw2_e, swP_n, swP_c, vI_e, vL_e, vNull_e, vIload_e, vLload_e, vAload_e, vIstore_e, vLstore_e, vAstore_e, vIinc_e, vIadd_e, vIsub_e, vImul_e, vIand_e, vIor_e, vIxor_e, vIshl_e, vIshr_e, vIushr_e, vIdiv_e, vIrem_e, vLadd_e, vLsub_e, vLmul_e, vLand_e, vLor_e, vLxor_e, vLdiv_e, vLrem_e, vLushr_e, vLshl_e, vLcmp_e, vIneg_e, vI2l_e, vL2i_e, vI2b_e, vI2c_e, vDup_e, vPop_e, vDup2_e, vGoto_e, vIcEq_e, vIfEq_e, vIcNe_e, vIfNe_e, vIcLt_e, vIfLt_e, vIcGe_e, vIfGe_e, vIcGt_e, vIfGt_e, vIcLe_e, vIfLe_e, vNonnull_e, vSw_e, vGetI_e, vGetL_e, vGetR_e, vPutI_e, vPutZ_e, vPutL_e, vPutR_e, vIald_e, vIald_s, vLald_e, vBald_e, vBald_s, vAald_e, vIast_e, vLast_e, vBast_e, vAast_e, vAlen_e8, vAlen_e9, vAlen_e10, vAlen_e11, vAlen_e5, vAlen_e3, vGets_e, vCompact_e, vLdcS_e, vIret_e, vZret_e, vCret_e, vBret_e, vLret_e, vVret_e, vAret_e, vCallM_e0, vCallMV_e0, vCallS_e0, vCallSV_e0, vCallM_e1, vCallMV_e1, vCallS_e1, vCallSV_e1, vCallM_e2, vCallMV_e2, vCallS_e2, vCallSV_e2, vCallM_e3, vCallMV_e3, vCallS_e3, vCallSV_e3, vCallM_e4, vCallMV_e4, vCallS_e4, vCallSV_e4, vCallM_e5, vCallMV_e5, vCallS_e5, vCallSV_e5, vCallM_e6, vCallMV_e6, vCallS_e6, vCallSV_e6, vCallM_e7, vCallMV_e7, vCallS_e7, vCallSV_e7, vBad_e, vStrVal_e, vStrCod_e, vForm_e, vCallT_e0, vCallT_e1, vCallT_e2, vCopy_e, rf_0_0, rf_0_1, rf_0_2, rf_0_3, rf_0_4, rf_0_7, rf_0_10, rf_0_11, rf_0_12, rf_0_13, rf_0_14, rf_0_15, rf_0_16, rf_1_0, rf_3_0, rf_3_1, rf_6_0, rf_6_1, rf_9_0, rf_9_1, rf_9_3, rf_13_0, rf_13_1, rf_13_2, rf_16_0, rf_16_1, rf_16_2, rf_16_3, rf_21_0, rf_21_1, rf_21_2, rf_21_3, rf_26_0, rf_26_1, rf_26_2, rf_26_3, rf_26_4, rf_26_5, rf_26_6, rf_31_0, rf_31_2, rf_31_5, rf_31_6, rf_36_0, rf_36_1, rf_36_2, rf_36_3, rf_39_0, rf_39_1, rf_39_2, rf_41_0, rf_41_1, rf_41_2, rf_41_3, rf_5000_1, rf_5000_2, rf_5000_3, rf_5000_4, rf_5000_5, rf_5000_15, rf_5000_16, rf_5000_18, rf_5000_19, rf_5000_20, rf_5000_21, rf_5000_22, rf_5000_23, rf_5000_24, rf_5000_25, rf_5000_26, rf_5000_27, rf_5000_36, rf_5000_37, rf_5000_40, rf_5000_41, rf_5000_42, rf_5000_43, rf_5000_44, rf_5000_45, rf_5000_47, rf_5000_52, rf_5000_54, rf_5000_55, rf_100_0, rf_100_1, rf_103_0, rf_103_1, rf_106_0, rf_106_1, rf_109_0, rf_109_1, al_2, al_4, al_5, al_7, al_8, al_10, al_11, al_12, al_14, al_15, al_17, al_18, al_19, al_20, al_22, al_23, al_24, al_25, al_27, al_28, al_29, al_30, al_32, al_33, al_34, al_35, al_37, al_38, al_40, al_42, al_5001, al_5002, al_5003, al_5004, al_5005, al_5006, al_5007, al_5008, al_5009, al_5010, al_5011, al_5012, al_5013, al_5014, al_5015, al_5016, al_5017, al_5018, al_5019, al_5020, al_5021, al_5022, al_5023, al_5024, al_5025, al_5026, al_9000, al_101, al_102, al_104, al_105, al_107, al_108, al_110, al_111, vcs_e, lg_c0, lg_cs, lg_nil, set_c0, set_cs, okst_0, okst_s, acok_n, acok_c, List.contains_nil, List.contains_cons, Bool.or_false, Bool.false_or, Bool.false_eq_true, if_false, if_true, ite_self, ne_eq, true_and, and_true, not_false_eq_true, not_true_eq_false, false_imp_iff, true_imp_iff, Nat.ble_eq, Bool.and_eq_true, reduceCtorEq, or_false, false_or, or_true, true_or, false_and, and_false, and_self, Int.reduceLE, Int.reduceAdd, Int.reduceSub, Int.reduceMul, Int.reduceNeg, Int.reduceLT, Int.reduceEq, Int.reduceNe, Nat.reduceBEq, Nat.reduceBNe, Nat.reduceEqDiff, amCmp_in, amCmp_lt, amCmp_le, amCmp_gt, amCmp_ge, amCmp_eq, amCmp_ne, Nat.reduceLeDiff, Nat.reduceSub, Bool.and_true, Bool.true_and, Bool.and_self, Bool.or_true, Bool.true_or, isRf_3, isRf_4, isRf_5, isRf_8, isRf_9, isRf_10, isRf_11, isRf_15, isRf_16, isRf_17, isRf_18, isRf_19, isRf_20, isRf_21, isRf_22, isRf_23, isRf_24, isRf_25, isRf_26, isRf_27, isRf_28, k_X12_isWhole_0, k_X12_isWhole_1, k_X12_isWhole_2, k_X12_isWhole_3, k_X12_isWhole_4, k_X12_isWhole_7, k_X12_isWhole_10, k_X12_isWhole_11, k_X12_isWhole_14, k_X12_isWhole_15, k_X12_isWhole_16, k_X12_isWhole_17, k_X12_isWhole_18, k_X12_isWhole_19, k_X12_isWhole_20, k_X12_isWhole_21, k_X12_isWhole_24, k_X12_isWhole_27, k_X12_isWhole_28, k_X12_isWhole_29, k_X12_isWhole_32, k_X12_isWhole_35, k_X12_isWhole_36, k_X12_isWhole_39, k_X12_isWhole_42, k_X12_isWhole_43, k_X12_isWhole_46, k_X12_isWhole_49, k_X12_isWhole_50, k_X12_isWhole_53, k_X12_isWhole_56, k_X12_isWhole_57, k_X12_isWhole_60, k_X12_isWhole_61]
    exact ⟨(c 2).toNat, rfl, rfl, rfl, 0, rfl, by omega, trivial⟩
/-! the reference reads a HOUSE -/
def cof (m : Mem) (k : Int) : Int := if k = 0 then m 5000 35 else m 5000 (30 + k)
def vof (m : Mem) (s : Int) : Int := if s < 2 then m 5006 s else if s < 4 then 0 else if s < 20 then m 5008 (s - 4) else if s < 44 then (if s % 4 = 3 then 0 else m 5010 (3 * ((s - 20) / 4) + s % 4)) else if s % 4 = 0 then m 5012 ((s - 44) / 4) else 0
theorem vof_slo (m : Mem) {b j : Int} (h : 0 ≤ slo b j) : vof m (slo b j) = m b j := by
  by_cases h1 : b = 5006 ∧ 0 ≤ j ∧ j < 2
  · have e : slo b j = j := by unfold slo; rw [if_pos h1]
    rw [e, h1.1]; unfold vof; rw [if_pos (by omega)]
  · by_cases h2 : b = 5008 ∧ 0 ≤ j ∧ j < 16
    · have e : slo b j = 4 + j := by unfold slo; rw [if_neg h1, if_pos h2]
      rw [e, h2.1]; unfold vof; rw [if_neg (by omega), if_neg (by omega), if_pos (by omega)]; congr 1; omega
    · by_cases h3 : b = 5010 ∧ 0 ≤ j ∧ j < 18
      · have e : slo b j = (5 + j / 3) * 4 + j % 3 := by unfold slo; rw [if_neg h1, if_neg h2, if_pos h3]
        rw [e, h3.1]; unfold vof; rw [if_neg (by omega), if_neg (by omega), if_neg (by omega), if_pos (by omega), if_neg (by omega)]; congr 1; omega
      · by_cases h4 : b = 5012 ∧ 0 ≤ j ∧ j < 6
        · have e : slo b j = (11 + j) * 4 := by unfold slo; rw [if_neg h1, if_neg h2, if_neg h3, if_pos h4]
          rw [e, h4.1]; unfold vof; rw [if_neg (by omega), if_neg (by omega), if_neg (by omega), if_neg (by omega), if_pos (by omega)]; congr 1; omega
        · have e : slo b j = -1 := by unfold slo; rw [if_neg h1, if_neg h2, if_neg h3, if_neg h4]
          omega
theorem ho_id {m : Mem} {p f : Int} (h1 : m 5000 10 = p) (h2 : m 5000 11 = f) : hoN m p f (cof m) (vof m) = m := by
  funext b j; unfold hoN
  by_cases h : 0 ≤ slo b j
  · rw [if_pos h, vof_slo m h]
  · rw [if_neg h]
    by_cases h3 : b = 5000 ∧ 31 ≤ j ∧ j ≤ 33
    · rw [if_pos h3, h3.1]; unfold cof; rw [if_neg (by omega)]; congr 1; omega
    · rw [if_neg h3]
      by_cases h4 : b = 5000 ∧ j = 35
      · rw [if_pos h4, h4.1, h4.2]; unfold cof; rw [if_pos rfl]
      · rw [if_neg h4, ← h1, ← h2, rd_id]
theorem ho_cg {m : Mem} {p f : Int} {c c' v : Int → Int} (h : ∀ k, 0 ≤ k → k < 4 → c' k = c k) : hoN m p f c' v = hoN m p f c v := by
  funext b j; unfold hoN
  by_cases h1 : 0 ≤ slo b j
  · rw [if_pos h1, if_pos h1]
  · rw [if_neg h1, if_neg h1]
    by_cases h3 : b = 5000 ∧ 31 ≤ j ∧ j ≤ 33
    · rw [if_pos h3, if_pos h3, h _ (by omega) (by omega)]
    · rw [if_neg h3, if_neg h3, h 0 (by decide) (by decide)]
theorem vof_ho {m : Mem} {p f : Int} {c v : Int → Int} (h : rowB v) : rowB (vof (hoN m p f c v)) := by
  have key : ∀ b j, 0 ≤ slo b j → hoN m p f c v b j = v (slo b j) := fun b j g => by unfold hoN; rw [if_pos g]
  intro s s0 s1
  unfold vof
  by_cases h1 : s < 2
  · rw [if_pos h1]
    have e : slo 5006 s = s := by unfold slo; rw [if_pos ⟨rfl, s0, h1⟩]
    rw [key _ _ (by omega), e]; exact h s s0 s1
  · rw [if_neg h1]
    by_cases h2 : s < 4
    · rw [if_pos h2]; omega
    · rw [if_neg h2]
      by_cases h3 : s < 20
      · rw [if_pos h3]
        have e : slo 5008 (s - 4) = s := by unfold slo; rw [if_neg (by omega), if_pos ⟨rfl, by omega, by omega⟩]; omega
        rw [key _ _ (by omega), e]; exact h s s0 s1
      · rw [if_neg h3]
        by_cases h4 : s < 44
        · rw [if_pos h4]
          by_cases h5 : s % 4 = 3
          · rw [if_pos h5]; omega
          · rw [if_neg h5]
            have e : slo 5010 (3 * ((s - 20) / 4) + s % 4) = s := by unfold slo; rw [if_neg (by omega), if_neg (by omega), if_pos ⟨rfl, by omega, by omega⟩]; omega
            rw [key _ _ (by omega), e]; exact h s s0 s1
        · rw [if_neg h4]
          by_cases h5 : s % 4 = 0
          · rw [if_pos h5]
            have e : slo 5012 ((s - 44) / 4) = s := by unfold slo; rw [if_neg (by omega), if_neg (by omega), if_neg (by omega), if_pos ⟨rfl, by omega, by omega⟩]; omega
            rw [key _ _ (by omega), e]; exact h s s0 s1
          · rw [if_neg h5]; omega
/-- what reading a HOUSE may change -/
def HRF (σ τ : Mem) : Prop := (∀ b, b ≠ 5000 → b ≠ 5006 → b ≠ 5008 → b ≠ 5010 → b ≠ 5012 → τ b = σ b) ∧ ∀ k, k ≠ 5 → (k < 8 ∨ 12 < k) → (k < 31 ∨ 33 < k) → k ≠ 35 → τ 5000 k = σ 5000 k
theorem HRF_ho (σ : Mem) (a b n p f : Int) (c v : Int → Int) : HRF σ (hoN (stsM σ a b n) p f c v) := by
  have eo : ∀ c, c ≠ 5000 → stsM σ a b n c = σ c := fun c hc => by unfold stsM; simp only [up_na _ hc]
  refine ⟨fun x h1 h2 h3 h4 h5 => ?_, fun k h1 h2 h3 h4 => ?_⟩
  · rw [ho_o _ _ _ _ _ h1 h2 h3 h4 h5, eo x h1]
  · rw [ho_k _ _ _ _ _ ⟨h3, h4⟩, rd_o _ _ _ _ (by omega)]
    unfold stsM
    rw [up_nj _ (by omega), up_nj _ (by omega), up_nj _ (by omega), up_nj _ (by omega), up_nj _ (by omega)]
theorem mtx_nn {m : Mem} (h : txOk m) {i : Int} (h0 : 0 ≤ i) (h1 : i ≤ m 5000 9) (e : mtx m i = -1) : i = m 5000 9 := by
  by_cases c : i < m 5000 9
  · have := (mtx_in h h0 c).1; omega
  · omega
theorem vof_c {m m' : Mem} (h1 : m' 5006 = m 5006) (h2 : m' 5008 = m 5008) (h3 : m' 5010 = m 5010) (h4 : m' 5012 = m 5012) : vof m' = vof m := by
  funext s; unfold vof; rw [h1, h2, h3, h4]
theorem ho_sl (m : Mem) (p f : Int) (c v : Int → Int) {b j : Int} (h : 0 ≤ slo b j) : hoN m p f c v b j = v (slo b j) := by unfold hoN; rw [if_pos h]
theorem hIt_e {t : Int → Int} {n kind row : Int} (ht : ∀ i, n ≤ i → t i = -1) : ∀ (f : Nat) (told p : Int) (v : Int → Int), 0 ≤ p → p ≤ n → (hIt t n kind row f told p v).1 = -1 → (t (sk t n (hIt t n kind row f told p v).2.1) = -1 ∨ t (sk t n (hIt t n kind row f told p v).2.1) = 59) := by
  intro f
  induction f with
  | zero => intro told p v h0 h1 h; unfold hIt at h; dsimp only at h; omega
  | succ f ih =>
    intro told p v h0 h1 h
    have s1 := sk_b t h1
    have ss := sk_sk t h1
    unfold hIt at h ⊢
    by_cases c1 : t (sk t n p) = -1 ∨ t (sk t n p) = 59
    · rw [if_pos c1]; dsimp only; rw [ss]; exact c1
    · rw [if_neg c1] at h ⊢
      have s2 := sk_lt ht (q := sk t n p) (by omega)
      have s3 := sk_b t (n := n) (p := sk t n p + 1) (by omega)
      have s4 := ndig_le ht 2 (sk t n (sk t n p + 1)) (by omega)
      have s5 := ndig_bd t 2 (sk t n (sk t n p + 1))
      by_cases c2 : itemF kind (t (sk t n p)) = -1 ∨ told / (2 ^ (itemF kind (t (sk t n p))).toNat) % 2 = 1
      · rw [if_pos c2] at h; dsimp only at h; omega
      · rw [if_neg c2] at h ⊢
        by_cases c3 : ndig t (sk t n (sk t n p + 1)) 2 = 0 ∨ (48 ≤ t (sk t n (sk t n p + 1) + ndig t (sk t n (sk t n p + 1)) 2) ∧ t (sk t n (sk t n p + 1) + ndig t (sk t n (sk t n p + 1)) 2) ≤ 57)
        · rw [if_pos c3] at h; dsimp only at h; omega
        · rw [if_neg c3] at h ⊢
          by_cases c4 : fitF kind (itemF kind (t (sk t n p))) (nval t (sk t n (sk t n p + 1)) 0 2)
          · rw [if_pos c4] at h ⊢
            exact ih _ _ _ (by omega) (by omega) h
          · rw [if_neg c4] at h; dsimp only at h; omega

theorem wd_1515 : Cond.methodLink RX12 281 yX12_readClause ∈ TBL := tb_tab (List.mem_of_getElem? (i := 1515) (by decide +kernel)) rfl
theorem wd_1518 : Cond.code yX12_readClause cX12_readClause 3 (none) ∈ TBL := tb_tab (List.mem_of_getElem? (i := 1518) (by decide +kernel)) rfl
theorem lk_X12_281 : amLk RX12 281 yX12_readClause cX12_readClause 3 (none) 0 := ⟨wd_1515, wd_12, wd_1518, by decide +kernel, by decide +kernel, by decide⟩
theorem wd_1517 : Cond.instanceMethod yX12_readClause ∈ TBL := tb_tab (List.mem_of_getElem? (i := 1517) (by decide +kernel)) rfl
theorem sl_X12_readClause : Cond.selects RX12 yX12_readClause yX12_readClause ∈ TBL := tb_sel (List.mem_of_getElem? (i := 50) (by decide +kernel)) rfl
theorem wd_1561 : Cond.methodLink RX12 284 yX12_isWhole ∈ TBL := tb_tab (List.mem_of_getElem? (i := 1561) (by decide +kernel)) rfl
theorem wd_1564 : Cond.code yX12_isWhole cX12_isWhole 2 (some .boolean) ∈ TBL := tb_tab (List.mem_of_getElem? (i := 1564) (by decide +kernel)) rfl
theorem lk_X12_284 : amLk RX12 284 yX12_isWhole cX12_isWhole 2 (some .boolean) 0 := ⟨wd_1561, wd_12, wd_1564, by decide +kernel, by decide +kernel, by decide⟩
theorem wd_1563 : Cond.instanceMethod yX12_isWhole ∈ TBL := tb_tab (List.mem_of_getElem? (i := 1563) (by decide +kernel)) rfl
theorem sl_X12_isWhole : Cond.selects RX12 yX12_isWhole yX12_isWhole ∈ TBL := tb_sel (List.mem_of_getElem? (i := 57) (by decide +kernel)) rfl
def a_X12_readHouse : AC := [(0, vAload 0 1), (1, vAload 0 2), (2, vGetR TT 28 1 10 5), (5, vI 0 6), (6, vAload 0 7), (7, vGetI 28 6 10), (10, vCallMV w_X12_starts 28 3 13), (13, vAload 0 14), (14, vI 0 15), (15, vPutI 28 31 18), (18, vAload 0 19), (19, vI 0 20), (20, vPutI 28 32 23), (23, vAload 0 24), (24, vI 0 25), (25, vPutI 28 33 28), (28, vAload 0 29), (29, vI 0 30), (30, vPutZ 28 35 33), (33, vI 0 34), (34, vIstore 1 35), (35, vIload 1 36), (36, vI 2 37), (37, vIcGe 58 40), (40, vAload 0 41), (41, vGetR TT 28 19 8 44), (44, vIload 1 45), (45, vI 115 47), (47, vIload 1 48), (48, vCallS w_X12_usual 2 51), (51, vIast TT 52), (52, vIinc 1 1 55), (55, vGoto 35), (58, vI 1 59), (59, vIstore 1 60), (60, vIload 1 61), (61, vIfEq 116 64), (64, vAload 0 65), (65, vGetI 28 11 68), (68, vI (-1) 69), (69, vIcNe 116 72), (72, vAload 0 73), (73, vCallMV w_X12_readClause 28 0 76), (76, vAload 0 77), (77, vGetI 28 11 80), (80, vI (-1) 81), (81, vIcNe 97 84), (84, vAload 0 85), (85, vCallM w_X12_look 28 0 88), (88, vI 59 90), (90, vIcNe 97 93), (93, vI 1 94), (94, vGoto 98), (97, vI 0 98), (98, vIstore 1 99), (99, vIload 1 100), (100, vIfEq 60 103), (103, vAload 0 104), (104, vDup 105), (105, vGetI 28 10 108), (108, vI 1 109), (109, vIadd 110), (110, vPutI 28 10 113), (113, vGoto 60), (116, vAload 0 117), (117, vGetI 28 11 120), (120, vI (-1) 121), (121, vIcNe 144 124), (124, vAload 0 125), (125, vCallM w_X12_look 28 0 128), (128, vI (-1) 129), (129, vIcNe 139 132), (132, vAload 0 133), (133, vCallM w_X12_isWhole 28 0 136), (136, vIfNe 144 139), (139, vAload 0 140), (140, vCallM w_X12_fails 28 0 143), (143, vPop 144), (144, vVret)]
theorem k_X12_readHouse_0 : look a_X12_readHouse 0 = vAload 0 1 := rfl
theorem k_X12_readHouse_1 : look a_X12_readHouse 1 = vAload 0 2 := rfl
theorem k_X12_readHouse_2 : look a_X12_readHouse 2 = vGetR TT 28 1 10 5 := rfl
theorem k_X12_readHouse_5 : look a_X12_readHouse 5 = vI 0 6 := rfl
theorem k_X12_readHouse_6 : look a_X12_readHouse 6 = vAload 0 7 := rfl
theorem k_X12_readHouse_7 : look a_X12_readHouse 7 = vGetI 28 6 10 := rfl
theorem k_X12_readHouse_10 : look a_X12_readHouse 10 = vCallMV w_X12_starts 28 3 13 := rfl
theorem k_X12_readHouse_13 : look a_X12_readHouse 13 = vAload 0 14 := rfl
theorem k_X12_readHouse_14 : look a_X12_readHouse 14 = vI 0 15 := rfl
theorem k_X12_readHouse_15 : look a_X12_readHouse 15 = vPutI 28 31 18 := rfl
theorem k_X12_readHouse_18 : look a_X12_readHouse 18 = vAload 0 19 := rfl
theorem k_X12_readHouse_19 : look a_X12_readHouse 19 = vI 0 20 := rfl
theorem k_X12_readHouse_20 : look a_X12_readHouse 20 = vPutI 28 32 23 := rfl
theorem k_X12_readHouse_23 : look a_X12_readHouse 23 = vAload 0 24 := rfl
theorem k_X12_readHouse_24 : look a_X12_readHouse 24 = vI 0 25 := rfl
theorem k_X12_readHouse_25 : look a_X12_readHouse 25 = vPutI 28 33 28 := rfl
theorem k_X12_readHouse_28 : look a_X12_readHouse 28 = vAload 0 29 := rfl
theorem k_X12_readHouse_29 : look a_X12_readHouse 29 = vI 0 30 := rfl
theorem k_X12_readHouse_30 : look a_X12_readHouse 30 = vPutZ 28 35 33 := rfl
theorem k_X12_readHouse_33 : look a_X12_readHouse 33 = vI 0 34 := rfl
theorem k_X12_readHouse_34 : look a_X12_readHouse 34 = vIstore 1 35 := rfl
theorem k_X12_readHouse_35 : look a_X12_readHouse 35 = vIload 1 36 := rfl
theorem k_X12_readHouse_36 : look a_X12_readHouse 36 = vI 2 37 := rfl
theorem k_X12_readHouse_37 : look a_X12_readHouse 37 = vIcGe 58 40 := rfl
theorem k_X12_readHouse_40 : look a_X12_readHouse 40 = vAload 0 41 := rfl
theorem k_X12_readHouse_41 : look a_X12_readHouse 41 = vGetR TT 28 19 8 44 := rfl
theorem k_X12_readHouse_44 : look a_X12_readHouse 44 = vIload 1 45 := rfl
theorem k_X12_readHouse_45 : look a_X12_readHouse 45 = vI 115 47 := rfl
theorem k_X12_readHouse_47 : look a_X12_readHouse 47 = vIload 1 48 := rfl
theorem k_X12_readHouse_48 : look a_X12_readHouse 48 = vCallS w_X12_usual 2 51 := rfl
theorem k_X12_readHouse_51 : look a_X12_readHouse 51 = vIast TT 52 := rfl
theorem k_X12_readHouse_52 : look a_X12_readHouse 52 = vIinc 1 1 55 := rfl
theorem k_X12_readHouse_55 : look a_X12_readHouse 55 = vGoto 35 := rfl
theorem k_X12_readHouse_58 : look a_X12_readHouse 58 = vI 1 59 := rfl
theorem k_X12_readHouse_59 : look a_X12_readHouse 59 = vIstore 1 60 := rfl
theorem k_X12_readHouse_60 : look a_X12_readHouse 60 = vIload 1 61 := rfl
theorem k_X12_readHouse_61 : look a_X12_readHouse 61 = vIfEq 116 64 := rfl
theorem k_X12_readHouse_64 : look a_X12_readHouse 64 = vAload 0 65 := rfl
theorem k_X12_readHouse_65 : look a_X12_readHouse 65 = vGetI 28 11 68 := rfl
theorem k_X12_readHouse_68 : look a_X12_readHouse 68 = vI (-1) 69 := rfl
theorem k_X12_readHouse_69 : look a_X12_readHouse 69 = vIcNe 116 72 := rfl
theorem k_X12_readHouse_72 : look a_X12_readHouse 72 = vAload 0 73 := rfl
theorem k_X12_readHouse_73 : look a_X12_readHouse 73 = vCallMV w_X12_readClause 28 0 76 := rfl
theorem k_X12_readHouse_76 : look a_X12_readHouse 76 = vAload 0 77 := rfl
theorem k_X12_readHouse_77 : look a_X12_readHouse 77 = vGetI 28 11 80 := rfl
theorem k_X12_readHouse_80 : look a_X12_readHouse 80 = vI (-1) 81 := rfl
theorem k_X12_readHouse_81 : look a_X12_readHouse 81 = vIcNe 97 84 := rfl
theorem k_X12_readHouse_84 : look a_X12_readHouse 84 = vAload 0 85 := rfl
theorem k_X12_readHouse_85 : look a_X12_readHouse 85 = vCallM w_X12_look 28 0 88 := rfl
theorem k_X12_readHouse_88 : look a_X12_readHouse 88 = vI 59 90 := rfl
theorem k_X12_readHouse_90 : look a_X12_readHouse 90 = vIcNe 97 93 := rfl
theorem k_X12_readHouse_93 : look a_X12_readHouse 93 = vI 1 94 := rfl
theorem k_X12_readHouse_94 : look a_X12_readHouse 94 = vGoto 98 := rfl
theorem k_X12_readHouse_97 : look a_X12_readHouse 97 = vI 0 98 := rfl
theorem k_X12_readHouse_98 : look a_X12_readHouse 98 = vIstore 1 99 := rfl
theorem k_X12_readHouse_99 : look a_X12_readHouse 99 = vIload 1 100 := rfl
theorem k_X12_readHouse_100 : look a_X12_readHouse 100 = vIfEq 60 103 := rfl
theorem k_X12_readHouse_103 : look a_X12_readHouse 103 = vAload 0 104 := rfl
theorem k_X12_readHouse_104 : look a_X12_readHouse 104 = vDup 105 := rfl
theorem k_X12_readHouse_105 : look a_X12_readHouse 105 = vGetI 28 10 108 := rfl
theorem k_X12_readHouse_108 : look a_X12_readHouse 108 = vI 1 109 := rfl
theorem k_X12_readHouse_109 : look a_X12_readHouse 109 = vIadd 110 := rfl
theorem k_X12_readHouse_110 : look a_X12_readHouse 110 = vPutI 28 10 113 := rfl
theorem k_X12_readHouse_113 : look a_X12_readHouse 113 = vGoto 60 := rfl
theorem k_X12_readHouse_116 : look a_X12_readHouse 116 = vAload 0 117 := rfl
theorem k_X12_readHouse_117 : look a_X12_readHouse 117 = vGetI 28 11 120 := rfl
theorem k_X12_readHouse_120 : look a_X12_readHouse 120 = vI (-1) 121 := rfl
theorem k_X12_readHouse_121 : look a_X12_readHouse 121 = vIcNe 144 124 := rfl
theorem k_X12_readHouse_124 : look a_X12_readHouse 124 = vAload 0 125 := rfl
theorem k_X12_readHouse_125 : look a_X12_readHouse 125 = vCallM w_X12_look 28 0 128 := rfl
theorem k_X12_readHouse_128 : look a_X12_readHouse 128 = vI (-1) 129 := rfl
theorem k_X12_readHouse_129 : look a_X12_readHouse 129 = vIcNe 139 132 := rfl
theorem k_X12_readHouse_132 : look a_X12_readHouse 132 = vAload 0 133 := rfl
theorem k_X12_readHouse_133 : look a_X12_readHouse 133 = vCallM w_X12_isWhole 28 0 136 := rfl
theorem k_X12_readHouse_136 : look a_X12_readHouse 136 = vIfNe 144 139 := rfl
theorem k_X12_readHouse_139 : look a_X12_readHouse 139 = vAload 0 140 := rfl
theorem k_X12_readHouse_140 : look a_X12_readHouse 140 = vCallM w_X12_fails 28 0 143 := rfl
theorem k_X12_readHouse_143 : look a_X12_readHouse 143 = vPop 144 := rfl
theorem k_X12_readHouse_144 : look a_X12_readHouse 144 = vVret := rfl
theorem o_X12_readHouse {X : amX} (e1 : XT X = TT) (e2 : XD X = 7) (hB : amB X RX12 cX12_readHouse (none) 2) : ∀ pc, amOK X pc (look a_X12_readHouse pc) := by
  have hT : amTok (XT X) := e1 ▸ TT_ok
  refine look_ok ?_
  unfold a_X12_readHouse
  refine fc (ok_aload_n hB dX12_readHouse_0) ?_
  refine fc (ok_aload_n hB dX12_readHouse_1) ?_
  refine fc (okt_getR e1 hB hT fl_X12_9 rfl af_12_1 at_12_1 (by decide) dX12_readHouse_2) ?_
  refine fc (ok_iconst hB dX12_readHouse_5) ?_
  refine fc (ok_aload_n hB dX12_readHouse_6) ?_
  refine fc (ok_getI hB hT fl_X12_124 rfl rfl (Or.inl af_12_6) dX12_readHouse_7) ?_
  refine fc (ok_callMV hB hT (e1 ▸ s_X12_starts) lk_X12_222 (by rw [e2]; decide) (c := 12) rfl rfl rfl wd_1510 sl_X12_starts dX12_readHouse_10) ?_
  refine fc (ok_aload_n hB dX12_readHouse_13) ?_
  refine fc (ok_iconst hB dX12_readHouse_14) ?_
  refine fc (ok_putI hB hT fp_X12_260 rfl rfl rfl af_12_31 dX12_readHouse_15) ?_
  refine fc (ok_aload_n hB dX12_readHouse_18) ?_
  refine fc (ok_iconst hB dX12_readHouse_19) ?_
  refine fc (ok_putI hB hT fp_X12_263 rfl rfl rfl af_12_32 dX12_readHouse_20) ?_
  refine fc (ok_aload_n hB dX12_readHouse_23) ?_
  refine fc (ok_iconst hB dX12_readHouse_24) ?_
  refine fc (ok_putI hB hT fp_X12_266 rfl rfl rfl af_12_33 dX12_readHouse_25) ?_
  refine fc (ok_aload_n hB dX12_readHouse_28) ?_
  refine fc (ok_iconst hB dX12_readHouse_29) ?_
  refine fc (ok_putZ hB hT fp_X12_257 rfl rfl rfl af_12_35 dX12_readHouse_30) ?_
  refine fc (ok_iconst hB dX12_readHouse_33) ?_
  refine fc (ok_istore_n hB (by decide) dX12_readHouse_34) ?_
  refine fc (ok_iload_n hB dX12_readHouse_35) ?_
  refine fc (ok_iconst hB dX12_readHouse_36) ?_
  refine fc (ok_icmp_ge hB (t := 58) (by decide) dX12_readHouse_37) ?_
  refine fc (ok_aload_n hB dX12_readHouse_40) ?_
  refine fc (okt_getR e1 hB hT fl_X12_40 rfl af_12_19 at_12_19 (by decide) dX12_readHouse_41) ?_
  refine fc (ok_iload_n hB dX12_readHouse_44) ?_
  refine fc (ok_bipush hB dX12_readHouse_45 (by decide)) ?_
  refine fc (ok_iload_n hB dX12_readHouse_47) ?_
  refine fc (ok_callS hB (e1 ▸ s_X12_usual) lk_X12_236 (by rw [e2]; decide) wd_1513 dX12_readHouse_48) ?_
  refine fc (okt_iastore e1 hB dX12_readHouse_51) ?_
  refine fc (ok_iinc hB (by decide) dX12_readHouse_52) ?_
  refine fc (ok_goto hB (t := 35) (by decide) dX12_readHouse_55) ?_
  refine fc (ok_iconst hB dX12_readHouse_58) ?_
  refine fc (ok_istore_n hB (by decide) dX12_readHouse_59) ?_
  refine fc (ok_iload_n hB dX12_readHouse_60) ?_
  refine fc (ok_if_eq hB (t := 116) (by decide) dX12_readHouse_61) ?_
  refine fc (ok_aload_n hB dX12_readHouse_64) ?_
  refine fc (ok_getI hB hT fl_X12_143 rfl rfl (Or.inl af_12_11) dX12_readHouse_65) ?_
  refine fc (ok_iconst hB dX12_readHouse_68) ?_
  refine fc (ok_icmp_ne hB (t := 116) (by decide) dX12_readHouse_69) ?_
  refine fc (ok_aload_n hB dX12_readHouse_72) ?_
  refine fc (ok_callMV hB hT (e1 ▸ s_X12_readClause) lk_X12_281 (by rw [e2]; decide) (c := 12) rfl rfl rfl wd_1517 sl_X12_readClause dX12_readHouse_73) ?_
  refine fc (ok_aload_n hB dX12_readHouse_76) ?_
  refine fc (ok_getI hB hT fl_X12_143 rfl rfl (Or.inl af_12_11) dX12_readHouse_77) ?_
  refine fc (ok_iconst hB dX12_readHouse_80) ?_
  refine fc (ok_icmp_ne hB (t := 97) (by decide) dX12_readHouse_81) ?_
  refine fc (ok_aload_n hB dX12_readHouse_84) ?_
  refine fc (ok_callM hB hT (e1 ▸ s_X12_look) lk_X12_153 (by rw [e2]; decide) (c := 12) rfl rfl rfl wd_1521 sl_X12_look dX12_readHouse_85) ?_
  refine fc (ok_bipush hB dX12_readHouse_88 (by decide)) ?_
  refine fc (ok_icmp_ne hB (t := 97) (by decide) dX12_readHouse_90) ?_
  refine fc (ok_iconst hB dX12_readHouse_93) ?_
  refine fc (ok_goto hB (t := 98) (by decide) dX12_readHouse_94) ?_
  refine fc (ok_iconst hB dX12_readHouse_97) ?_
  refine fc (ok_istore_n hB (by decide) dX12_readHouse_98) ?_
  refine fc (ok_iload_n hB dX12_readHouse_99) ?_
  refine fc (ok_if_eq hB (t := 60) (by decide) dX12_readHouse_100) ?_
  refine fc (ok_aload_n hB dX12_readHouse_103) ?_
  refine fc (ok_dup hB dX12_readHouse_104) ?_
  refine fc (ok_getI hB hT fl_X12_134 rfl rfl (Or.inl af_12_10) dX12_readHouse_105) ?_
  refine fc (ok_iconst hB dX12_readHouse_108) ?_
  refine fc (ok_iadd hB dX12_readHouse_109) ?_
  refine fc (ok_putI hB hT fp_X12_134 rfl rfl rfl af_12_10 dX12_readHouse_110) ?_
  refine fc (ok_goto hB (t := 60) (by decide) dX12_readHouse_113) ?_
  refine fc (ok_aload_n hB dX12_readHouse_116) ?_
  refine fc (ok_getI hB hT fl_X12_143 rfl rfl (Or.inl af_12_11) dX12_readHouse_117) ?_
  refine fc (ok_iconst hB dX12_readHouse_120) ?_
  refine fc (ok_icmp_ne hB (t := 144) (by decide) dX12_readHouse_121) ?_
  refine fc (ok_aload_n hB dX12_readHouse_124) ?_
  refine fc (ok_callM hB hT (e1 ▸ s_X12_look) lk_X12_153 (by rw [e2]; decide) (c := 12) rfl rfl rfl wd_1521 sl_X12_look dX12_readHouse_125) ?_
  refine fc (ok_iconst hB dX12_readHouse_128) ?_
  refine fc (ok_icmp_ne hB (t := 139) (by decide) dX12_readHouse_129) ?_
  refine fc (ok_aload_n hB dX12_readHouse_132) ?_
  refine fc (ok_callM hB hT (e1 ▸ s_X12_isWhole) lk_X12_284 (by rw [e2]; decide) (c := 12) rfl rfl rfl wd_1563 sl_X12_isWhole dX12_readHouse_133) ?_
  refine fc (ok_if_ne hB (t := 144) (by decide) dX12_readHouse_136) ?_
  refine fc (ok_aload_n hB dX12_readHouse_139) ?_
  refine fc (ok_callM hB hT (e1 ▸ s_X12_fails) lk_X12_149 (by rw [e2]; decide) (c := 12) rfl rfl rfl wd_1525 sl_X12_fails dX12_readHouse_140) ?_
  refine fc (ok_pop hB dX12_readHouse_143) ?_
  refine fc (ok_vret hB dX12_readHouse_144) ?_
  exact fn
def inv_rho (m : Mem) (v0 : Int → Int) (R : Int × Int × (Int → Int) × (Int → Int)) (n pc : Nat) (ls st : List AV) (σ' : Mem) : Prop := st = [] ∧
  ((∃ j : Nat, pc = 35 ∧ ls = [(28, 5000), (0, (j : Int))] ∧ σ' = hoN m 0 (-1) (fun _ => 0) (flv v0 0 0 j) ∧ (j : Int) ≤ 2 ∧ (n : Int) = 2000 + 2 - j) ∨
   (∃ (f : Nat) (p : Int) (c v : Int → Int), pc = 60 ∧ n = 2 * f + 1 ∧ ls = [(28, 5000), (0, 1)] ∧ σ' = hoN m p (-1) c v ∧ 0 ≤ p ∧ p ≤ m 5000 9 ∧ m 5000 9 + 1 ≤ p + f ∧ cntB c ∧ c 0 ≤ 1 ∧ rowB v ∧ hCls (mtx m) (m 5000 9) f p c v = R) ∨
   (∃ (x q : Int) (c v : Int → Int), pc = 76 ∧ ls = [(28, 5000), (0, 1)] ∧ n = 1 ∧ σ' = hoN m q x c v ∧ 0 ≤ x ∧ x ≤ 250 ∧ rowB v ∧ R.1 = x) ∨
   (∃ (f : Nat) (p : Int) (c v : Int → Int), pc = 76 ∧ n = 2 * f + 2 ∧ ls = [(28, 5000), (0, 1)] ∧ σ' = hoN m p (-1) c v ∧ 0 ≤ p ∧ p ≤ m 5000 9 ∧ cntB c ∧ c 0 ≤ 1 ∧ rowB v ∧ (mtx m (sk (mtx m) (m 5000 9) p) = 59 → rowB v ∧ m 5000 9 ≤ sk (mtx m) (m 5000 9) p + f ∧ hCls (mtx m) (m 5000 9) f (sk (mtx m) (m 5000 9) p + 1) c v = R) ∧ (mtx m (sk (mtx m) (m 5000 9) p) = -1 → rowB v ∧ R.1 = hfin c v (m 5000 9) ∧ R.2.2 = (c, v)) ∧ (mtx m (sk (mtx m) (m 5000 9) p) ≠ 59 → mtx m (sk (mtx m) (m 5000 9) p) ≠ -1 → R.1 = sk (mtx m) (m 5000 9) p)) ∨
   (∃ (x q : Int) (c v : Int → Int), pc = 60 ∧ n = 0 ∧ ls = [(28, 5000), (0, 0)] ∧ σ' = hoN m q x c v ∧ 0 ≤ x ∧ x ≤ 250 ∧ rowB v ∧ R.1 = x) ∨
   (∃ (p : Int) (c v : Int → Int), pc = 60 ∧ n = 0 ∧ ls = [(28, 5000), (0, 0)] ∧ σ' = hoN m p (-1) c v ∧ 0 ≤ p ∧ p ≤ m 5000 9 ∧ cntB c ∧ rowB v ∧ sk (mtx m) (m 5000 9) p = p ∧ (mtx m p = -1 → rowB v ∧ R.1 = hfin c v (m 5000 9) ∧ R.2.2 = (c, v)) ∧ (mtx m p ≠ -1 → R.1 = p)))
def w_X12_readHouse : WP := fun av σ Q => av = [(28, 5000)] ∧ (txtOk σ 5001 0 (σ 5000 6) ∧ rowB (vof σ) ∧ (∀ τ, HRF σ τ → rowB (vof τ) → τ 5000 11 = (hCls (txt σ 5001 0 (σ 5000 6)) (σ 5000 6) 241 0 (fun _ => 0) (filv (vof σ) 0 0)).1 → ((hCls (txt σ 5001 0 (σ 5000 6)) (σ 5000 6) 241 0 (fun _ => 0) (filv (vof σ) 0 0)).1 = -1 → (∀ k, 1 ≤ k → k ≤ 3 → τ 5000 (30 + k) = (hCls (txt σ 5001 0 (σ 5000 6)) (σ 5000 6) 241 0 (fun _ => 0) (filv (vof σ) 0 0)).2.2.1 k) ∧ ∀ b j, 0 ≤ slo b j → τ b j = (hCls (txt σ 5001 0 (σ 5000 6)) (σ 5000 6) 241 0 (fun _ => 0) (filv (vof σ) 0 0)).2.2.2 (slo b j)) → Q (6, 0) τ))
theorem w_X12_readHouse_e  (σ : Mem) (Q : AV → Mem → Prop) : w_X12_readHouse [(28, 5000)] σ Q = (txtOk σ 5001 0 (σ 5000 6) ∧ rowB (vof σ) ∧ (∀ τ, HRF σ τ → rowB (vof τ) → τ 5000 11 = (hCls (txt σ 5001 0 (σ 5000 6)) (σ 5000 6) 241 0 (fun _ => 0) (filv (vof σ) 0 0)).1 → ((hCls (txt σ 5001 0 (σ 5000 6)) (σ 5000 6) 241 0 (fun _ => 0) (filv (vof σ) 0 0)).1 = -1 → (∀ k, 1 ≤ k → k ≤ 3 → τ 5000 (30 + k) = (hCls (txt σ 5001 0 (σ 5000 6)) (σ 5000 6) 241 0 (fun _ => 0) (filv (vof σ) 0 0)).2.2.1 k) ∧ ∀ b j, 0 ≤ slo b j → τ b j = (hCls (txt σ 5001 0 (σ 5000 6)) (σ 5000 6) 241 0 (fun _ => 0) (filv (vof σ) 0 0)).2.2.2 (slo b j)) → Q (6, 0) τ)) := by
  apply propext; constructor
  · rintro ⟨h9, hb9⟩; cases h9; exact hb9
  · intro hb9; exact ⟨rfl, hb9⟩

set_option maxRecDepth 100000 in
set_option maxHeartbeats 4000000 in
theorem s_X12_readHouse : ∀ av σ Q, w_X12_readHouse av σ Q → amCall 7 0 0 TT yX12_readHouse cX12_readHouse 2 (none) av σ Q := by
  rintro av σ Q ⟨rfl, htx, hv0, hq⟩
  obtain ⟨ht, em, e9⟩ := sts_tx htx
  have hH := HRF_ho σ 5001 0 (σ 5000 6)
  have eo : ∀ c, c ≠ 5000 → stsM σ 5001 0 (σ 5000 6) c = σ c := fun c hc => by unfold stsM; simp only [up_na _ hc]
  have ev : vof (stsM σ 5001 0 (σ 5000 6)) = vof σ := vof_c (eo _ (by decide)) (eo _ (by decide)) (eo _ (by decide)) (eo _ (by decide))
  generalize hR9 : hCls (txt σ 5001 0 (σ 5000 6)) (σ 5000 6) 241 0 (fun _ => 0) (filv (vof σ) 0 0) = R at hq
  have hid := ho_id (m := stsM σ 5001 0 (σ 5000 6)) (p := 0) (f := -1) rfl rfl
  rw [ev] at hid
  rw [← em] at hR9
  generalize hm : stsM σ 5001 0 (σ 5000 6) = m at *
  rw [← e9] at hR9
  generalize vof σ = v0 at *
  have n0 := ht.1
  have n1 := ht.2.1
  have hte := mtx_n ht
  have Mt : ∀ p f c v, mtx (hoN m p f c v) = mtx m := fun p f c v => (ho_tx ht p f c v).1
  have MtO : ∀ p f c v, txOk (hoN m p f c v) = True := fun p f c v => eq_true (ho_tx ht p f c v).2
  have u1 : ∀ p f c v x, up (hoN m p f c v) 5000 31 x = hoN m p f (upf c 1 x) v := fun p f c v x => ho_uc m p f x c v (by decide)
  have u2 : ∀ p f c v x, up (hoN m p f c v) 5000 32 x = hoN m p f (upf c 2 x) v := fun p f c v x => ho_uc m p f x c v (by decide)
  have u3 : ∀ p f c v x, up (hoN m p f c v) 5000 33 x = hoN m p f (upf c 3 x) v := fun p f c v x => ho_uc m p f x c v (by decide)
  have e0 : up (up (up (up m 5000 31 0) 5000 32 0) 5000 33 0) 5000 35 0 = hoN m 0 (-1) (fun _ => 0) v0 := by
    have := congrArg (fun x => up (up (up (up x 5000 31 0) 5000 32 0) 5000 33 0) 5000 35 0) hid
    dsimp only at this
    rw [u1, u2, u3, ho_u0] at this
    rw [← this]
    refine ho_cg (fun k h0 h1 => ?_)
    unfold upf; (repeat' split) <;> first | rfl | omega
  have fF : ∀ x q c v, rowB v → R.1 = x → 0 ≤ x → Q (6, 0) (hoN m q x c v) := fun x q c v vB e e1 => hq _ (hH _ _ _ _) (vof_ho vB) (by rw [ho_11, e]) (fun z => by omega)
  refine am_m [35, 60, 76] (inv_rho m v0 R) (own := RX12) (A := look a_X12_readHouse) (fun X e1 e2 hB => o_X12_readHouse e1 e2 hB) rfl (by decide +kernel) rfl rfl ?_ ⟨60, ?_⟩ (w := 2)
  · rintro n pc ls st σ' ⟨rfl, ⟨j, rfl, rfl, rfl, hj, hn⟩ | ⟨f, p, c, v, rfl, rfl, rfl, rfl, p0, p1, hf, hc, hc0, hv, hC⟩ | ⟨x, q, c, v, rfl, rfl, rfl, rfl, x0, x1, vB, hx⟩ | ⟨f, p, c, v, rfl, rfl, rfl, rfl, p0, p1, hc, hc0, vB, hA, hB, hD⟩ | ⟨x, q, c, v, rfl, rfl, rfl, rfl, x0, x1, vB, hx⟩ | ⟨p, c, v, rfl, rfl, rfl, rfl, p0, p1, hc, vB, hs, hB, hD⟩⟩
    · by_cases cj : (j : Int) < 2
      · have e8 : up (hoN m 0 (-1) (fun _ => 0) (flv v0 0 0 j)) 5006 j (usuV 115 j) = hoN m 0 (-1) (fun _ => 0) (flv v0 0 0 ((j : Int) + 1)) := by
          have h1 := ho_w (m := m) (p := 0) (f := -1) (c := fun _ => 0) (v := flv v0 0 0 j) (k := 0) (i := 0) (w := j) (x := usuV 115 j) (by decide) (by decide) (by decide) (by decide) (by omega) cj
          have h2 := (kvals' (k := 0) (w := j) (by decide) (by decide) (by omega) cj).2.2
          rw [show (0 : Int) * kln 0 + j = j by rw [Int.zero_mul, Int.zero_add], show kid 0 = 5006 from rfl] at h1
          rw [show kch 0 = 115 from rfl] at h2
          rw [h1, h2, flv_s v0 0 0 (by omega)]
        have i9 : ∃ k', k' < n ∧ inv_rho m v0 R k' 35 [(28, 5000), (0, (j : Int) + 1)] [] (hoN m 0 (-1) (fun _ => 0) (flv v0 0 0 ((j : Int) + 1))) := ⟨n - 1, by omega, rfl, Or.inl ⟨j + 1, rfl, rfl, rfl, by omega, by omega⟩⟩
        refine ⟨60, ?_⟩
        simp only [↓reduceIte, inR_0, inR_1, inR_m, vSw2_e, swP_n, swP_c, vI_e, vL_e, vNull_e, vIload_e, vLload_e, vAload_e, vIstore_e, vLstore_e, vAstore_e, vIinc_e, vIadd_e, vIsub_e, vImul_e, vIand_e, vIor_e, vIxor_e, vIshl_e, vIshr_e, vIushr_e, vIdiv_e, vIrem_e, vLadd_e, vLsub_e, vLmul_e, vLand_e, vLor_e, vLxor_e, vLdiv_e, vLrem_e, vLushr_e, vLshl_e, vLcmp_e, vIneg_e, vI2l_e, vL2i_e, vI2b_e, vI2c_e, vDup_e, vPop_e, vDup2_e, vGoto_e, vIcEq_e, vIfEq_e, vIcNe_e, vIfNe_e, vIcLt_e, vIfLt_e, vIcGe_e, vIfGe_e, vIcGt_e, vIfGt_e, vIcLe_e, vIfLe_e, vNonnull_e, vSw_e, vGetI_e, vGetL_e, vGetR_e, vPutI_e, vPutZ_e, vPutL_e, vPutR_e, vIald_e, vIald_s, vLald_e, vBald_e, vBald_s, vAald_e, vIast_e, vLast_e, vBast_e, vAast_e, vAlen_e8, vAlen_e9, vAlen_e10, vAlen_e11, vAlen_e5, vAlen_e3, vGets_e, vCompact_e, vLdcS_e, vIret_e, vZret_e, vCret_e, vBret_e, vLret_e, vVret_e, vAret_e, vCallM_e0, vCallMV_e0, vCallS_e0, vCallSV_e0, vCallM_e1, vCallMV_e1, vCallS_e1, vCallSV_e1, vCallM_e2, vCallMV_e2, vCallS_e2, vCallSV_e2, vCallM_e3, vCallMV_e3, vCallS_e3, vCallSV_e3, vCallM_e4, vCallMV_e4, vCallS_e4, vCallSV_e4, vCallM_e5, vCallMV_e5, vCallS_e5, vCallSV_e5, vCallM_e6, vCallMV_e6, vCallS_e6, vCallSV_e6, vCallM_e7, vCallMV_e7, vCallS_e7, vCallSV_e7, vBad_e, vStrVal_e, vStrCod_e, vForm_e, vCallT_e0, vCallT_e1, vCallT_e2, vCopy_e, rf_0_0, rf_0_1, rf_0_2, rf_0_3, rf_0_4, rf_0_7, rf_0_10, rf_0_11, rf_0_12, rf_0_13, rf_0_14, rf_0_15, rf_0_16, rf_1_0, rf_3_0, rf_3_1, rf_6_0, rf_6_1, rf_9_0, rf_9_1, rf_9_3, rf_13_0, rf_13_1, rf_13_2, rf_16_0, rf_16_1, rf_16_2, rf_16_3, rf_21_0, rf_21_1, rf_21_2, rf_21_3, rf_26_0, rf_26_1, rf_26_2, rf_26_3, rf_26_4, rf_26_5, rf_26_6, rf_31_0, rf_31_2, rf_31_5, rf_31_6, rf_36_0, rf_36_1, rf_36_2, rf_36_3, rf_39_0, rf_39_1, rf_39_2, rf_41_0, rf_41_1, rf_41_2, rf_41_3, rf_5000_1, rf_5000_2, rf_5000_3, rf_5000_4, rf_5000_5, rf_5000_15, rf_5000_16, rf_5000_18, rf_5000_19, rf_5000_20, rf_5000_21, rf_5000_22, rf_5000_23, rf_5000_24, rf_5000_25, rf_5000_26, rf_5000_27, rf_5000_36, rf_5000_37, rf_5000_40, rf_5000_41, rf_5000_42, rf_5000_43, rf_5000_44, rf_5000_45, rf_5000_47, rf_5000_52, rf_5000_54, rf_5000_55, rf_100_0, rf_100_1, rf_103_0, rf_103_1, rf_106_0, rf_106_1, rf_109_0, rf_109_1, al_2, al_4, al_5, al_7, al_8, al_10, al_11, al_12, al_14, al_15, al_17, al_18, al_19, al_20, al_22, al_23, al_24, al_25, al_27, al_28, al_29, al_30, al_32, al_33, al_34, al_35, al_37, al_38, al_40, al_42, al_5001, al_5002, al_5003, al_5004, al_5005, al_5006, al_5007, al_5008, al_5009, al_5010, al_5011, al_5012, al_5013, al_5014, al_5015, al_5016, al_5017, al_5018, al_5019, al_5020, al_5021, al_5022, al_5023, al_5024, al_5025, al_5026, al_9000, al_101, al_102, al_104, al_105, al_107, al_108, al_110, al_111, vcs_e, lg_c0, lg_cs, lg_nil, set_c0, set_cs, okst_0, okst_s, acok_n, acok_c, List.contains_nil, List.contains_cons, Bool.or_false, Bool.false_or, Bool.false_eq_true, if_false, if_true, ite_self, ne_eq, true_and, and_true, not_false_eq_true, not_true_eq_false, false_imp_iff, true_imp_iff, Nat.ble_eq, Bool.and_eq_true, reduceCtorEq, or_false, false_or, or_true, true_or, false_and, and_false, and_self, Int.reduceLE, Int.reduceAdd, Int.reduceSub, Int.reduceMul, Int.reduceNeg, Int.reduceLT, Int.reduceEq, Int.reduceNe, Nat.reduceBEq, Nat.reduceBNe, Nat.reduceEqDiff, amCmp_in, amCmp_lt, amCmp_le, amCmp_gt, amCmp_ge, amCmp_eq, amCmp_ne, Nat.reduceLeDiff, Nat.reduceSub, Bool.and_true, Bool.true_and, Bool.and_self, Bool.or_true, Bool.true_or, isRf_3, isRf_4, isRf_5, isRf_8, isRf_9, isRf_10, isRf_11, isRf_15, isRf_16, isRf_17, isRf_18, isRf_19, isRf_20, isRf_21, isRf_22, isRf_23, isRf_24, isRf_25, isRf_26, isRf_27, isRf_28, k_X12_readHouse_0, k_X12_readHouse_1, k_X12_readHouse_2, k_X12_readHouse_5, k_X12_readHouse_6, k_X12_readHouse_7, k_X12_readHouse_10, k_X12_readHouse_13, k_X12_readHouse_14, k_X12_readHouse_15, k_X12_readHouse_18, k_X12_readHouse_19, k_X12_readHouse_20, k_X12_readHouse_23, k_X12_readHouse_24, k_X12_readHouse_25, k_X12_readHouse_28, k_X12_readHouse_29, k_X12_readHouse_30, k_X12_readHouse_33, k_X12_readHouse_34, k_X12_readHouse_35, k_X12_readHouse_36, k_X12_readHouse_37, k_X12_readHouse_40, k_X12_readHouse_41, k_X12_readHouse_44, k_X12_readHouse_45, k_X12_readHouse_47, k_X12_readHouse_48, k_X12_readHouse_51, k_X12_readHouse_52, k_X12_readHouse_55, k_X12_readHouse_58, k_X12_readHouse_59, k_X12_readHouse_60, k_X12_readHouse_61, k_X12_readHouse_64, k_X12_readHouse_65, k_X12_readHouse_68, k_X12_readHouse_69, k_X12_readHouse_72, k_X12_readHouse_73, k_X12_readHouse_76, k_X12_readHouse_77, k_X12_readHouse_80, k_X12_readHouse_81, k_X12_readHouse_84, k_X12_readHouse_85, k_X12_readHouse_88, k_X12_readHouse_90, k_X12_readHouse_93, k_X12_readHouse_94, k_X12_readHouse_97, k_X12_readHouse_98, k_X12_readHouse_99, k_X12_readHouse_100, k_X12_readHouse_103, k_X12_readHouse_104, k_X12_readHouse_105, k_X12_readHouse_108, k_X12_readHouse_109, k_X12_readHouse_110, k_X12_readHouse_113, k_X12_readHouse_116, k_X12_readHouse_117, k_X12_readHouse_120, k_X12_readHouse_121, k_X12_readHouse_124, k_X12_readHouse_125, k_X12_readHouse_128, k_X12_readHouse_129, k_X12_readHouse_132, k_X12_readHouse_133, k_X12_readHouse_136, k_X12_readHouse_139, k_X12_readHouse_140, k_X12_readHouse_143, k_X12_readHouse_144, w_X12_fails_e, w_X12_isWhole_e, w_X12_look_e, w_X12_readClause_e, w_X12_starts_e, w_X12_usual_e, e8]
        repeat' (first | apply And.intro | intro _)
        all_goals first | omega | exact absurd trivial (by assumption) | exact i9 | exact ⟨by omega, by omega⟩
      · have ej : (j : Int) = kln 0 := by rw [show kln 0 = 2 from rfl]; omega
        have e2 : hoN m 0 (-1) (fun _ => 0) (flv v0 0 0 j) = hoN m 0 (-1) (fun _ => 0) (filv v0 0 0) := by rw [ej]; exact ho_fl (by decide) (by decide) (by decide) (by decide)
        have i9 : ∃ k', k' < n ∧ inv_rho m v0 R k' 60 [(28, 5000), (0, 1)] [] (hoN m 0 (-1) (fun _ => 0) (filv v0 0 0)) := ⟨2 * 241 + 1, by omega, rfl, Or.inr (Or.inl ⟨241, 0, fun _ => 0, filv v0 0 0, rfl, rfl, rfl, rfl, by decide, n0, by omega, fun k _ _ => ⟨by decide, by decide⟩, by decide, filv_B hv0 _ _, hR9⟩)⟩
        rw [e2]
        refine ⟨60, ?_⟩
        simp only [↓reduceIte, inR_0, inR_1, inR_m, vSw2_e, swP_n, swP_c, vI_e, vL_e, vNull_e, vIload_e, vLload_e, vAload_e, vIstore_e, vLstore_e, vAstore_e, vIinc_e, vIadd_e, vIsub_e, vImul_e, vIand_e, vIor_e, vIxor_e, vIshl_e, vIshr_e, vIushr_e, vIdiv_e, vIrem_e, vLadd_e, vLsub_e, vLmul_e, vLand_e, vLor_e, vLxor_e, vLdiv_e, vLrem_e, vLushr_e, vLshl_e, vLcmp_e, vIneg_e, vI2l_e, vL2i_e, vI2b_e, vI2c_e, vDup_e, vPop_e, vDup2_e, vGoto_e, vIcEq_e, vIfEq_e, vIcNe_e, vIfNe_e, vIcLt_e, vIfLt_e, vIcGe_e, vIfGe_e, vIcGt_e, vIfGt_e, vIcLe_e, vIfLe_e, vNonnull_e, vSw_e, vGetI_e, vGetL_e, vGetR_e, vPutI_e, vPutZ_e, vPutL_e, vPutR_e, vIald_e, vIald_s, vLald_e, vBald_e, vBald_s, vAald_e, vIast_e, vLast_e, vBast_e, vAast_e, vAlen_e8, vAlen_e9, vAlen_e10, vAlen_e11, vAlen_e5, vAlen_e3, vGets_e, vCompact_e, vLdcS_e, vIret_e, vZret_e, vCret_e, vBret_e, vLret_e, vVret_e, vAret_e, vCallM_e0, vCallMV_e0, vCallS_e0, vCallSV_e0, vCallM_e1, vCallMV_e1, vCallS_e1, vCallSV_e1, vCallM_e2, vCallMV_e2, vCallS_e2, vCallSV_e2, vCallM_e3, vCallMV_e3, vCallS_e3, vCallSV_e3, vCallM_e4, vCallMV_e4, vCallS_e4, vCallSV_e4, vCallM_e5, vCallMV_e5, vCallS_e5, vCallSV_e5, vCallM_e6, vCallMV_e6, vCallS_e6, vCallSV_e6, vCallM_e7, vCallMV_e7, vCallS_e7, vCallSV_e7, vBad_e, vStrVal_e, vStrCod_e, vForm_e, vCallT_e0, vCallT_e1, vCallT_e2, vCopy_e, rf_0_0, rf_0_1, rf_0_2, rf_0_3, rf_0_4, rf_0_7, rf_0_10, rf_0_11, rf_0_12, rf_0_13, rf_0_14, rf_0_15, rf_0_16, rf_1_0, rf_3_0, rf_3_1, rf_6_0, rf_6_1, rf_9_0, rf_9_1, rf_9_3, rf_13_0, rf_13_1, rf_13_2, rf_16_0, rf_16_1, rf_16_2, rf_16_3, rf_21_0, rf_21_1, rf_21_2, rf_21_3, rf_26_0, rf_26_1, rf_26_2, rf_26_3, rf_26_4, rf_26_5, rf_26_6, rf_31_0, rf_31_2, rf_31_5, rf_31_6, rf_36_0, rf_36_1, rf_36_2, rf_36_3, rf_39_0, rf_39_1, rf_39_2, rf_41_0, rf_41_1, rf_41_2, rf_41_3, rf_5000_1, rf_5000_2, rf_5000_3, rf_5000_4, rf_5000_5, rf_5000_15, rf_5000_16, rf_5000_18, rf_5000_19, rf_5000_20, rf_5000_21, rf_5000_22, rf_5000_23, rf_5000_24, rf_5000_25, rf_5000_26, rf_5000_27, rf_5000_36, rf_5000_37, rf_5000_40, rf_5000_41, rf_5000_42, rf_5000_43, rf_5000_44, rf_5000_45, rf_5000_47, rf_5000_52, rf_5000_54, rf_5000_55, rf_100_0, rf_100_1, rf_103_0, rf_103_1, rf_106_0, rf_106_1, rf_109_0, rf_109_1, al_2, al_4, al_5, al_7, al_8, al_10, al_11, al_12, al_14, al_15, al_17, al_18, al_19, al_20, al_22, al_23, al_24, al_25, al_27, al_28, al_29, al_30, al_32, al_33, al_34, al_35, al_37, al_38, al_40, al_42, al_5001, al_5002, al_5003, al_5004, al_5005, al_5006, al_5007, al_5008, al_5009, al_5010, al_5011, al_5012, al_5013, al_5014, al_5015, al_5016, al_5017, al_5018, al_5019, al_5020, al_5021, al_5022, al_5023, al_5024, al_5025, al_5026, al_9000, al_101, al_102, al_104, al_105, al_107, al_108, al_110, al_111, vcs_e, lg_c0, lg_cs, lg_nil, set_c0, set_cs, okst_0, okst_s, acok_n, acok_c, List.contains_nil, List.contains_cons, Bool.or_false, Bool.false_or, Bool.false_eq_true, if_false, if_true, ite_self, ne_eq, true_and, and_true, not_false_eq_true, not_true_eq_false, false_imp_iff, true_imp_iff, Nat.ble_eq, Bool.and_eq_true, reduceCtorEq, or_false, false_or, or_true, true_or, false_and, and_false, and_self, Int.reduceLE, Int.reduceAdd, Int.reduceSub, Int.reduceMul, Int.reduceNeg, Int.reduceLT, Int.reduceEq, Int.reduceNe, Nat.reduceBEq, Nat.reduceBNe, Nat.reduceEqDiff, amCmp_in, amCmp_lt, amCmp_le, amCmp_gt, amCmp_ge, amCmp_eq, amCmp_ne, Nat.reduceLeDiff, Nat.reduceSub, Bool.and_true, Bool.true_and, Bool.and_self, Bool.or_true, Bool.true_or, isRf_3, isRf_4, isRf_5, isRf_8, isRf_9, isRf_10, isRf_11, isRf_15, isRf_16, isRf_17, isRf_18, isRf_19, isRf_20, isRf_21, isRf_22, isRf_23, isRf_24, isRf_25, isRf_26, isRf_27, isRf_28, k_X12_readHouse_0, k_X12_readHouse_1, k_X12_readHouse_2, k_X12_readHouse_5, k_X12_readHouse_6, k_X12_readHouse_7, k_X12_readHouse_10, k_X12_readHouse_13, k_X12_readHouse_14, k_X12_readHouse_15, k_X12_readHouse_18, k_X12_readHouse_19, k_X12_readHouse_20, k_X12_readHouse_23, k_X12_readHouse_24, k_X12_readHouse_25, k_X12_readHouse_28, k_X12_readHouse_29, k_X12_readHouse_30, k_X12_readHouse_33, k_X12_readHouse_34, k_X12_readHouse_35, k_X12_readHouse_36, k_X12_readHouse_37, k_X12_readHouse_40, k_X12_readHouse_41, k_X12_readHouse_44, k_X12_readHouse_45, k_X12_readHouse_47, k_X12_readHouse_48, k_X12_readHouse_51, k_X12_readHouse_52, k_X12_readHouse_55, k_X12_readHouse_58, k_X12_readHouse_59, k_X12_readHouse_60, k_X12_readHouse_61, k_X12_readHouse_64, k_X12_readHouse_65, k_X12_readHouse_68, k_X12_readHouse_69, k_X12_readHouse_72, k_X12_readHouse_73, k_X12_readHouse_76, k_X12_readHouse_77, k_X12_readHouse_80, k_X12_readHouse_81, k_X12_readHouse_84, k_X12_readHouse_85, k_X12_readHouse_88, k_X12_readHouse_90, k_X12_readHouse_93, k_X12_readHouse_94, k_X12_readHouse_97, k_X12_readHouse_98, k_X12_readHouse_99, k_X12_readHouse_100, k_X12_readHouse_103, k_X12_readHouse_104, k_X12_readHouse_105, k_X12_readHouse_108, k_X12_readHouse_109, k_X12_readHouse_110, k_X12_readHouse_113, k_X12_readHouse_116, k_X12_readHouse_117, k_X12_readHouse_120, k_X12_readHouse_121, k_X12_readHouse_124, k_X12_readHouse_125, k_X12_readHouse_128, k_X12_readHouse_129, k_X12_readHouse_132, k_X12_readHouse_133, k_X12_readHouse_136, k_X12_readHouse_139, k_X12_readHouse_140, k_X12_readHouse_143, k_X12_readHouse_144, w_X12_fails_e, w_X12_isWhole_e, w_X12_look_e, w_X12_readClause_e, w_X12_starts_e, w_X12_usual_e]
        repeat' (first | apply And.intro | intro _)
        all_goals first | omega | exact absurd trivial (by assumption) | exact i9
    · obtain ⟨f', rfl⟩ : ∃ f', f = f' + 1 := ⟨f - 1, by omega⟩
      have s1 := sk_b (mtx m) p1
      have kb := kindF_b (mtx m (sk (mtx m) (m 5000 9) p))
      have kn := kindF_n (s := mtx m (sk (mtx m) (m 5000 9) p))
      unfold hCls at hC
      have ek : kindF (mtx m (sk (mtx m) (m 5000 9) p)) = hK (mtx m) (m 5000 9) p := rfl
      rw [ek] at kb kn
      have hrb : 0 ≤ hK (mtx m) (m 5000 9) p → -1 ≤ (hR (mtx m) (m 5000 9) p c v).1 ∧ (hR (mtx m) (m 5000 9) p c v).1 ≤ m 5000 9 ∧ sk (mtx m) (m 5000 9) p + 1 ≤ (hR (mtx m) (m 5000 9) p c v).2.1 ∧ (hR (mtx m) (m 5000 9) p c v).2.1 ≤ m 5000 9 ∧ rowB (hR (mtx m) (m 5000 9) p c v).2.2 := fun g => by
        have := sk_lt hte (kn g)
        exact hIt_b hte n0 5 0 _ _ (by omega) (by omega) (filv_B hv _ _)
      have hre : 0 ≤ hK (mtx m) (m 5000 9) p → (hR (mtx m) (m 5000 9) p c v).1 = -1 → (mtx m (sk (mtx m) (m 5000 9) (hR (mtx m) (m 5000 9) p c v).2.1) = -1 ∨ mtx m (sk (mtx m) (m 5000 9) (hR (mtx m) (m 5000 9) p c v).2.1) = 59) := fun g => by
        have := sk_lt hte (kn g)
        exact hIt_e hte 5 0 _ _ (by omega) (by omega)
      have mk := mostK_b (hK (mtx m) (m 5000 9) p)
      have jA : ¬ (0 ≤ hK (mtx m) (m 5000 9) p ∧ c (hK (mtx m) (m 5000 9) p) < mostK (hK (mtx m) (m 5000 9) p)) → ∃ k', k' < 2 * (f' + 1) + 1 ∧ inv_rho m v0 R k' 76 [(28, 5000), (0, 1)] [] (hoN m (sk (mtx m) (m 5000 9) p) (sk (mtx m) (m 5000 9) p) c v) := fun g =>
        ⟨1, by omega, rfl, Or.inr (Or.inr (Or.inl ⟨_, _, c, v, rfl, rfl, rfl, rfl, by omega, by omega, hv, by rw [if_neg g] at hC; rw [← hC]⟩))⟩
      have jB : 0 ≤ hK (mtx m) (m 5000 9) p → c (hK (mtx m) (m 5000 9) p) < mostK (hK (mtx m) (m 5000 9) p) → ((hR (mtx m) (m 5000 9) p c v).1 = -1 → ∃ k', k' < 2 * (f' + 1) + 1 ∧ inv_rho m v0 R k' 76 [(28, 5000), (0, 1)] [] (hoN m (hR (mtx m) (m 5000 9) p c v).2.1 (-1) (upf c (hK (mtx m) (m 5000 9) p) (c (hK (mtx m) (m 5000 9) p) + 1)) (hR (mtx m) (m 5000 9) p c v).2.2)) ∧ ((hR (mtx m) (m 5000 9) p c v).1 ≠ -1 → (∀ q v', rowB v' → ∃ k', k' < 2 * (f' + 1) + 1 ∧ inv_rho m v0 R k' 76 [(28, 5000), (0, 1)] [] (hoN m q (hR (mtx m) (m 5000 9) p c v).1 (upf c (hK (mtx m) (m 5000 9) p) (c (hK (mtx m) (m 5000 9) p) + 1)) v')) ∧ (∀ v', rowB v' → mtx m (hR (mtx m) (m 5000 9) p c v).1 ≠ -1 → mtx m (hR (mtx m) (m 5000 9) p c v).1 ≠ 59 → sk (mtx m) (m 5000 9) (hR (mtx m) (m 5000 9) p c v).1 = (hR (mtx m) (m 5000 9) p c v).1 → ∃ k', k' < 2 * (f' + 1) + 1 ∧ inv_rho m v0 R k' 76 [(28, 5000), (0, 1)] [] (hoN m (hR (mtx m) (m 5000 9) p c v).1 (-1) (upf c (hK (mtx m) (m 5000 9) p) (c (hK (mtx m) (m 5000 9) p) + 1)) v'))) := fun g g2 => by
        obtain ⟨b1, b2, b3, b4, b5⟩ := hrb g
        have he := hre g
        rw [if_pos ⟨g, g2⟩] at hC
        have hcb := hc _ g kb.2
        have hc' : cntB (upf c (hK (mtx m) (m 5000 9) p) (c (hK (mtx m) (m 5000 9) p) + 1)) := fun k a b => by
          unfold upf; split
          · omega
          · exact hc k a b
        have hc0' : upf c (hK (mtx m) (m 5000 9) p) (c (hK (mtx m) (m 5000 9) p) + 1) 0 ≤ 1 := by
          unfold upf; split
          · rename_i e0
            rw [← e0] at g2 ⊢
            have : mostK 0 = 1 := rfl
            omega
          · exact hc0
        refine ⟨fun e => ?_, fun e => ?_⟩
        · have he' := he e
          have s2 := sk_b (mtx m) b4
          rw [if_neg (fun z => z e)] at hC
          refine ⟨2 * f' + 2, by omega, rfl, Or.inr (Or.inr (Or.inr (Or.inl ⟨f', _, _, _, rfl, rfl, rfl, rfl, by omega, b4, hc', hc0', b5, fun z => ?_, fun z => ?_, fun z z2 => by omega⟩)))⟩
          · rw [if_neg (by omega)] at hC; exact ⟨b5, by omega, hC⟩
          · rw [if_pos z] at hC; exact ⟨b5, by rw [← hC], by rw [← hC]⟩
        · rw [if_pos e] at hC
          have hR1 : R.1 = (hR (mtx m) (m 5000 9) p c v).1 := by rw [← hC]
          refine ⟨fun q v' vB => ?_, fun v' vB a b d => ?_⟩
          · exact ⟨1, by omega, rfl, Or.inr (Or.inr (Or.inl ⟨_, q, _, v', rfl, rfl, rfl, rfl, by omega, by omega, vB, hR1⟩))⟩
          · exact ⟨2 * f' + 2, by omega, rfl, Or.inr (Or.inr (Or.inr (Or.inl ⟨f', _, _, v', rfl, rfl, rfl, rfl, by omega, by omega, hc', hc0', vB, fun z => absurd (by rw [d] at z; exact z) b, fun z => absurd (by rw [d] at z; exact z) a, fun z z2 => by rw [d]; exact hR1⟩)))⟩
      refine ⟨60, ?_⟩
      simp only [↓reduceIte, inR_0, inR_1, inR_m, vSw2_e, swP_n, swP_c, vI_e, vL_e, vNull_e, vIload_e, vLload_e, vAload_e, vIstore_e, vLstore_e, vAstore_e, vIinc_e, vIadd_e, vIsub_e, vImul_e, vIand_e, vIor_e, vIxor_e, vIshl_e, vIshr_e, vIushr_e, vIdiv_e, vIrem_e, vLadd_e, vLsub_e, vLmul_e, vLand_e, vLor_e, vLxor_e, vLdiv_e, vLrem_e, vLushr_e, vLshl_e, vLcmp_e, vIneg_e, vI2l_e, vL2i_e, vI2b_e, vI2c_e, vDup_e, vPop_e, vDup2_e, vGoto_e, vIcEq_e, vIfEq_e, vIcNe_e, vIfNe_e, vIcLt_e, vIfLt_e, vIcGe_e, vIfGe_e, vIcGt_e, vIfGt_e, vIcLe_e, vIfLe_e, vNonnull_e, vSw_e, vGetI_e, vGetL_e, vGetR_e, vPutI_e, vPutZ_e, vPutL_e, vPutR_e, vIald_e, vIald_s, vLald_e, vBald_e, vBald_s, vAald_e, vIast_e, vLast_e, vBast_e, vAast_e, vAlen_e8, vAlen_e9, vAlen_e10, vAlen_e11, vAlen_e5, vAlen_e3, vGets_e, vCompact_e, vLdcS_e, vIret_e, vZret_e, vCret_e, vBret_e, vLret_e, vVret_e, vAret_e, vCallM_e0, vCallMV_e0, vCallS_e0, vCallSV_e0, vCallM_e1, vCallMV_e1, vCallS_e1, vCallSV_e1, vCallM_e2, vCallMV_e2, vCallS_e2, vCallSV_e2, vCallM_e3, vCallMV_e3, vCallS_e3, vCallSV_e3, vCallM_e4, vCallMV_e4, vCallS_e4, vCallSV_e4, vCallM_e5, vCallMV_e5, vCallS_e5, vCallSV_e5, vCallM_e6, vCallMV_e6, vCallS_e6, vCallSV_e6, vCallM_e7, vCallMV_e7, vCallS_e7, vCallSV_e7, vBad_e, vStrVal_e, vStrCod_e, vForm_e, vCallT_e0, vCallT_e1, vCallT_e2, vCopy_e, rf_0_0, rf_0_1, rf_0_2, rf_0_3, rf_0_4, rf_0_7, rf_0_10, rf_0_11, rf_0_12, rf_0_13, rf_0_14, rf_0_15, rf_0_16, rf_1_0, rf_3_0, rf_3_1, rf_6_0, rf_6_1, rf_9_0, rf_9_1, rf_9_3, rf_13_0, rf_13_1, rf_13_2, rf_16_0, rf_16_1, rf_16_2, rf_16_3, rf_21_0, rf_21_1, rf_21_2, rf_21_3, rf_26_0, rf_26_1, rf_26_2, rf_26_3, rf_26_4, rf_26_5, rf_26_6, rf_31_0, rf_31_2, rf_31_5, rf_31_6, rf_36_0, rf_36_1, rf_36_2, rf_36_3, rf_39_0, rf_39_1, rf_39_2, rf_41_0, rf_41_1, rf_41_2, rf_41_3, rf_5000_1, rf_5000_2, rf_5000_3, rf_5000_4, rf_5000_5, rf_5000_15, rf_5000_16, rf_5000_18, rf_5000_19, rf_5000_20, rf_5000_21, rf_5000_22, rf_5000_23, rf_5000_24, rf_5000_25, rf_5000_26, rf_5000_27, rf_5000_36, rf_5000_37, rf_5000_40, rf_5000_41, rf_5000_42, rf_5000_43, rf_5000_44, rf_5000_45, rf_5000_47, rf_5000_52, rf_5000_54, rf_5000_55, rf_100_0, rf_100_1, rf_103_0, rf_103_1, rf_106_0, rf_106_1, rf_109_0, rf_109_1, al_2, al_4, al_5, al_7, al_8, al_10, al_11, al_12, al_14, al_15, al_17, al_18, al_19, al_20, al_22, al_23, al_24, al_25, al_27, al_28, al_29, al_30, al_32, al_33, al_34, al_35, al_37, al_38, al_40, al_42, al_5001, al_5002, al_5003, al_5004, al_5005, al_5006, al_5007, al_5008, al_5009, al_5010, al_5011, al_5012, al_5013, al_5014, al_5015, al_5016, al_5017, al_5018, al_5019, al_5020, al_5021, al_5022, al_5023, al_5024, al_5025, al_5026, al_9000, al_101, al_102, al_104, al_105, al_107, al_108, al_110, al_111, vcs_e, lg_c0, lg_cs, lg_nil, set_c0, set_cs, okst_0, okst_s, acok_n, acok_c, List.contains_nil, List.contains_cons, Bool.or_false, Bool.false_or, Bool.false_eq_true, if_false, if_true, ite_self, ne_eq, true_and, and_true, not_false_eq_true, not_true_eq_false, false_imp_iff, true_imp_iff, Nat.ble_eq, Bool.and_eq_true, reduceCtorEq, or_false, false_or, or_true, true_or, false_and, and_false, and_self, Int.reduceLE, Int.reduceAdd, Int.reduceSub, Int.reduceMul, Int.reduceNeg, Int.reduceLT, Int.reduceEq, Int.reduceNe, Nat.reduceBEq, Nat.reduceBNe, Nat.reduceEqDiff, amCmp_in, amCmp_lt, amCmp_le, amCmp_gt, amCmp_ge, amCmp_eq, amCmp_ne, Nat.reduceLeDiff, Nat.reduceSub, Bool.and_true, Bool.true_and, Bool.and_self, Bool.or_true, Bool.true_or, isRf_3, isRf_4, isRf_5, isRf_8, isRf_9, isRf_10, isRf_11, isRf_15, isRf_16, isRf_17, isRf_18, isRf_19, isRf_20, isRf_21, isRf_22, isRf_23, isRf_24, isRf_25, isRf_26, isRf_27, isRf_28, k_X12_readHouse_0, k_X12_readHouse_1, k_X12_readHouse_2, k_X12_readHouse_5, k_X12_readHouse_6, k_X12_readHouse_7, k_X12_readHouse_10, k_X12_readHouse_13, k_X12_readHouse_14, k_X12_readHouse_15, k_X12_readHouse_18, k_X12_readHouse_19, k_X12_readHouse_20, k_X12_readHouse_23, k_X12_readHouse_24, k_X12_readHouse_25, k_X12_readHouse_28, k_X12_readHouse_29, k_X12_readHouse_30, k_X12_readHouse_33, k_X12_readHouse_34, k_X12_readHouse_35, k_X12_readHouse_36, k_X12_readHouse_37, k_X12_readHouse_40, k_X12_readHouse_41, k_X12_readHouse_44, k_X12_readHouse_45, k_X12_readHouse_47, k_X12_readHouse_48, k_X12_readHouse_51, k_X12_readHouse_52, k_X12_readHouse_55, k_X12_readHouse_58, k_X12_readHouse_59, k_X12_readHouse_60, k_X12_readHouse_61, k_X12_readHouse_64, k_X12_readHouse_65, k_X12_readHouse_68, k_X12_readHouse_69, k_X12_readHouse_72, k_X12_readHouse_73, k_X12_readHouse_76, k_X12_readHouse_77, k_X12_readHouse_80, k_X12_readHouse_81, k_X12_readHouse_84, k_X12_readHouse_85, k_X12_readHouse_88, k_X12_readHouse_90, k_X12_readHouse_93, k_X12_readHouse_94, k_X12_readHouse_97, k_X12_readHouse_98, k_X12_readHouse_99, k_X12_readHouse_100, k_X12_readHouse_103, k_X12_readHouse_104, k_X12_readHouse_105, k_X12_readHouse_108, k_X12_readHouse_109, k_X12_readHouse_110, k_X12_readHouse_113, k_X12_readHouse_116, k_X12_readHouse_117, k_X12_readHouse_120, k_X12_readHouse_121, k_X12_readHouse_124, k_X12_readHouse_125, k_X12_readHouse_128, k_X12_readHouse_129, k_X12_readHouse_132, k_X12_readHouse_133, k_X12_readHouse_136, k_X12_readHouse_139, k_X12_readHouse_140, k_X12_readHouse_143, k_X12_readHouse_144, w_X12_fails_e, w_X12_isWhole_e, w_X12_look_e, w_X12_readClause_e, w_X12_starts_e, w_X12_usual_e, ho_11]
      repeat' (first | apply And.intro | intro _)
      all_goals first | omega | exact absurd trivial (by assumption) | skip
      all_goals (exact ⟨m, p, c, v, rfl, ht, p0, p1, hc, hc0, hv, jA, jB⟩)
    · have i9 : ∃ k', k' < 1 ∧ inv_rho m v0 R k' 60 [(28, 5000), (0, 0)] [] (hoN m q x c v) := ⟨0, by omega, rfl, Or.inr (Or.inr (Or.inr (Or.inr (Or.inl ⟨x, q, c, v, rfl, rfl, rfl, rfl, x0, x1, vB, hx⟩))))⟩
      have xn : ¬ x = -1 := by omega
      refine ⟨60, ?_⟩
      simp only [↓reduceIte, inR_0, inR_1, inR_m, vSw2_e, swP_n, swP_c, vI_e, vL_e, vNull_e, vIload_e, vLload_e, vAload_e, vIstore_e, vLstore_e, vAstore_e, vIinc_e, vIadd_e, vIsub_e, vImul_e, vIand_e, vIor_e, vIxor_e, vIshl_e, vIshr_e, vIushr_e, vIdiv_e, vIrem_e, vLadd_e, vLsub_e, vLmul_e, vLand_e, vLor_e, vLxor_e, vLdiv_e, vLrem_e, vLushr_e, vLshl_e, vLcmp_e, vIneg_e, vI2l_e, vL2i_e, vI2b_e, vI2c_e, vDup_e, vPop_e, vDup2_e, vGoto_e, vIcEq_e, vIfEq_e, vIcNe_e, vIfNe_e, vIcLt_e, vIfLt_e, vIcGe_e, vIfGe_e, vIcGt_e, vIfGt_e, vIcLe_e, vIfLe_e, vNonnull_e, vSw_e, vGetI_e, vGetL_e, vGetR_e, vPutI_e, vPutZ_e, vPutL_e, vPutR_e, vIald_e, vIald_s, vLald_e, vBald_e, vBald_s, vAald_e, vIast_e, vLast_e, vBast_e, vAast_e, vAlen_e8, vAlen_e9, vAlen_e10, vAlen_e11, vAlen_e5, vAlen_e3, vGets_e, vCompact_e, vLdcS_e, vIret_e, vZret_e, vCret_e, vBret_e, vLret_e, vVret_e, vAret_e, vCallM_e0, vCallMV_e0, vCallS_e0, vCallSV_e0, vCallM_e1, vCallMV_e1, vCallS_e1, vCallSV_e1, vCallM_e2, vCallMV_e2, vCallS_e2, vCallSV_e2, vCallM_e3, vCallMV_e3, vCallS_e3, vCallSV_e3, vCallM_e4, vCallMV_e4, vCallS_e4, vCallSV_e4, vCallM_e5, vCallMV_e5, vCallS_e5, vCallSV_e5, vCallM_e6, vCallMV_e6, vCallS_e6, vCallSV_e6, vCallM_e7, vCallMV_e7, vCallS_e7, vCallSV_e7, vBad_e, vStrVal_e, vStrCod_e, vForm_e, vCallT_e0, vCallT_e1, vCallT_e2, vCopy_e, rf_0_0, rf_0_1, rf_0_2, rf_0_3, rf_0_4, rf_0_7, rf_0_10, rf_0_11, rf_0_12, rf_0_13, rf_0_14, rf_0_15, rf_0_16, rf_1_0, rf_3_0, rf_3_1, rf_6_0, rf_6_1, rf_9_0, rf_9_1, rf_9_3, rf_13_0, rf_13_1, rf_13_2, rf_16_0, rf_16_1, rf_16_2, rf_16_3, rf_21_0, rf_21_1, rf_21_2, rf_21_3, rf_26_0, rf_26_1, rf_26_2, rf_26_3, rf_26_4, rf_26_5, rf_26_6, rf_31_0, rf_31_2, rf_31_5, rf_31_6, rf_36_0, rf_36_1, rf_36_2, rf_36_3, rf_39_0, rf_39_1, rf_39_2, rf_41_0, rf_41_1, rf_41_2, rf_41_3, rf_5000_1, rf_5000_2, rf_5000_3, rf_5000_4, rf_5000_5, rf_5000_15, rf_5000_16, rf_5000_18, rf_5000_19, rf_5000_20, rf_5000_21, rf_5000_22, rf_5000_23, rf_5000_24, rf_5000_25, rf_5000_26, rf_5000_27, rf_5000_36, rf_5000_37, rf_5000_40, rf_5000_41, rf_5000_42, rf_5000_43, rf_5000_44, rf_5000_45, rf_5000_47, rf_5000_52, rf_5000_54, rf_5000_55, rf_100_0, rf_100_1, rf_103_0, rf_103_1, rf_106_0, rf_106_1, rf_109_0, rf_109_1, al_2, al_4, al_5, al_7, al_8, al_10, al_11, al_12, al_14, al_15, al_17, al_18, al_19, al_20, al_22, al_23, al_24, al_25, al_27, al_28, al_29, al_30, al_32, al_33, al_34, al_35, al_37, al_38, al_40, al_42, al_5001, al_5002, al_5003, al_5004, al_5005, al_5006, al_5007, al_5008, al_5009, al_5010, al_5011, al_5012, al_5013, al_5014, al_5015, al_5016, al_5017, al_5018, al_5019, al_5020, al_5021, al_5022, al_5023, al_5024, al_5025, al_5026, al_9000, al_101, al_102, al_104, al_105, al_107, al_108, al_110, al_111, vcs_e, lg_c0, lg_cs, lg_nil, set_c0, set_cs, okst_0, okst_s, acok_n, acok_c, List.contains_nil, List.contains_cons, Bool.or_false, Bool.false_or, Bool.false_eq_true, if_false, if_true, ite_self, ne_eq, true_and, and_true, not_false_eq_true, not_true_eq_false, false_imp_iff, true_imp_iff, Nat.ble_eq, Bool.and_eq_true, reduceCtorEq, or_false, false_or, or_true, true_or, false_and, and_false, and_self, Int.reduceLE, Int.reduceAdd, Int.reduceSub, Int.reduceMul, Int.reduceNeg, Int.reduceLT, Int.reduceEq, Int.reduceNe, Nat.reduceBEq, Nat.reduceBNe, Nat.reduceEqDiff, amCmp_in, amCmp_lt, amCmp_le, amCmp_gt, amCmp_ge, amCmp_eq, amCmp_ne, Nat.reduceLeDiff, Nat.reduceSub, Bool.and_true, Bool.true_and, Bool.and_self, Bool.or_true, Bool.true_or, isRf_3, isRf_4, isRf_5, isRf_8, isRf_9, isRf_10, isRf_11, isRf_15, isRf_16, isRf_17, isRf_18, isRf_19, isRf_20, isRf_21, isRf_22, isRf_23, isRf_24, isRf_25, isRf_26, isRf_27, isRf_28, k_X12_readHouse_0, k_X12_readHouse_1, k_X12_readHouse_2, k_X12_readHouse_5, k_X12_readHouse_6, k_X12_readHouse_7, k_X12_readHouse_10, k_X12_readHouse_13, k_X12_readHouse_14, k_X12_readHouse_15, k_X12_readHouse_18, k_X12_readHouse_19, k_X12_readHouse_20, k_X12_readHouse_23, k_X12_readHouse_24, k_X12_readHouse_25, k_X12_readHouse_28, k_X12_readHouse_29, k_X12_readHouse_30, k_X12_readHouse_33, k_X12_readHouse_34, k_X12_readHouse_35, k_X12_readHouse_36, k_X12_readHouse_37, k_X12_readHouse_40, k_X12_readHouse_41, k_X12_readHouse_44, k_X12_readHouse_45, k_X12_readHouse_47, k_X12_readHouse_48, k_X12_readHouse_51, k_X12_readHouse_52, k_X12_readHouse_55, k_X12_readHouse_58, k_X12_readHouse_59, k_X12_readHouse_60, k_X12_readHouse_61, k_X12_readHouse_64, k_X12_readHouse_65, k_X12_readHouse_68, k_X12_readHouse_69, k_X12_readHouse_72, k_X12_readHouse_73, k_X12_readHouse_76, k_X12_readHouse_77, k_X12_readHouse_80, k_X12_readHouse_81, k_X12_readHouse_84, k_X12_readHouse_85, k_X12_readHouse_88, k_X12_readHouse_90, k_X12_readHouse_93, k_X12_readHouse_94, k_X12_readHouse_97, k_X12_readHouse_98, k_X12_readHouse_99, k_X12_readHouse_100, k_X12_readHouse_103, k_X12_readHouse_104, k_X12_readHouse_105, k_X12_readHouse_108, k_X12_readHouse_109, k_X12_readHouse_110, k_X12_readHouse_113, k_X12_readHouse_116, k_X12_readHouse_117, k_X12_readHouse_120, k_X12_readHouse_121, k_X12_readHouse_124, k_X12_readHouse_125, k_X12_readHouse_128, k_X12_readHouse_129, k_X12_readHouse_132, k_X12_readHouse_133, k_X12_readHouse_136, k_X12_readHouse_139, k_X12_readHouse_140, k_X12_readHouse_143, k_X12_readHouse_144, w_X12_fails_e, w_X12_isWhole_e, w_X12_look_e, w_X12_readClause_e, w_X12_starts_e, w_X12_usual_e, ho_11, xn]
      repeat' (first | apply And.intro | intro _)
      all_goals first | omega | exact absurd trivial (by assumption) | exact i9
    · have s1 := sk_b (mtx m) p1
      have b1 := mtx_b ht (sk (mtx m) (m 5000 9) p)
      have ss := sk_sk (mtx m) p1
      have i9 : mtx m (sk (mtx m) (m 5000 9) p) = 59 → ∃ k', k' < 2 * f + 2 ∧ inv_rho m v0 R k' 60 [(28, 5000), (0, 1)] [] (hoN m (sk (mtx m) (m 5000 9) p + 1) (-1) c v) := fun e => by
        obtain ⟨a1, a2, a3⟩ := hA e
        have s2 := sk_lt hte (q := sk (mtx m) (m 5000 9) p) (by omega)
        exact ⟨2 * f + 1, by omega, rfl, Or.inr (Or.inl ⟨f, _, c, v, rfl, rfl, rfl, rfl, by omega, by omega, by omega, hc, hc0, a1, a3⟩)⟩
      have i8 : mtx m (sk (mtx m) (m 5000 9) p) ≠ 59 → ∃ k', k' < 2 * f + 2 ∧ inv_rho m v0 R k' 60 [(28, 5000), (0, 0)] [] (hoN m (sk (mtx m) (m 5000 9) p) (-1) c v) := fun e =>
        ⟨0, by omega, rfl, Or.inr (Or.inr (Or.inr (Or.inr (Or.inr ⟨_, c, v, rfl, rfl, rfl, rfl, by omega, by omega, hc, vB, ss, hB, fun z => hD e z⟩))))⟩
      refine ⟨60, ?_⟩
      simp only [↓reduceIte, inR_0, inR_1, inR_m, vSw2_e, swP_n, swP_c, vI_e, vL_e, vNull_e, vIload_e, vLload_e, vAload_e, vIstore_e, vLstore_e, vAstore_e, vIinc_e, vIadd_e, vIsub_e, vImul_e, vIand_e, vIor_e, vIxor_e, vIshl_e, vIshr_e, vIushr_e, vIdiv_e, vIrem_e, vLadd_e, vLsub_e, vLmul_e, vLand_e, vLor_e, vLxor_e, vLdiv_e, vLrem_e, vLushr_e, vLshl_e, vLcmp_e, vIneg_e, vI2l_e, vL2i_e, vI2b_e, vI2c_e, vDup_e, vPop_e, vDup2_e, vGoto_e, vIcEq_e, vIfEq_e, vIcNe_e, vIfNe_e, vIcLt_e, vIfLt_e, vIcGe_e, vIfGe_e, vIcGt_e, vIfGt_e, vIcLe_e, vIfLe_e, vNonnull_e, vSw_e, vGetI_e, vGetL_e, vGetR_e, vPutI_e, vPutZ_e, vPutL_e, vPutR_e, vIald_e, vIald_s, vLald_e, vBald_e, vBald_s, vAald_e, vIast_e, vLast_e, vBast_e, vAast_e, vAlen_e8, vAlen_e9, vAlen_e10, vAlen_e11, vAlen_e5, vAlen_e3, vGets_e, vCompact_e, vLdcS_e, vIret_e, vZret_e, vCret_e, vBret_e, vLret_e, vVret_e, vAret_e, vCallM_e0, vCallMV_e0, vCallS_e0, vCallSV_e0, vCallM_e1, vCallMV_e1, vCallS_e1, vCallSV_e1, vCallM_e2, vCallMV_e2, vCallS_e2, vCallSV_e2, vCallM_e3, vCallMV_e3, vCallS_e3, vCallSV_e3, vCallM_e4, vCallMV_e4, vCallS_e4, vCallSV_e4, vCallM_e5, vCallMV_e5, vCallS_e5, vCallSV_e5, vCallM_e6, vCallMV_e6, vCallS_e6, vCallSV_e6, vCallM_e7, vCallMV_e7, vCallS_e7, vCallSV_e7, vBad_e, vStrVal_e, vStrCod_e, vForm_e, vCallT_e0, vCallT_e1, vCallT_e2, vCopy_e, rf_0_0, rf_0_1, rf_0_2, rf_0_3, rf_0_4, rf_0_7, rf_0_10, rf_0_11, rf_0_12, rf_0_13, rf_0_14, rf_0_15, rf_0_16, rf_1_0, rf_3_0, rf_3_1, rf_6_0, rf_6_1, rf_9_0, rf_9_1, rf_9_3, rf_13_0, rf_13_1, rf_13_2, rf_16_0, rf_16_1, rf_16_2, rf_16_3, rf_21_0, rf_21_1, rf_21_2, rf_21_3, rf_26_0, rf_26_1, rf_26_2, rf_26_3, rf_26_4, rf_26_5, rf_26_6, rf_31_0, rf_31_2, rf_31_5, rf_31_6, rf_36_0, rf_36_1, rf_36_2, rf_36_3, rf_39_0, rf_39_1, rf_39_2, rf_41_0, rf_41_1, rf_41_2, rf_41_3, rf_5000_1, rf_5000_2, rf_5000_3, rf_5000_4, rf_5000_5, rf_5000_15, rf_5000_16, rf_5000_18, rf_5000_19, rf_5000_20, rf_5000_21, rf_5000_22, rf_5000_23, rf_5000_24, rf_5000_25, rf_5000_26, rf_5000_27, rf_5000_36, rf_5000_37, rf_5000_40, rf_5000_41, rf_5000_42, rf_5000_43, rf_5000_44, rf_5000_45, rf_5000_47, rf_5000_52, rf_5000_54, rf_5000_55, rf_100_0, rf_100_1, rf_103_0, rf_103_1, rf_106_0, rf_106_1, rf_109_0, rf_109_1, al_2, al_4, al_5, al_7, al_8, al_10, al_11, al_12, al_14, al_15, al_17, al_18, al_19, al_20, al_22, al_23, al_24, al_25, al_27, al_28, al_29, al_30, al_32, al_33, al_34, al_35, al_37, al_38, al_40, al_42, al_5001, al_5002, al_5003, al_5004, al_5005, al_5006, al_5007, al_5008, al_5009, al_5010, al_5011, al_5012, al_5013, al_5014, al_5015, al_5016, al_5017, al_5018, al_5019, al_5020, al_5021, al_5022, al_5023, al_5024, al_5025, al_5026, al_9000, al_101, al_102, al_104, al_105, al_107, al_108, al_110, al_111, vcs_e, lg_c0, lg_cs, lg_nil, set_c0, set_cs, okst_0, okst_s, acok_n, acok_c, List.contains_nil, List.contains_cons, Bool.or_false, Bool.false_or, Bool.false_eq_true, if_false, if_true, ite_self, ne_eq, true_and, and_true, not_false_eq_true, not_true_eq_false, false_imp_iff, true_imp_iff, Nat.ble_eq, Bool.and_eq_true, reduceCtorEq, or_false, false_or, or_true, true_or, false_and, and_false, and_self, Int.reduceLE, Int.reduceAdd, Int.reduceSub, Int.reduceMul, Int.reduceNeg, Int.reduceLT, Int.reduceEq, Int.reduceNe, Nat.reduceBEq, Nat.reduceBNe, Nat.reduceEqDiff, amCmp_in, amCmp_lt, amCmp_le, amCmp_gt, amCmp_ge, amCmp_eq, amCmp_ne, Nat.reduceLeDiff, Nat.reduceSub, Bool.and_true, Bool.true_and, Bool.and_self, Bool.or_true, Bool.true_or, isRf_3, isRf_4, isRf_5, isRf_8, isRf_9, isRf_10, isRf_11, isRf_15, isRf_16, isRf_17, isRf_18, isRf_19, isRf_20, isRf_21, isRf_22, isRf_23, isRf_24, isRf_25, isRf_26, isRf_27, isRf_28, k_X12_readHouse_0, k_X12_readHouse_1, k_X12_readHouse_2, k_X12_readHouse_5, k_X12_readHouse_6, k_X12_readHouse_7, k_X12_readHouse_10, k_X12_readHouse_13, k_X12_readHouse_14, k_X12_readHouse_15, k_X12_readHouse_18, k_X12_readHouse_19, k_X12_readHouse_20, k_X12_readHouse_23, k_X12_readHouse_24, k_X12_readHouse_25, k_X12_readHouse_28, k_X12_readHouse_29, k_X12_readHouse_30, k_X12_readHouse_33, k_X12_readHouse_34, k_X12_readHouse_35, k_X12_readHouse_36, k_X12_readHouse_37, k_X12_readHouse_40, k_X12_readHouse_41, k_X12_readHouse_44, k_X12_readHouse_45, k_X12_readHouse_47, k_X12_readHouse_48, k_X12_readHouse_51, k_X12_readHouse_52, k_X12_readHouse_55, k_X12_readHouse_58, k_X12_readHouse_59, k_X12_readHouse_60, k_X12_readHouse_61, k_X12_readHouse_64, k_X12_readHouse_65, k_X12_readHouse_68, k_X12_readHouse_69, k_X12_readHouse_72, k_X12_readHouse_73, k_X12_readHouse_76, k_X12_readHouse_77, k_X12_readHouse_80, k_X12_readHouse_81, k_X12_readHouse_84, k_X12_readHouse_85, k_X12_readHouse_88, k_X12_readHouse_90, k_X12_readHouse_93, k_X12_readHouse_94, k_X12_readHouse_97, k_X12_readHouse_98, k_X12_readHouse_99, k_X12_readHouse_100, k_X12_readHouse_103, k_X12_readHouse_104, k_X12_readHouse_105, k_X12_readHouse_108, k_X12_readHouse_109, k_X12_readHouse_110, k_X12_readHouse_113, k_X12_readHouse_116, k_X12_readHouse_117, k_X12_readHouse_120, k_X12_readHouse_121, k_X12_readHouse_124, k_X12_readHouse_125, k_X12_readHouse_128, k_X12_readHouse_129, k_X12_readHouse_132, k_X12_readHouse_133, k_X12_readHouse_136, k_X12_readHouse_139, k_X12_readHouse_140, k_X12_readHouse_143, k_X12_readHouse_144, w_X12_fails_e, w_X12_isWhole_e, w_X12_look_e, w_X12_readClause_e, w_X12_starts_e, w_X12_usual_e, msk, Mt, MtO, ho_10, ho_9, ho_11, ho_u10]
      repeat' (first | apply And.intro | intro _)
      all_goals first | omega | exact absurd trivial (by assumption) | exact i9 (by assumption) | exact i8 (by assumption) | exact i8 (by omega) | exact ⟨by omega, by omega⟩
    · have q9 := fF x q c v vB hx x0
      have xn : ¬ x = -1 := by omega
      refine ⟨60, ?_⟩
      simp only [↓reduceIte, inR_0, inR_1, inR_m, vSw2_e, swP_n, swP_c, vI_e, vL_e, vNull_e, vIload_e, vLload_e, vAload_e, vIstore_e, vLstore_e, vAstore_e, vIinc_e, vIadd_e, vIsub_e, vImul_e, vIand_e, vIor_e, vIxor_e, vIshl_e, vIshr_e, vIushr_e, vIdiv_e, vIrem_e, vLadd_e, vLsub_e, vLmul_e, vLand_e, vLor_e, vLxor_e, vLdiv_e, vLrem_e, vLushr_e, vLshl_e, vLcmp_e, vIneg_e, vI2l_e, vL2i_e, vI2b_e, vI2c_e, vDup_e, vPop_e, vDup2_e, vGoto_e, vIcEq_e, vIfEq_e, vIcNe_e, vIfNe_e, vIcLt_e, vIfLt_e, vIcGe_e, vIfGe_e, vIcGt_e, vIfGt_e, vIcLe_e, vIfLe_e, vNonnull_e, vSw_e, vGetI_e, vGetL_e, vGetR_e, vPutI_e, vPutZ_e, vPutL_e, vPutR_e, vIald_e, vIald_s, vLald_e, vBald_e, vBald_s, vAald_e, vIast_e, vLast_e, vBast_e, vAast_e, vAlen_e8, vAlen_e9, vAlen_e10, vAlen_e11, vAlen_e5, vAlen_e3, vGets_e, vCompact_e, vLdcS_e, vIret_e, vZret_e, vCret_e, vBret_e, vLret_e, vVret_e, vAret_e, vCallM_e0, vCallMV_e0, vCallS_e0, vCallSV_e0, vCallM_e1, vCallMV_e1, vCallS_e1, vCallSV_e1, vCallM_e2, vCallMV_e2, vCallS_e2, vCallSV_e2, vCallM_e3, vCallMV_e3, vCallS_e3, vCallSV_e3, vCallM_e4, vCallMV_e4, vCallS_e4, vCallSV_e4, vCallM_e5, vCallMV_e5, vCallS_e5, vCallSV_e5, vCallM_e6, vCallMV_e6, vCallS_e6, vCallSV_e6, vCallM_e7, vCallMV_e7, vCallS_e7, vCallSV_e7, vBad_e, vStrVal_e, vStrCod_e, vForm_e, vCallT_e0, vCallT_e1, vCallT_e2, vCopy_e, rf_0_0, rf_0_1, rf_0_2, rf_0_3, rf_0_4, rf_0_7, rf_0_10, rf_0_11, rf_0_12, rf_0_13, rf_0_14, rf_0_15, rf_0_16, rf_1_0, rf_3_0, rf_3_1, rf_6_0, rf_6_1, rf_9_0, rf_9_1, rf_9_3, rf_13_0, rf_13_1, rf_13_2, rf_16_0, rf_16_1, rf_16_2, rf_16_3, rf_21_0, rf_21_1, rf_21_2, rf_21_3, rf_26_0, rf_26_1, rf_26_2, rf_26_3, rf_26_4, rf_26_5, rf_26_6, rf_31_0, rf_31_2, rf_31_5, rf_31_6, rf_36_0, rf_36_1, rf_36_2, rf_36_3, rf_39_0, rf_39_1, rf_39_2, rf_41_0, rf_41_1, rf_41_2, rf_41_3, rf_5000_1, rf_5000_2, rf_5000_3, rf_5000_4, rf_5000_5, rf_5000_15, rf_5000_16, rf_5000_18, rf_5000_19, rf_5000_20, rf_5000_21, rf_5000_22, rf_5000_23, rf_5000_24, rf_5000_25, rf_5000_26, rf_5000_27, rf_5000_36, rf_5000_37, rf_5000_40, rf_5000_41, rf_5000_42, rf_5000_43, rf_5000_44, rf_5000_45, rf_5000_47, rf_5000_52, rf_5000_54, rf_5000_55, rf_100_0, rf_100_1, rf_103_0, rf_103_1, rf_106_0, rf_106_1, rf_109_0, rf_109_1, al_2, al_4, al_5, al_7, al_8, al_10, al_11, al_12, al_14, al_15, al_17, al_18, al_19, al_20, al_22, al_23, al_24, al_25, al_27, al_28, al_29, al_30, al_32, al_33, al_34, al_35, al_37, al_38, al_40, al_42, al_5001, al_5002, al_5003, al_5004, al_5005, al_5006, al_5007, al_5008, al_5009, al_5010, al_5011, al_5012, al_5013, al_5014, al_5015, al_5016, al_5017, al_5018, al_5019, al_5020, al_5021, al_5022, al_5023, al_5024, al_5025, al_5026, al_9000, al_101, al_102, al_104, al_105, al_107, al_108, al_110, al_111, vcs_e, lg_c0, lg_cs, lg_nil, set_c0, set_cs, okst_0, okst_s, acok_n, acok_c, List.contains_nil, List.contains_cons, Bool.or_false, Bool.false_or, Bool.false_eq_true, if_false, if_true, ite_self, ne_eq, true_and, and_true, not_false_eq_true, not_true_eq_false, false_imp_iff, true_imp_iff, Nat.ble_eq, Bool.and_eq_true, reduceCtorEq, or_false, false_or, or_true, true_or, false_and, and_false, and_self, Int.reduceLE, Int.reduceAdd, Int.reduceSub, Int.reduceMul, Int.reduceNeg, Int.reduceLT, Int.reduceEq, Int.reduceNe, Nat.reduceBEq, Nat.reduceBNe, Nat.reduceEqDiff, amCmp_in, amCmp_lt, amCmp_le, amCmp_gt, amCmp_ge, amCmp_eq, amCmp_ne, Nat.reduceLeDiff, Nat.reduceSub, Bool.and_true, Bool.true_and, Bool.and_self, Bool.or_true, Bool.true_or, isRf_3, isRf_4, isRf_5, isRf_8, isRf_9, isRf_10, isRf_11, isRf_15, isRf_16, isRf_17, isRf_18, isRf_19, isRf_20, isRf_21, isRf_22, isRf_23, isRf_24, isRf_25, isRf_26, isRf_27, isRf_28, k_X12_readHouse_0, k_X12_readHouse_1, k_X12_readHouse_2, k_X12_readHouse_5, k_X12_readHouse_6, k_X12_readHouse_7, k_X12_readHouse_10, k_X12_readHouse_13, k_X12_readHouse_14, k_X12_readHouse_15, k_X12_readHouse_18, k_X12_readHouse_19, k_X12_readHouse_20, k_X12_readHouse_23, k_X12_readHouse_24, k_X12_readHouse_25, k_X12_readHouse_28, k_X12_readHouse_29, k_X12_readHouse_30, k_X12_readHouse_33, k_X12_readHouse_34, k_X12_readHouse_35, k_X12_readHouse_36, k_X12_readHouse_37, k_X12_readHouse_40, k_X12_readHouse_41, k_X12_readHouse_44, k_X12_readHouse_45, k_X12_readHouse_47, k_X12_readHouse_48, k_X12_readHouse_51, k_X12_readHouse_52, k_X12_readHouse_55, k_X12_readHouse_58, k_X12_readHouse_59, k_X12_readHouse_60, k_X12_readHouse_61, k_X12_readHouse_64, k_X12_readHouse_65, k_X12_readHouse_68, k_X12_readHouse_69, k_X12_readHouse_72, k_X12_readHouse_73, k_X12_readHouse_76, k_X12_readHouse_77, k_X12_readHouse_80, k_X12_readHouse_81, k_X12_readHouse_84, k_X12_readHouse_85, k_X12_readHouse_88, k_X12_readHouse_90, k_X12_readHouse_93, k_X12_readHouse_94, k_X12_readHouse_97, k_X12_readHouse_98, k_X12_readHouse_99, k_X12_readHouse_100, k_X12_readHouse_103, k_X12_readHouse_104, k_X12_readHouse_105, k_X12_readHouse_108, k_X12_readHouse_109, k_X12_readHouse_110, k_X12_readHouse_113, k_X12_readHouse_116, k_X12_readHouse_117, k_X12_readHouse_120, k_X12_readHouse_121, k_X12_readHouse_124, k_X12_readHouse_125, k_X12_readHouse_128, k_X12_readHouse_129, k_X12_readHouse_132, k_X12_readHouse_133, k_X12_readHouse_136, k_X12_readHouse_139, k_X12_readHouse_140, k_X12_readHouse_143, k_X12_readHouse_144, w_X12_fails_e, w_X12_isWhole_e, w_X12_look_e, w_X12_readClause_e, w_X12_starts_e, w_X12_usual_e, ho_11, xn]
      repeat' (first | apply And.intro | intro _)
      all_goals first | omega | exact absurd trivial (by assumption) | exact q9
    · have b1 := mtx_b ht p
      refine ⟨60, ?_⟩
      by_cases e : mtx m p = -1
      · obtain ⟨a1, a2, a3⟩ := hB e
        have ep := mtx_nn ht p0 p1 e
        have q8 : hWhole c v → Q (6, 0) (hoN m p (-1) c v) := fun g => hq _ (hH _ _ _ _) (vof_ho a1) (by rw [ho_11, a2, hfin_t g]) (fun _ => ⟨fun k k0 k1 => by rw [a3, ho_cc _ _ _ _ _ (by omega)]; show c (30 + k - 30) = c k; congr 1; omega, fun b j h => by rw [a3, ho_sl _ _ _ _ _ h]⟩)
        have q9 : ¬ hWhole c v → Q (6, 0) (hoN m p p c v) := fun g => fF p p c v a1 (by rw [a2, hfin_f g, ep]) p0
        simp only [↓reduceIte, inR_0, inR_1, inR_m, vSw2_e, swP_n, swP_c, vI_e, vL_e, vNull_e, vIload_e, vLload_e, vAload_e, vIstore_e, vLstore_e, vAstore_e, vIinc_e, vIadd_e, vIsub_e, vImul_e, vIand_e, vIor_e, vIxor_e, vIshl_e, vIshr_e, vIushr_e, vIdiv_e, vIrem_e, vLadd_e, vLsub_e, vLmul_e, vLand_e, vLor_e, vLxor_e, vLdiv_e, vLrem_e, vLushr_e, vLshl_e, vLcmp_e, vIneg_e, vI2l_e, vL2i_e, vI2b_e, vI2c_e, vDup_e, vPop_e, vDup2_e, vGoto_e, vIcEq_e, vIfEq_e, vIcNe_e, vIfNe_e, vIcLt_e, vIfLt_e, vIcGe_e, vIfGe_e, vIcGt_e, vIfGt_e, vIcLe_e, vIfLe_e, vNonnull_e, vSw_e, vGetI_e, vGetL_e, vGetR_e, vPutI_e, vPutZ_e, vPutL_e, vPutR_e, vIald_e, vIald_s, vLald_e, vBald_e, vBald_s, vAald_e, vIast_e, vLast_e, vBast_e, vAast_e, vAlen_e8, vAlen_e9, vAlen_e10, vAlen_e11, vAlen_e5, vAlen_e3, vGets_e, vCompact_e, vLdcS_e, vIret_e, vZret_e, vCret_e, vBret_e, vLret_e, vVret_e, vAret_e, vCallM_e0, vCallMV_e0, vCallS_e0, vCallSV_e0, vCallM_e1, vCallMV_e1, vCallS_e1, vCallSV_e1, vCallM_e2, vCallMV_e2, vCallS_e2, vCallSV_e2, vCallM_e3, vCallMV_e3, vCallS_e3, vCallSV_e3, vCallM_e4, vCallMV_e4, vCallS_e4, vCallSV_e4, vCallM_e5, vCallMV_e5, vCallS_e5, vCallSV_e5, vCallM_e6, vCallMV_e6, vCallS_e6, vCallSV_e6, vCallM_e7, vCallMV_e7, vCallS_e7, vCallSV_e7, vBad_e, vStrVal_e, vStrCod_e, vForm_e, vCallT_e0, vCallT_e1, vCallT_e2, vCopy_e, rf_0_0, rf_0_1, rf_0_2, rf_0_3, rf_0_4, rf_0_7, rf_0_10, rf_0_11, rf_0_12, rf_0_13, rf_0_14, rf_0_15, rf_0_16, rf_1_0, rf_3_0, rf_3_1, rf_6_0, rf_6_1, rf_9_0, rf_9_1, rf_9_3, rf_13_0, rf_13_1, rf_13_2, rf_16_0, rf_16_1, rf_16_2, rf_16_3, rf_21_0, rf_21_1, rf_21_2, rf_21_3, rf_26_0, rf_26_1, rf_26_2, rf_26_3, rf_26_4, rf_26_5, rf_26_6, rf_31_0, rf_31_2, rf_31_5, rf_31_6, rf_36_0, rf_36_1, rf_36_2, rf_36_3, rf_39_0, rf_39_1, rf_39_2, rf_41_0, rf_41_1, rf_41_2, rf_41_3, rf_5000_1, rf_5000_2, rf_5000_3, rf_5000_4, rf_5000_5, rf_5000_15, rf_5000_16, rf_5000_18, rf_5000_19, rf_5000_20, rf_5000_21, rf_5000_22, rf_5000_23, rf_5000_24, rf_5000_25, rf_5000_26, rf_5000_27, rf_5000_36, rf_5000_37, rf_5000_40, rf_5000_41, rf_5000_42, rf_5000_43, rf_5000_44, rf_5000_45, rf_5000_47, rf_5000_52, rf_5000_54, rf_5000_55, rf_100_0, rf_100_1, rf_103_0, rf_103_1, rf_106_0, rf_106_1, rf_109_0, rf_109_1, al_2, al_4, al_5, al_7, al_8, al_10, al_11, al_12, al_14, al_15, al_17, al_18, al_19, al_20, al_22, al_23, al_24, al_25, al_27, al_28, al_29, al_30, al_32, al_33, al_34, al_35, al_37, al_38, al_40, al_42, al_5001, al_5002, al_5003, al_5004, al_5005, al_5006, al_5007, al_5008, al_5009, al_5010, al_5011, al_5012, al_5013, al_5014, al_5015, al_5016, al_5017, al_5018, al_5019, al_5020, al_5021, al_5022, al_5023, al_5024, al_5025, al_5026, al_9000, al_101, al_102, al_104, al_105, al_107, al_108, al_110, al_111, vcs_e, lg_c0, lg_cs, lg_nil, set_c0, set_cs, okst_0, okst_s, acok_n, acok_c, List.contains_nil, List.contains_cons, Bool.or_false, Bool.false_or, Bool.false_eq_true, if_false, if_true, ite_self, ne_eq, true_and, and_true, not_false_eq_true, not_true_eq_false, false_imp_iff, true_imp_iff, Nat.ble_eq, Bool.and_eq_true, reduceCtorEq, or_false, false_or, or_true, true_or, false_and, and_false, and_self, Int.reduceLE, Int.reduceAdd, Int.reduceSub, Int.reduceMul, Int.reduceNeg, Int.reduceLT, Int.reduceEq, Int.reduceNe, Nat.reduceBEq, Nat.reduceBNe, Nat.reduceEqDiff, amCmp_in, amCmp_lt, amCmp_le, amCmp_gt, amCmp_ge, amCmp_eq, amCmp_ne, Nat.reduceLeDiff, Nat.reduceSub, Bool.and_true, Bool.true_and, Bool.and_self, Bool.or_true, Bool.true_or, isRf_3, isRf_4, isRf_5, isRf_8, isRf_9, isRf_10, isRf_11, isRf_15, isRf_16, isRf_17, isRf_18, isRf_19, isRf_20, isRf_21, isRf_22, isRf_23, isRf_24, isRf_25, isRf_26, isRf_27, isRf_28, k_X12_readHouse_0, k_X12_readHouse_1, k_X12_readHouse_2, k_X12_readHouse_5, k_X12_readHouse_6, k_X12_readHouse_7, k_X12_readHouse_10, k_X12_readHouse_13, k_X12_readHouse_14, k_X12_readHouse_15, k_X12_readHouse_18, k_X12_readHouse_19, k_X12_readHouse_20, k_X12_readHouse_23, k_X12_readHouse_24, k_X12_readHouse_25, k_X12_readHouse_28, k_X12_readHouse_29, k_X12_readHouse_30, k_X12_readHouse_33, k_X12_readHouse_34, k_X12_readHouse_35, k_X12_readHouse_36, k_X12_readHouse_37, k_X12_readHouse_40, k_X12_readHouse_41, k_X12_readHouse_44, k_X12_readHouse_45, k_X12_readHouse_47, k_X12_readHouse_48, k_X12_readHouse_51, k_X12_readHouse_52, k_X12_readHouse_55, k_X12_readHouse_58, k_X12_readHouse_59, k_X12_readHouse_60, k_X12_readHouse_61, k_X12_readHouse_64, k_X12_readHouse_65, k_X12_readHouse_68, k_X12_readHouse_69, k_X12_readHouse_72, k_X12_readHouse_73, k_X12_readHouse_76, k_X12_readHouse_77, k_X12_readHouse_80, k_X12_readHouse_81, k_X12_readHouse_84, k_X12_readHouse_85, k_X12_readHouse_88, k_X12_readHouse_90, k_X12_readHouse_93, k_X12_readHouse_94, k_X12_readHouse_97, k_X12_readHouse_98, k_X12_readHouse_99, k_X12_readHouse_100, k_X12_readHouse_103, k_X12_readHouse_104, k_X12_readHouse_105, k_X12_readHouse_108, k_X12_readHouse_109, k_X12_readHouse_110, k_X12_readHouse_113, k_X12_readHouse_116, k_X12_readHouse_117, k_X12_readHouse_120, k_X12_readHouse_121, k_X12_readHouse_124, k_X12_readHouse_125, k_X12_readHouse_128, k_X12_readHouse_129, k_X12_readHouse_132, k_X12_readHouse_133, k_X12_readHouse_136, k_X12_readHouse_139, k_X12_readHouse_140, k_X12_readHouse_143, k_X12_readHouse_144, w_X12_fails_e, w_X12_isWhole_e, w_X12_look_e, w_X12_readClause_e, w_X12_starts_e, w_X12_usual_e, msk, Mt, MtO, ho_10, ho_9, ho_11, ho_u10, ho_fa, hs, e]
        repeat' (first | apply And.intro | intro _)
        all_goals first | omega | exact absurd trivial (by assumption) | exact ⟨by omega, by omega⟩ | skip
        all_goals (exact ⟨m, p, -1, c, v, rfl, hc, a1, q8, fun g => ⟨⟨by decide, by decide⟩, q9 g⟩⟩)
      · have q9 := fF p p c v vB (hD e) p0
        simp only [↓reduceIte, inR_0, inR_1, inR_m, vSw2_e, swP_n, swP_c, vI_e, vL_e, vNull_e, vIload_e, vLload_e, vAload_e, vIstore_e, vLstore_e, vAstore_e, vIinc_e, vIadd_e, vIsub_e, vImul_e, vIand_e, vIor_e, vIxor_e, vIshl_e, vIshr_e, vIushr_e, vIdiv_e, vIrem_e, vLadd_e, vLsub_e, vLmul_e, vLand_e, vLor_e, vLxor_e, vLdiv_e, vLrem_e, vLushr_e, vLshl_e, vLcmp_e, vIneg_e, vI2l_e, vL2i_e, vI2b_e, vI2c_e, vDup_e, vPop_e, vDup2_e, vGoto_e, vIcEq_e, vIfEq_e, vIcNe_e, vIfNe_e, vIcLt_e, vIfLt_e, vIcGe_e, vIfGe_e, vIcGt_e, vIfGt_e, vIcLe_e, vIfLe_e, vNonnull_e, vSw_e, vGetI_e, vGetL_e, vGetR_e, vPutI_e, vPutZ_e, vPutL_e, vPutR_e, vIald_e, vIald_s, vLald_e, vBald_e, vBald_s, vAald_e, vIast_e, vLast_e, vBast_e, vAast_e, vAlen_e8, vAlen_e9, vAlen_e10, vAlen_e11, vAlen_e5, vAlen_e3, vGets_e, vCompact_e, vLdcS_e, vIret_e, vZret_e, vCret_e, vBret_e, vLret_e, vVret_e, vAret_e, vCallM_e0, vCallMV_e0, vCallS_e0, vCallSV_e0, vCallM_e1, vCallMV_e1, vCallS_e1, vCallSV_e1, vCallM_e2, vCallMV_e2, vCallS_e2, vCallSV_e2, vCallM_e3, vCallMV_e3, vCallS_e3, vCallSV_e3, vCallM_e4, vCallMV_e4, vCallS_e4, vCallSV_e4, vCallM_e5, vCallMV_e5, vCallS_e5, vCallSV_e5, vCallM_e6, vCallMV_e6, vCallS_e6, vCallSV_e6, vCallM_e7, vCallMV_e7, vCallS_e7, vCallSV_e7, vBad_e, vStrVal_e, vStrCod_e, vForm_e, vCallT_e0, vCallT_e1, vCallT_e2, vCopy_e, rf_0_0, rf_0_1, rf_0_2, rf_0_3, rf_0_4, rf_0_7, rf_0_10, rf_0_11, rf_0_12, rf_0_13, rf_0_14, rf_0_15, rf_0_16, rf_1_0, rf_3_0, rf_3_1, rf_6_0, rf_6_1, rf_9_0, rf_9_1, rf_9_3, rf_13_0, rf_13_1, rf_13_2, rf_16_0, rf_16_1, rf_16_2, rf_16_3, rf_21_0, rf_21_1, rf_21_2, rf_21_3, rf_26_0, rf_26_1, rf_26_2, rf_26_3, rf_26_4, rf_26_5, rf_26_6, rf_31_0, rf_31_2, rf_31_5, rf_31_6, rf_36_0, rf_36_1, rf_36_2, rf_36_3, rf_39_0, rf_39_1, rf_39_2, rf_41_0, rf_41_1, rf_41_2, rf_41_3, rf_5000_1, rf_5000_2, rf_5000_3, rf_5000_4, rf_5000_5, rf_5000_15, rf_5000_16, rf_5000_18, rf_5000_19, rf_5000_20, rf_5000_21, rf_5000_22, rf_5000_23, rf_5000_24, rf_5000_25, rf_5000_26, rf_5000_27, rf_5000_36, rf_5000_37, rf_5000_40, rf_5000_41, rf_5000_42, rf_5000_43, rf_5000_44, rf_5000_45, rf_5000_47, rf_5000_52, rf_5000_54, rf_5000_55, rf_100_0, rf_100_1, rf_103_0, rf_103_1, rf_106_0, rf_106_1, rf_109_0, rf_109_1, al_2, al_4, al_5, al_7, al_8, al_10, al_11, al_12, al_14, al_15, al_17, al_18, al_19, al_20, al_22, al_23, al_24, al_25, al_27, al_28, al_29, al_30, al_32, al_33, al_34, al_35, al_37, al_38, al_40, al_42, al_5001, al_5002, al_5003, al_5004, al_5005, al_5006, al_5007, al_5008, al_5009, al_5010, al_5011, al_5012, al_5013, al_5014, al_5015, al_5016, al_5017, al_5018, al_5019, al_5020, al_5021, al_5022, al_5023, al_5024, al_5025, al_5026, al_9000, al_101, al_102, al_104, al_105, al_107, al_108, al_110, al_111, vcs_e, lg_c0, lg_cs, lg_nil, set_c0, set_cs, okst_0, okst_s, acok_n, acok_c, List.contains_nil, List.contains_cons, Bool.or_false, Bool.false_or, Bool.false_eq_true, if_false, if_true, ite_self, ne_eq, true_and, and_true, not_false_eq_true, not_true_eq_false, false_imp_iff, true_imp_iff, Nat.ble_eq, Bool.and_eq_true, reduceCtorEq, or_false, false_or, or_true, true_or, false_and, and_false, and_self, Int.reduceLE, Int.reduceAdd, Int.reduceSub, Int.reduceMul, Int.reduceNeg, Int.reduceLT, Int.reduceEq, Int.reduceNe, Nat.reduceBEq, Nat.reduceBNe, Nat.reduceEqDiff, amCmp_in, amCmp_lt, amCmp_le, amCmp_gt, amCmp_ge, amCmp_eq, amCmp_ne, Nat.reduceLeDiff, Nat.reduceSub, Bool.and_true, Bool.true_and, Bool.and_self, Bool.or_true, Bool.true_or, isRf_3, isRf_4, isRf_5, isRf_8, isRf_9, isRf_10, isRf_11, isRf_15, isRf_16, isRf_17, isRf_18, isRf_19, isRf_20, isRf_21, isRf_22, isRf_23, isRf_24, isRf_25, isRf_26, isRf_27, isRf_28, k_X12_readHouse_0, k_X12_readHouse_1, k_X12_readHouse_2, k_X12_readHouse_5, k_X12_readHouse_6, k_X12_readHouse_7, k_X12_readHouse_10, k_X12_readHouse_13, k_X12_readHouse_14, k_X12_readHouse_15, k_X12_readHouse_18, k_X12_readHouse_19, k_X12_readHouse_20, k_X12_readHouse_23, k_X12_readHouse_24, k_X12_readHouse_25, k_X12_readHouse_28, k_X12_readHouse_29, k_X12_readHouse_30, k_X12_readHouse_33, k_X12_readHouse_34, k_X12_readHouse_35, k_X12_readHouse_36, k_X12_readHouse_37, k_X12_readHouse_40, k_X12_readHouse_41, k_X12_readHouse_44, k_X12_readHouse_45, k_X12_readHouse_47, k_X12_readHouse_48, k_X12_readHouse_51, k_X12_readHouse_52, k_X12_readHouse_55, k_X12_readHouse_58, k_X12_readHouse_59, k_X12_readHouse_60, k_X12_readHouse_61, k_X12_readHouse_64, k_X12_readHouse_65, k_X12_readHouse_68, k_X12_readHouse_69, k_X12_readHouse_72, k_X12_readHouse_73, k_X12_readHouse_76, k_X12_readHouse_77, k_X12_readHouse_80, k_X12_readHouse_81, k_X12_readHouse_84, k_X12_readHouse_85, k_X12_readHouse_88, k_X12_readHouse_90, k_X12_readHouse_93, k_X12_readHouse_94, k_X12_readHouse_97, k_X12_readHouse_98, k_X12_readHouse_99, k_X12_readHouse_100, k_X12_readHouse_103, k_X12_readHouse_104, k_X12_readHouse_105, k_X12_readHouse_108, k_X12_readHouse_109, k_X12_readHouse_110, k_X12_readHouse_113, k_X12_readHouse_116, k_X12_readHouse_117, k_X12_readHouse_120, k_X12_readHouse_121, k_X12_readHouse_124, k_X12_readHouse_125, k_X12_readHouse_128, k_X12_readHouse_129, k_X12_readHouse_132, k_X12_readHouse_133, k_X12_readHouse_136, k_X12_readHouse_139, k_X12_readHouse_140, k_X12_readHouse_143, k_X12_readHouse_144, w_X12_fails_e, w_X12_isWhole_e, w_X12_look_e, w_X12_readClause_e, w_X12_starts_e, w_X12_usual_e, msk, Mt, MtO, ho_10, ho_9, ho_11, ho_u10, ho_fa, hs, e]
        repeat' (first | apply And.intro | intro _)
        all_goals first | omega | exact absurd trivial (by assumption) | exact q9 | exact ⟨by omega, by omega⟩
  · change vcs _ _ _ _ 60 0 [(28, 5000), (6, 0)] [] σ
    have i9 : ∃ k', inv_rho m v0 R k' 35 [(28, 5000), (0, 0)] [] (hoN m 0 (-1) (fun _ => 0) v0) := ⟨2002, rfl, Or.inl ⟨0, rfl, rfl, by rw [show ((0 : Nat) : Int) = 0 from rfl, flv_0], by decide, by decide⟩⟩
    simp only [↓reduceIte, inR_0, inR_1, inR_m, vSw2_e, swP_n, swP_c, vI_e, vL_e, vNull_e, vIload_e, vLload_e, vAload_e, vIstore_e, vLstore_e, vAstore_e, vIinc_e, vIadd_e, vIsub_e, vImul_e, vIand_e, vIor_e, vIxor_e, vIshl_e, vIshr_e, vIushr_e, vIdiv_e, vIrem_e, vLadd_e, vLsub_e, vLmul_e, vLand_e, vLor_e, vLxor_e, vLdiv_e, vLrem_e, vLushr_e, vLshl_e, vLcmp_e, vIneg_e, vI2l_e, vL2i_e, vI2b_e, vI2c_e, vDup_e, vPop_e, vDup2_e, vGoto_e, vIcEq_e, vIfEq_e, vIcNe_e, vIfNe_e, vIcLt_e, vIfLt_e, vIcGe_e, vIfGe_e, vIcGt_e, vIfGt_e, vIcLe_e, vIfLe_e, vNonnull_e, vSw_e, vGetI_e, vGetL_e, vGetR_e, vPutI_e, vPutZ_e, vPutL_e, vPutR_e, vIald_e, vIald_s, vLald_e, vBald_e, vBald_s, vAald_e, vIast_e, vLast_e, vBast_e, vAast_e, vAlen_e8, vAlen_e9, vAlen_e10, vAlen_e11, vAlen_e5, vAlen_e3, vGets_e, vCompact_e, vLdcS_e, vIret_e, vZret_e, vCret_e, vBret_e, vLret_e, vVret_e, vAret_e, vCallM_e0, vCallMV_e0, vCallS_e0, vCallSV_e0, vCallM_e1, vCallMV_e1, vCallS_e1, vCallSV_e1, vCallM_e2, vCallMV_e2, vCallS_e2, vCallSV_e2, vCallM_e3, vCallMV_e3, vCallS_e3, vCallSV_e3, vCallM_e4, vCallMV_e4, vCallS_e4, vCallSV_e4, vCallM_e5, vCallMV_e5, vCallS_e5, vCallSV_e5, vCallM_e6, vCallMV_e6, vCallS_e6, vCallSV_e6, vCallM_e7, vCallMV_e7, vCallS_e7, vCallSV_e7, vBad_e, vStrVal_e, vStrCod_e, vForm_e, vCallT_e0, vCallT_e1, vCallT_e2, vCopy_e, rf_0_0, rf_0_1, rf_0_2, rf_0_3, rf_0_4, rf_0_7, rf_0_10, rf_0_11, rf_0_12, rf_0_13, rf_0_14, rf_0_15, rf_0_16, rf_1_0, rf_3_0, rf_3_1, rf_6_0, rf_6_1, rf_9_0, rf_9_1, rf_9_3, rf_13_0, rf_13_1, rf_13_2, rf_16_0, rf_16_1, rf_16_2, rf_16_3, rf_21_0, rf_21_1, rf_21_2, rf_21_3, rf_26_0, rf_26_1, rf_26_2, rf_26_3, rf_26_4, rf_26_5, rf_26_6, rf_31_0, rf_31_2, rf_31_5, rf_31_6, rf_36_0, rf_36_1, rf_36_2, rf_36_3, rf_39_0, rf_39_1, rf_39_2, rf_41_0, rf_41_1, rf_41_2, rf_41_3, rf_5000_1, rf_5000_2, rf_5000_3, rf_5000_4, rf_5000_5, rf_5000_15, rf_5000_16, rf_5000_18, rf_5000_19, rf_5000_20, rf_5000_21, rf_5000_22, rf_5000_23, rf_5000_24, rf_5000_25, rf_5000_26, rf_5000_27, rf_5000_36, rf_5000_37, rf_5000_40, rf_5000_41, rf_5000_42, rf_5000_43, rf_5000_44, rf_5000_45, rf_5000_47, rf_5000_52, rf_5000_54, rf_5000_55, rf_100_0, rf_100_1, rf_103_0, rf_103_1, rf_106_0, rf_106_1, rf_109_0, rf_109_1, al_2, al_4, al_5, al_7, al_8, al_10, al_11, al_12, al_14, al_15, al_17, al_18, al_19, al_20, al_22, al_23, al_24, al_25, al_27, al_28, al_29, al_30, al_32, al_33, al_34, al_35, al_37, al_38, al_40, al_42, al_5001, al_5002, al_5003, al_5004, al_5005, al_5006, al_5007, al_5008, al_5009, al_5010, al_5011, al_5012, al_5013, al_5014, al_5015, al_5016, al_5017, al_5018, al_5019, al_5020, al_5021, al_5022, al_5023, al_5024, al_5025, al_5026, al_9000, al_101, al_102, al_104, al_105, al_107, al_108, al_110, al_111, vcs_e, lg_c0, lg_cs, lg_nil, set_c0, set_cs, okst_0, okst_s, acok_n, acok_c, List.contains_nil, List.contains_cons, Bool.or_false, Bool.false_or, Bool.false_eq_true, if_false, if_true, ite_self, ne_eq, true_and, and_true, not_false_eq_true, not_true_eq_false, false_imp_iff, true_imp_iff, Nat.ble_eq, Bool.and_eq_true, reduceCtorEq, or_false, false_or, or_true, true_or, false_and, and_false, and_self, Int.reduceLE, Int.reduceAdd, Int.reduceSub, Int.reduceMul, Int.reduceNeg, Int.reduceLT, Int.reduceEq, Int.reduceNe, Nat.reduceBEq, Nat.reduceBNe, Nat.reduceEqDiff, amCmp_in, amCmp_lt, amCmp_le, amCmp_gt, amCmp_ge, amCmp_eq, amCmp_ne, Nat.reduceLeDiff, Nat.reduceSub, Bool.and_true, Bool.true_and, Bool.and_self, Bool.or_true, Bool.true_or, isRf_3, isRf_4, isRf_5, isRf_8, isRf_9, isRf_10, isRf_11, isRf_15, isRf_16, isRf_17, isRf_18, isRf_19, isRf_20, isRf_21, isRf_22, isRf_23, isRf_24, isRf_25, isRf_26, isRf_27, isRf_28, k_X12_readHouse_0, k_X12_readHouse_1, k_X12_readHouse_2, k_X12_readHouse_5, k_X12_readHouse_6, k_X12_readHouse_7, k_X12_readHouse_10, k_X12_readHouse_13, k_X12_readHouse_14, k_X12_readHouse_15, k_X12_readHouse_18, k_X12_readHouse_19, k_X12_readHouse_20, k_X12_readHouse_23, k_X12_readHouse_24, k_X12_readHouse_25, k_X12_readHouse_28, k_X12_readHouse_29, k_X12_readHouse_30, k_X12_readHouse_33, k_X12_readHouse_34, k_X12_readHouse_35, k_X12_readHouse_36, k_X12_readHouse_37, k_X12_readHouse_40, k_X12_readHouse_41, k_X12_readHouse_44, k_X12_readHouse_45, k_X12_readHouse_47, k_X12_readHouse_48, k_X12_readHouse_51, k_X12_readHouse_52, k_X12_readHouse_55, k_X12_readHouse_58, k_X12_readHouse_59, k_X12_readHouse_60, k_X12_readHouse_61, k_X12_readHouse_64, k_X12_readHouse_65, k_X12_readHouse_68, k_X12_readHouse_69, k_X12_readHouse_72, k_X12_readHouse_73, k_X12_readHouse_76, k_X12_readHouse_77, k_X12_readHouse_80, k_X12_readHouse_81, k_X12_readHouse_84, k_X12_readHouse_85, k_X12_readHouse_88, k_X12_readHouse_90, k_X12_readHouse_93, k_X12_readHouse_94, k_X12_readHouse_97, k_X12_readHouse_98, k_X12_readHouse_99, k_X12_readHouse_100, k_X12_readHouse_103, k_X12_readHouse_104, k_X12_readHouse_105, k_X12_readHouse_108, k_X12_readHouse_109, k_X12_readHouse_110, k_X12_readHouse_113, k_X12_readHouse_116, k_X12_readHouse_117, k_X12_readHouse_120, k_X12_readHouse_121, k_X12_readHouse_124, k_X12_readHouse_125, k_X12_readHouse_128, k_X12_readHouse_129, k_X12_readHouse_132, k_X12_readHouse_133, k_X12_readHouse_136, k_X12_readHouse_139, k_X12_readHouse_140, k_X12_readHouse_143, k_X12_readHouse_144, w_X12_fails_e, w_X12_isWhole_e, w_X12_look_e, w_X12_readClause_e, w_X12_starts_e, w_X12_usual_e, hm, e0]
    repeat' (first | apply And.intro | intro _)
    all_goals first | omega | exact absurd trivial (by assumption) | exact i9 | exact Or.inl rfl
/-! the reference: BORNE as asked -/
theorem tryB0 {σ : Mem} (hx : mX σ 5015) : tryB (th0 σ) (tr51 σ) := by
  have l27 := hx.2.2.2.2.2.2
  have h0 := try0 hx
  refine ⟨h0.1, h0.2.1, fun j j0 j1 _ _ => ?_, h0.2.2.2.1, h0.2.2.2.2⟩
  rw [up_na _ (by decide), up_na _ (by decide), trC_j l27.1 j0 j1, th_o σ (by decide)]
theorem wd_1884 : Cond.constantLong RX12 477 4 ∈ TBL := tb_tab (List.mem_of_getElem? (i := 1884) (by decide +kernel)) rfl
def a_X12_borne (d : Nat) : AC := [(0, vAload 0 1), (1, vI 0 2), (2, vPutI 28 0 5), (5, vAload 0 6), (6, vGetI 28 29 9), (9, vIfEq 34 12), (12, vIload 1 13), (13, vI2l 14), (14, vL 1 15), (15, vL 4 18), (18, vCallS w_X12_isIn 3 21), (21, vIfEq 34 24), (24, vIload 2 25), (25, vI2l 26), (26, vL 0 27), (27, vL 1 28), (28, vCallS w_X12_isIn 3 31), (31, vIfNe 36 34), (34, vI (-1) 35), (35, vIret), (36, vAload 0 37), (37, vGetR TT 28 36 8 40), (40, vAload 0 41), (41, vGetR TT 28 37 8 44), (44, vCallSV w_X12_copy 2 47), (47, vAload 0 48), (48, vI (-1) 49), (49, vPutI 28 51 52), (52, vAload 0 53), (53, vI (-1) 54), (54, vPutI 28 50 57), (57, vAload 0 58), (58, vIload 1 59), (59, vAload 0 60), (60, vGetR TT 28 36 8 63), (63, vI 24 65), (65, vIald TT 66), (66, vAload 0 67), (67, vGetR TT 28 36 8 70), (70, vI 26 72), (72, vIald TT 73), (73, vI 0 74), (74, vI 0 75), (75, vCallMV (w_X12_goBorne d) 28 5 78), (78, vIload 2 79), (79, vIfNe 89 82), (82, vAload 0 83), (83, vGetI 28 50 86), (86, vGoto 93), (89, vAload 0 90), (90, vGetI 28 51 93), (93, vIret)]
theorem k_X12_borne_0 (d : Nat) : look (a_X12_borne d) 0 = vAload 0 1 := rfl
theorem k_X12_borne_1 (d : Nat) : look (a_X12_borne d) 1 = vI 0 2 := rfl
theorem k_X12_borne_2 (d : Nat) : look (a_X12_borne d) 2 = vPutI 28 0 5 := rfl
theorem k_X12_borne_5 (d : Nat) : look (a_X12_borne d) 5 = vAload 0 6 := rfl
theorem k_X12_borne_6 (d : Nat) : look (a_X12_borne d) 6 = vGetI 28 29 9 := rfl
theorem k_X12_borne_9 (d : Nat) : look (a_X12_borne d) 9 = vIfEq 34 12 := rfl
theorem k_X12_borne_12 (d : Nat) : look (a_X12_borne d) 12 = vIload 1 13 := rfl
theorem k_X12_borne_13 (d : Nat) : look (a_X12_borne d) 13 = vI2l 14 := rfl
theorem k_X12_borne_14 (d : Nat) : look (a_X12_borne d) 14 = vL 1 15 := rfl
theorem k_X12_borne_15 (d : Nat) : look (a_X12_borne d) 15 = vL 4 18 := rfl
theorem k_X12_borne_18 (d : Nat) : look (a_X12_borne d) 18 = vCallS w_X12_isIn 3 21 := rfl
theorem k_X12_borne_21 (d : Nat) : look (a_X12_borne d) 21 = vIfEq 34 24 := rfl
theorem k_X12_borne_24 (d : Nat) : look (a_X12_borne d) 24 = vIload 2 25 := rfl
theorem k_X12_borne_25 (d : Nat) : look (a_X12_borne d) 25 = vI2l 26 := rfl
theorem k_X12_borne_26 (d : Nat) : look (a_X12_borne d) 26 = vL 0 27 := rfl
theorem k_X12_borne_27 (d : Nat) : look (a_X12_borne d) 27 = vL 1 28 := rfl
theorem k_X12_borne_28 (d : Nat) : look (a_X12_borne d) 28 = vCallS w_X12_isIn 3 31 := rfl
theorem k_X12_borne_31 (d : Nat) : look (a_X12_borne d) 31 = vIfNe 36 34 := rfl
theorem k_X12_borne_34 (d : Nat) : look (a_X12_borne d) 34 = vI (-1) 35 := rfl
theorem k_X12_borne_35 (d : Nat) : look (a_X12_borne d) 35 = vIret := rfl
theorem k_X12_borne_36 (d : Nat) : look (a_X12_borne d) 36 = vAload 0 37 := rfl
theorem k_X12_borne_37 (d : Nat) : look (a_X12_borne d) 37 = vGetR TT 28 36 8 40 := rfl
theorem k_X12_borne_40 (d : Nat) : look (a_X12_borne d) 40 = vAload 0 41 := rfl
theorem k_X12_borne_41 (d : Nat) : look (a_X12_borne d) 41 = vGetR TT 28 37 8 44 := rfl
theorem k_X12_borne_44 (d : Nat) : look (a_X12_borne d) 44 = vCallSV w_X12_copy 2 47 := rfl
theorem k_X12_borne_47 (d : Nat) : look (a_X12_borne d) 47 = vAload 0 48 := rfl
theorem k_X12_borne_48 (d : Nat) : look (a_X12_borne d) 48 = vI (-1) 49 := rfl
theorem k_X12_borne_49 (d : Nat) : look (a_X12_borne d) 49 = vPutI 28 51 52 := rfl
theorem k_X12_borne_52 (d : Nat) : look (a_X12_borne d) 52 = vAload 0 53 := rfl
theorem k_X12_borne_53 (d : Nat) : look (a_X12_borne d) 53 = vI (-1) 54 := rfl
theorem k_X12_borne_54 (d : Nat) : look (a_X12_borne d) 54 = vPutI 28 50 57 := rfl
theorem k_X12_borne_57 (d : Nat) : look (a_X12_borne d) 57 = vAload 0 58 := rfl
theorem k_X12_borne_58 (d : Nat) : look (a_X12_borne d) 58 = vIload 1 59 := rfl
theorem k_X12_borne_59 (d : Nat) : look (a_X12_borne d) 59 = vAload 0 60 := rfl
theorem k_X12_borne_60 (d : Nat) : look (a_X12_borne d) 60 = vGetR TT 28 36 8 63 := rfl
theorem k_X12_borne_63 (d : Nat) : look (a_X12_borne d) 63 = vI 24 65 := rfl
theorem k_X12_borne_65 (d : Nat) : look (a_X12_borne d) 65 = vIald TT 66 := rfl
theorem k_X12_borne_66 (d : Nat) : look (a_X12_borne d) 66 = vAload 0 67 := rfl
theorem k_X12_borne_67 (d : Nat) : look (a_X12_borne d) 67 = vGetR TT 28 36 8 70 := rfl
theorem k_X12_borne_70 (d : Nat) : look (a_X12_borne d) 70 = vI 26 72 := rfl
theorem k_X12_borne_72 (d : Nat) : look (a_X12_borne d) 72 = vIald TT 73 := rfl
theorem k_X12_borne_73 (d : Nat) : look (a_X12_borne d) 73 = vI 0 74 := rfl
theorem k_X12_borne_74 (d : Nat) : look (a_X12_borne d) 74 = vI 0 75 := rfl
theorem k_X12_borne_75 (d : Nat) : look (a_X12_borne d) 75 = vCallMV (w_X12_goBorne d) 28 5 78 := rfl
theorem k_X12_borne_78 (d : Nat) : look (a_X12_borne d) 78 = vIload 2 79 := rfl
theorem k_X12_borne_79 (d : Nat) : look (a_X12_borne d) 79 = vIfNe 89 82 := rfl
theorem k_X12_borne_82 (d : Nat) : look (a_X12_borne d) 82 = vAload 0 83 := rfl
theorem k_X12_borne_83 (d : Nat) : look (a_X12_borne d) 83 = vGetI 28 50 86 := rfl
theorem k_X12_borne_86 (d : Nat) : look (a_X12_borne d) 86 = vGoto 93 := rfl
theorem k_X12_borne_89 (d : Nat) : look (a_X12_borne d) 89 = vAload 0 90 := rfl
theorem k_X12_borne_90 (d : Nat) : look (a_X12_borne d) 90 = vGetI 28 51 93 := rfl
theorem k_X12_borne_93 (d : Nat) : look (a_X12_borne d) 93 = vIret := rfl
theorem o_X12_borne {X : amX} (d : Nat) (h6 : d ≤ 4) (e1 : XT X = TT) (e2 : XD X = 70) (hB : amB X RX12 cX12_borne (some .int) 3) : ∀ pc, amOK X pc (look (a_X12_borne d) pc) := by
  have hT : amTok (XT X) := e1 ▸ TT_ok
  refine look_ok ?_
  unfold a_X12_borne
  refine fc (ok_aload_n hB dX12_borne_0) ?_
  refine fc (ok_iconst hB dX12_borne_1) ?_
  refine fc (ok_putI hB hT fp_X12_111 rfl rfl rfl af_12_0 dX12_borne_2) ?_
  refine fc (ok_aload_n hB dX12_borne_5) ?_
  refine fc (ok_getI hB hT fl_X12_317 rfl rfl (Or.inl af_12_29) dX12_borne_6) ?_
  refine fc (ok_if_eq hB (t := 34) (by decide) dX12_borne_9) ?_
  refine fc (ok_iload_n hB dX12_borne_12) ?_
  refine fc (ok_i2l hB dX12_borne_13) ?_
  refine fc (ok_lconst hB (z := 1) (by decide) dX12_borne_14) ?_
  refine fc (ok_ldc2 hB wd_1884 rfl dX12_borne_15) ?_
  refine fc (ok_callS hB (e1 ▸ s_X12_isIn) lk_X12_232 (by rw [e2]; omega) wd_1502 dX12_borne_18) ?_
  refine fc (ok_if_eq hB (t := 34) (by decide) dX12_borne_21) ?_
  refine fc (ok_iload_n hB dX12_borne_24) ?_
  refine fc (ok_i2l hB dX12_borne_25) ?_
  refine fc (ok_lconst hB (z := 0) (by decide) dX12_borne_26) ?_
  refine fc (ok_lconst hB (z := 1) (by decide) dX12_borne_27) ?_
  refine fc (ok_callS hB (e1 ▸ s_X12_isIn) lk_X12_232 (by rw [e2]; omega) wd_1502 dX12_borne_28) ?_
  refine fc (ok_if_ne hB (t := 36) (by decide) dX12_borne_31) ?_
  refine fc (ok_iconst hB dX12_borne_34) ?_
  refine fc (ok_iret hB dX12_borne_35) ?_
  refine fc (ok_aload_n hB dX12_borne_36) ?_
  refine fc (okt_getR e1 hB hT fl_X12_67 rfl af_12_36 at_12_36 (by decide) dX12_borne_37) ?_
  refine fc (ok_aload_n hB dX12_borne_40) ?_
  refine fc (okt_getR e1 hB hT fl_X12_70 rfl af_12_37 at_12_37 (by decide) dX12_borne_41) ?_
  refine fc (ok_callSV hB (e1 ▸ s_X12_copy) lk_X12_419 (by rw [e2]; omega) wd_1790 dX12_borne_44) ?_
  refine fc (ok_aload_n hB dX12_borne_47) ?_
  refine fc (ok_iconst hB dX12_borne_48) ?_
  refine fc (ok_putI hB hT fp_X12_429 rfl rfl rfl af_12_51 dX12_borne_49) ?_
  refine fc (ok_aload_n hB dX12_borne_52) ?_
  refine fc (ok_iconst hB dX12_borne_53) ?_
  refine fc (ok_putI hB hT fp_X12_436 rfl rfl rfl af_12_50 dX12_borne_54) ?_
  refine fc (ok_aload_n hB dX12_borne_57) ?_
  refine fc (ok_iload_n hB dX12_borne_58) ?_
  refine fc (ok_aload_n hB dX12_borne_59) ?_
  refine fc (okt_getR e1 hB hT fl_X12_67 rfl af_12_36 at_12_36 (by decide) dX12_borne_60) ?_
  refine fc (ok_bipush hB dX12_borne_63 (by decide)) ?_
  refine fc (okt_iaload e1 hB dX12_borne_65) ?_
  refine fc (ok_aload_n hB dX12_borne_66) ?_
  refine fc (okt_getR e1 hB hT fl_X12_67 rfl af_12_36 at_12_36 (by decide) dX12_borne_67) ?_
  refine fc (ok_bipush hB dX12_borne_70 (by decide)) ?_
  refine fc (okt_iaload e1 hB dX12_borne_72) ?_
  refine fc (ok_iconst hB dX12_borne_73) ?_
  refine fc (ok_iconst hB dX12_borne_74) ?_
  refine fc (ok_callMV hB hT (fun av9 σ9 Q9 h9 => e1 ▸ (s_X12_goBorne d (boS d)) av9 σ9 Q9 h9) lk_X12_473 (by rw [e2]; omega) (c := 12) rfl rfl rfl wd_1887 sl_X12_goBorne dX12_borne_75) ?_
  refine fc (ok_iload_n hB dX12_borne_78) ?_
  refine fc (ok_if_ne hB (t := 89) (by decide) dX12_borne_79) ?_
  refine fc (ok_aload_n hB dX12_borne_82) ?_
  refine fc (ok_getI hB hT fl_X12_436 rfl rfl (Or.inl af_12_50) dX12_borne_83) ?_
  refine fc (ok_goto hB (t := 93) (by decide) dX12_borne_86) ?_
  refine fc (ok_aload_n hB dX12_borne_89) ?_
  refine fc (ok_getI hB hT fl_X12_429 rfl rfl (Or.inl af_12_51) dX12_borne_90) ?_
  refine fc (ok_iret hB dX12_borne_93) ?_
  exact fn

def w_X12_borne (d : Nat) : WP := fun av σ Q => ∃ (n : Int) (w : Int), av = [(28, 5000), (0, n), (0, w)] ∧ (InR n ∧ InR w ∧ mX σ 5015 ∧ σ 5015 26 ≤ 1000 ∧ (1 ≤ n → n ≤ 4 → n = d) ∧ (¬ (σ 5000 29 ≠ 0 ∧ (1 ≤ n ∧ n ≤ 4) ∧ 0 ≤ w ∧ w ≤ 1) → Q (0, -1) (th0 σ)) ∧ (σ 5000 29 ≠ 0 ∧ (1 ≤ n ∧ n ≤ 4) ∧ 0 ≤ w ∧ w ≤ 1 → ∀ τ, QF σ τ → mOk τ → Q (0, if w = 0 then (bnF (th0 σ) d (σ 5015 24) (σ 5015 26) 0 0 (-1, -1)).1 else (bnF (th0 σ) d (σ 5015 24) (σ 5015 26) 0 0 (-1, -1)).2) τ))
theorem w_X12_borne_e (d : Nat) (n : Int) (w : Int) (σ : Mem) (Q : AV → Mem → Prop) : w_X12_borne d [(28, 5000), (0, n), (0, w)] σ Q = (InR n ∧ InR w ∧ mX σ 5015 ∧ σ 5015 26 ≤ 1000 ∧ (1 ≤ n → n ≤ 4 → n = d) ∧ (¬ (σ 5000 29 ≠ 0 ∧ (1 ≤ n ∧ n ≤ 4) ∧ 0 ≤ w ∧ w ≤ 1) → Q (0, -1) (th0 σ)) ∧ (σ 5000 29 ≠ 0 ∧ (1 ≤ n ∧ n ≤ 4) ∧ 0 ≤ w ∧ w ≤ 1 → ∀ τ, QF σ τ → mOk τ → Q (0, if w = 0 then (bnF (th0 σ) d (σ 5015 24) (σ 5015 26) 0 0 (-1, -1)).1 else (bnF (th0 σ) d (σ 5015 24) (σ 5015 26) 0 0 (-1, -1)).2) τ)) := by
  apply propext; constructor
  · rintro ⟨n', w', h9, hb9⟩; cases h9; exact hb9
  · intro hb9; exact ⟨n, w, rfl, hb9⟩

set_option maxRecDepth 100000 in
set_option maxHeartbeats 4000000 in
theorem s_X12_borne (d : Nat) (h6 : d ≤ 4) : ∀ av σ Q, w_X12_borne d av σ Q → amCall (70) 0 0 TT yX12_borne cX12_borne 3 (some .int) av σ Q := by
  rintro av σ Q ⟨n, w, rfl, hn, hw, hx, he, hd, h1, h2⟩
  have e29 : th0 σ 5000 29 = σ 5000 29 := th_k σ (by decide)
  have t15 : th0 σ 5015 = σ 5015 := th_o σ (by decide)
  have n29 := hx.2.1.2.2.1
  have l27 := hx.2.2.2.2.2.2
  have r24 := hx.2.2.2.1
  have r26 := hx.2.2.2.2.2.1
  have hxt := mX_th hx
  have hT := tryB0 hx
  have et : cpy (th0 σ) 5015 0 5016 0 (28 + 3 * σ 5015 27) = trC σ := rfl
  have g15 : tr51 σ 5015 = σ 5015 := by rw [up_na _ (by decide), up_na _ (by decide), trC_o σ (by decide)]; exact t15
  by_cases d0 : σ 5000 29 = 0
  · have q8 := h1 (by omega)
    refine am_m [36] (fun _ _ _ _ _ => False) (own := RX12) (A := look (a_X12_borne d)) (fun X e1 e2 hB => o_X12_borne d h6 e1 e2 hB) rfl (by decide +kernel) rfl rfl (fun _ _ _ _ _ h => absurd h id) ⟨60, ?_⟩ (w := 3)
    change vcs _ _ _ _ 60 0 [(28, 5000), (0, n), (0, w)] [] σ
    simp only [↓reduceIte, inR_0, inR_1, inR_m, vSw2_e, swP_n, swP_c, vI_e, vL_e, vNull_e, vIload_e, vLload_e, vAload_e, vIstore_e, vLstore_e, vAstore_e, vIinc_e, vIadd_e, vIsub_e, vImul_e, vIand_e, vIor_e, vIxor_e, vIshl_e, vIshr_e, vIushr_e, vIdiv_e, vIrem_e, vLadd_e, vLsub_e, vLmul_e, vLand_e, vLor_e, vLxor_e, vLdiv_e, vLrem_e, vLushr_e, vLshl_e, vLcmp_e, vIneg_e, vI2l_e, vL2i_e, vI2b_e, vI2c_e, vDup_e, vPop_e, vDup2_e, vGoto_e, vIcEq_e, vIfEq_e, vIcNe_e, vIfNe_e, vIcLt_e, vIfLt_e, vIcGe_e, vIfGe_e, vIcGt_e, vIfGt_e, vIcLe_e, vIfLe_e, vNonnull_e, vSw_e, vGetI_e, vGetL_e, vGetR_e, vPutI_e, vPutZ_e, vPutL_e, vPutR_e, vIald_e, vIald_s, vLald_e, vBald_e, vBald_s, vAald_e, vIast_e, vLast_e, vBast_e, vAast_e, vAlen_e8, vAlen_e9, vAlen_e10, vAlen_e11, vAlen_e5, vAlen_e3, vGets_e, vCompact_e, vLdcS_e, vIret_e, vZret_e, vCret_e, vBret_e, vLret_e, vVret_e, vAret_e, vCallM_e0, vCallMV_e0, vCallS_e0, vCallSV_e0, vCallM_e1, vCallMV_e1, vCallS_e1, vCallSV_e1, vCallM_e2, vCallMV_e2, vCallS_e2, vCallSV_e2, vCallM_e3, vCallMV_e3, vCallS_e3, vCallSV_e3, vCallM_e4, vCallMV_e4, vCallS_e4, vCallSV_e4, vCallM_e5, vCallMV_e5, vCallS_e5, vCallSV_e5, vCallM_e6, vCallMV_e6, vCallS_e6, vCallSV_e6, vCallM_e7, vCallMV_e7, vCallS_e7, vCallSV_e7, vBad_e, vStrVal_e, vStrCod_e, vForm_e, vCallT_e0, vCallT_e1, vCallT_e2, vCopy_e, rf_0_0, rf_0_1, rf_0_2, rf_0_3, rf_0_4, rf_0_7, rf_0_10, rf_0_11, rf_0_12, rf_0_13, rf_0_14, rf_0_15, rf_0_16, rf_1_0, rf_3_0, rf_3_1, rf_6_0, rf_6_1, rf_9_0, rf_9_1, rf_9_3, rf_13_0, rf_13_1, rf_13_2, rf_16_0, rf_16_1, rf_16_2, rf_16_3, rf_21_0, rf_21_1, rf_21_2, rf_21_3, rf_26_0, rf_26_1, rf_26_2, rf_26_3, rf_26_4, rf_26_5, rf_26_6, rf_31_0, rf_31_2, rf_31_5, rf_31_6, rf_36_0, rf_36_1, rf_36_2, rf_36_3, rf_39_0, rf_39_1, rf_39_2, rf_41_0, rf_41_1, rf_41_2, rf_41_3, rf_5000_1, rf_5000_2, rf_5000_3, rf_5000_4, rf_5000_5, rf_5000_15, rf_5000_16, rf_5000_18, rf_5000_19, rf_5000_20, rf_5000_21, rf_5000_22, rf_5000_23, rf_5000_24, rf_5000_25, rf_5000_26, rf_5000_27, rf_5000_36, rf_5000_37, rf_5000_40, rf_5000_41, rf_5000_42, rf_5000_43, rf_5000_44, rf_5000_45, rf_5000_47, rf_5000_52, rf_5000_54, rf_5000_55, rf_100_0, rf_100_1, rf_103_0, rf_103_1, rf_106_0, rf_106_1, rf_109_0, rf_109_1, al_2, al_4, al_5, al_7, al_8, al_10, al_11, al_12, al_14, al_15, al_17, al_18, al_19, al_20, al_22, al_23, al_24, al_25, al_27, al_28, al_29, al_30, al_32, al_33, al_34, al_35, al_37, al_38, al_40, al_42, al_5001, al_5002, al_5003, al_5004, al_5005, al_5006, al_5007, al_5008, al_5009, al_5010, al_5011, al_5012, al_5013, al_5014, al_5015, al_5016, al_5017, al_5018, al_5019, al_5020, al_5021, al_5022, al_5023, al_5024, al_5025, al_5026, al_9000, al_101, al_102, al_104, al_105, al_107, al_108, al_110, al_111, vcs_e, lg_c0, lg_cs, lg_nil, set_c0, set_cs, okst_0, okst_s, acok_n, acok_c, List.contains_nil, List.contains_cons, Bool.or_false, Bool.false_or, Bool.false_eq_true, if_false, if_true, ite_self, ne_eq, true_and, and_true, not_false_eq_true, not_true_eq_false, false_imp_iff, true_imp_iff, Nat.ble_eq, Bool.and_eq_true, reduceCtorEq, or_false, false_or, or_true, true_or, false_and, and_false, and_self, Int.reduceLE, Int.reduceAdd, Int.reduceSub, Int.reduceMul, Int.reduceNeg, Int.reduceLT, Int.reduceEq, Int.reduceNe, Nat.reduceBEq, Nat.reduceBNe, Nat.reduceEqDiff, amCmp_in, amCmp_lt, amCmp_le, amCmp_gt, amCmp_ge, amCmp_eq, amCmp_ne, Nat.reduceLeDiff, Nat.reduceSub, Bool.and_true, Bool.true_and, Bool.and_self, Bool.or_true, Bool.true_or, isRf_3, isRf_4, isRf_5, isRf_8, isRf_9, isRf_10, isRf_11, isRf_15, isRf_16, isRf_17, isRf_18, isRf_19, isRf_20, isRf_21, isRf_22, isRf_23, isRf_24, isRf_25, isRf_26, isRf_27, isRf_28, k_X12_borne_0, k_X12_borne_1, k_X12_borne_2, k_X12_borne_5, k_X12_borne_6, k_X12_borne_9, k_X12_borne_12, k_X12_borne_13, k_X12_borne_14, k_X12_borne_15, k_X12_borne_18, k_X12_borne_21, k_X12_borne_24, k_X12_borne_25, k_X12_borne_26, k_X12_borne_27, k_X12_borne_28, k_X12_borne_31, k_X12_borne_34, k_X12_borne_35, k_X12_borne_36, k_X12_borne_37, k_X12_borne_40, k_X12_borne_41, k_X12_borne_44, k_X12_borne_47, k_X12_borne_48, k_X12_borne_49, k_X12_borne_52, k_X12_borne_53, k_X12_borne_54, k_X12_borne_57, k_X12_borne_58, k_X12_borne_59, k_X12_borne_60, k_X12_borne_63, k_X12_borne_65, k_X12_borne_66, k_X12_borne_67, k_X12_borne_70, k_X12_borne_72, k_X12_borne_73, k_X12_borne_74, k_X12_borne_75, k_X12_borne_78, k_X12_borne_79, k_X12_borne_82, k_X12_borne_83, k_X12_borne_86, k_X12_borne_89, k_X12_borne_90, k_X12_borne_93, w_X12_copy_e, w_X12_goBorne_e, w_X12_isIn_e, e29, d0]
    repeat' (first | apply And.intro | intro _)
    all_goals first | omega | exact absurd trivial (by assumption) | exact q8
  · by_cases d1 : 1 ≤ n ∧ n ≤ 4
    · by_cases d3 : 0 ≤ w ∧ w ≤ 1
      · have hq := h2 ⟨d0, d1, d3⟩
        have hd' := hd d1.1 d1.2
        have fin : ∀ τ, tryB (th0 σ) τ → (τ 5000 50, τ 5000 51) = bnF (th0 σ) d (σ 5015 24) (σ 5015 26) 0 0 (-1, -1) → (w = 0 → Q (0, τ 5000 50) τ) ∧ (¬ w = 0 → Q (0, τ 5000 51) τ) := fun τ a e => by
          have := hq τ (QF_tr (QF_th σ) a.1) a.2.1
          rw [← e] at this
          exact ⟨fun q => by rw [if_pos q] at this; exact this, fun q => by rw [if_neg q] at this; exact this⟩
        refine am_m0 (own := RX12) (A := look (a_X12_borne d)) (fun X e1 e2 hB => o_X12_borne d h6 e1 e2 hB) rfl (by decide +kernel) rfl rfl 120 (w := 3) ?_
        change vcs _ _ _ _ 120 0 [(28, 5000), (0, n), (0, w)] [] σ
        simp only [↓reduceIte, inR_0, inR_1, inR_m, vSw2_e, swP_n, swP_c, vI_e, vL_e, vNull_e, vIload_e, vLload_e, vAload_e, vIstore_e, vLstore_e, vAstore_e, vIinc_e, vIadd_e, vIsub_e, vImul_e, vIand_e, vIor_e, vIxor_e, vIshl_e, vIshr_e, vIushr_e, vIdiv_e, vIrem_e, vLadd_e, vLsub_e, vLmul_e, vLand_e, vLor_e, vLxor_e, vLdiv_e, vLrem_e, vLushr_e, vLshl_e, vLcmp_e, vIneg_e, vI2l_e, vL2i_e, vI2b_e, vI2c_e, vDup_e, vPop_e, vDup2_e, vGoto_e, vIcEq_e, vIfEq_e, vIcNe_e, vIfNe_e, vIcLt_e, vIfLt_e, vIcGe_e, vIfGe_e, vIcGt_e, vIfGt_e, vIcLe_e, vIfLe_e, vNonnull_e, vSw_e, vGetI_e, vGetL_e, vGetR_e, vPutI_e, vPutZ_e, vPutL_e, vPutR_e, vIald_e, vIald_s, vLald_e, vBald_e, vBald_s, vAald_e, vIast_e, vLast_e, vBast_e, vAast_e, vAlen_e8, vAlen_e9, vAlen_e10, vAlen_e11, vAlen_e5, vAlen_e3, vGets_e, vCompact_e, vLdcS_e, vIret_e, vZret_e, vCret_e, vBret_e, vLret_e, vVret_e, vAret_e, vCallM_e0, vCallMV_e0, vCallS_e0, vCallSV_e0, vCallM_e1, vCallMV_e1, vCallS_e1, vCallSV_e1, vCallM_e2, vCallMV_e2, vCallS_e2, vCallSV_e2, vCallM_e3, vCallMV_e3, vCallS_e3, vCallSV_e3, vCallM_e4, vCallMV_e4, vCallS_e4, vCallSV_e4, vCallM_e5, vCallMV_e5, vCallS_e5, vCallSV_e5, vCallM_e6, vCallMV_e6, vCallS_e6, vCallSV_e6, vCallM_e7, vCallMV_e7, vCallS_e7, vCallSV_e7, vBad_e, vStrVal_e, vStrCod_e, vForm_e, vCallT_e0, vCallT_e1, vCallT_e2, vCopy_e, rf_0_0, rf_0_1, rf_0_2, rf_0_3, rf_0_4, rf_0_7, rf_0_10, rf_0_11, rf_0_12, rf_0_13, rf_0_14, rf_0_15, rf_0_16, rf_1_0, rf_3_0, rf_3_1, rf_6_0, rf_6_1, rf_9_0, rf_9_1, rf_9_3, rf_13_0, rf_13_1, rf_13_2, rf_16_0, rf_16_1, rf_16_2, rf_16_3, rf_21_0, rf_21_1, rf_21_2, rf_21_3, rf_26_0, rf_26_1, rf_26_2, rf_26_3, rf_26_4, rf_26_5, rf_26_6, rf_31_0, rf_31_2, rf_31_5, rf_31_6, rf_36_0, rf_36_1, rf_36_2, rf_36_3, rf_39_0, rf_39_1, rf_39_2, rf_41_0, rf_41_1, rf_41_2, rf_41_3, rf_5000_1, rf_5000_2, rf_5000_3, rf_5000_4, rf_5000_5, rf_5000_15, rf_5000_16, rf_5000_18, rf_5000_19, rf_5000_20, rf_5000_21, rf_5000_22, rf_5000_23, rf_5000_24, rf_5000_25, rf_5000_26, rf_5000_27, rf_5000_36, rf_5000_37, rf_5000_40, rf_5000_41, rf_5000_42, rf_5000_43, rf_5000_44, rf_5000_45, rf_5000_47, rf_5000_52, rf_5000_54, rf_5000_55, rf_100_0, rf_100_1, rf_103_0, rf_103_1, rf_106_0, rf_106_1, rf_109_0, rf_109_1, al_2, al_4, al_5, al_7, al_8, al_10, al_11, al_12, al_14, al_15, al_17, al_18, al_19, al_20, al_22, al_23, al_24, al_25, al_27, al_28, al_29, al_30, al_32, al_33, al_34, al_35, al_37, al_38, al_40, al_42, al_5001, al_5002, al_5003, al_5004, al_5005, al_5006, al_5007, al_5008, al_5009, al_5010, al_5011, al_5012, al_5013, al_5014, al_5015, al_5016, al_5017, al_5018, al_5019, al_5020, al_5021, al_5022, al_5023, al_5024, al_5025, al_5026, al_9000, al_101, al_102, al_104, al_105, al_107, al_108, al_110, al_111, vcs_e, lg_c0, lg_cs, lg_nil, set_c0, set_cs, okst_0, okst_s, acok_n, acok_c, List.contains_nil, List.contains_cons, Bool.or_false, Bool.false_or, Bool.false_eq_true, if_false, if_true, ite_self, ne_eq, true_and, and_true, not_false_eq_true, not_true_eq_false, false_imp_iff, true_imp_iff, Nat.ble_eq, Bool.and_eq_true, reduceCtorEq, or_false, false_or, or_true, true_or, false_and, and_false, and_self, Int.reduceLE, Int.reduceAdd, Int.reduceSub, Int.reduceMul, Int.reduceNeg, Int.reduceLT, Int.reduceEq, Int.reduceNe, Nat.reduceBEq, Nat.reduceBNe, Nat.reduceEqDiff, amCmp_in, amCmp_lt, amCmp_le, amCmp_gt, amCmp_ge, amCmp_eq, amCmp_ne, Nat.reduceLeDiff, Nat.reduceSub, Bool.and_true, Bool.true_and, Bool.and_self, Bool.or_true, Bool.true_or, isRf_3, isRf_4, isRf_5, isRf_8, isRf_9, isRf_10, isRf_11, isRf_15, isRf_16, isRf_17, isRf_18, isRf_19, isRf_20, isRf_21, isRf_22, isRf_23, isRf_24, isRf_25, isRf_26, isRf_27, isRf_28, k_X12_borne_0, k_X12_borne_1, k_X12_borne_2, k_X12_borne_5, k_X12_borne_6, k_X12_borne_9, k_X12_borne_12, k_X12_borne_13, k_X12_borne_14, k_X12_borne_15, k_X12_borne_18, k_X12_borne_21, k_X12_borne_24, k_X12_borne_25, k_X12_borne_26, k_X12_borne_27, k_X12_borne_28, k_X12_borne_31, k_X12_borne_34, k_X12_borne_35, k_X12_borne_36, k_X12_borne_37, k_X12_borne_40, k_X12_borne_41, k_X12_borne_44, k_X12_borne_47, k_X12_borne_48, k_X12_borne_49, k_X12_borne_52, k_X12_borne_53, k_X12_borne_54, k_X12_borne_57, k_X12_borne_58, k_X12_borne_59, k_X12_borne_60, k_X12_borne_63, k_X12_borne_65, k_X12_borne_66, k_X12_borne_67, k_X12_borne_70, k_X12_borne_72, k_X12_borne_73, k_X12_borne_74, k_X12_borne_75, k_X12_borne_78, k_X12_borne_79, k_X12_borne_82, k_X12_borne_83, k_X12_borne_86, k_X12_borne_89, k_X12_borne_90, k_X12_borne_93, w_X12_copy_e, w_X12_goBorne_e, w_X12_isIn_e, e29, t15, et, g15, d0, if_pos d1, if_pos d3]
        repeat' (first | apply And.intro | intro _)
        all_goals first | omega | exact absurd trivial (by assumption) | skip
        all_goals (refine ⟨th0 σ, hxt, by omega, by omega, by omega, by omega, by omega, by omega, hT, by rw [up_nj _ (by decide), up_s]; exact ⟨by decide, by decide⟩, fun τ a b e => ?_⟩
                   rw [up_s, up_nj _ (by decide), up_s] at e
                   obtain ⟨f1, f2⟩ := fin τ a e
                   repeat' (first | apply And.intro | intro _)
                   all_goals first | omega | exact f1 (by assumption) | exact f2 (by assumption))
      · have q8 := h1 (by omega)
        refine am_m [36] (fun _ _ _ _ _ => False) (own := RX12) (A := look (a_X12_borne d)) (fun X e1 e2 hB => o_X12_borne d h6 e1 e2 hB) rfl (by decide +kernel) rfl rfl (fun _ _ _ _ _ h => absurd h id) ⟨60, ?_⟩ (w := 3)
        change vcs _ _ _ _ 60 0 [(28, 5000), (0, n), (0, w)] [] σ
        simp only [↓reduceIte, inR_0, inR_1, inR_m, vSw2_e, swP_n, swP_c, vI_e, vL_e, vNull_e, vIload_e, vLload_e, vAload_e, vIstore_e, vLstore_e, vAstore_e, vIinc_e, vIadd_e, vIsub_e, vImul_e, vIand_e, vIor_e, vIxor_e, vIshl_e, vIshr_e, vIushr_e, vIdiv_e, vIrem_e, vLadd_e, vLsub_e, vLmul_e, vLand_e, vLor_e, vLxor_e, vLdiv_e, vLrem_e, vLushr_e, vLshl_e, vLcmp_e, vIneg_e, vI2l_e, vL2i_e, vI2b_e, vI2c_e, vDup_e, vPop_e, vDup2_e, vGoto_e, vIcEq_e, vIfEq_e, vIcNe_e, vIfNe_e, vIcLt_e, vIfLt_e, vIcGe_e, vIfGe_e, vIcGt_e, vIfGt_e, vIcLe_e, vIfLe_e, vNonnull_e, vSw_e, vGetI_e, vGetL_e, vGetR_e, vPutI_e, vPutZ_e, vPutL_e, vPutR_e, vIald_e, vIald_s, vLald_e, vBald_e, vBald_s, vAald_e, vIast_e, vLast_e, vBast_e, vAast_e, vAlen_e8, vAlen_e9, vAlen_e10, vAlen_e11, vAlen_e5, vAlen_e3, vGets_e, vCompact_e, vLdcS_e, vIret_e, vZret_e, vCret_e, vBret_e, vLret_e, vVret_e, vAret_e, vCallM_e0, vCallMV_e0, vCallS_e0, vCallSV_e0, vCallM_e1, vCallMV_e1, vCallS_e1, vCallSV_e1, vCallM_e2, vCallMV_e2, vCallS_e2, vCallSV_e2, vCallM_e3, vCallMV_e3, vCallS_e3, vCallSV_e3, vCallM_e4, vCallMV_e4, vCallS_e4, vCallSV_e4, vCallM_e5, vCallMV_e5, vCallS_e5, vCallSV_e5, vCallM_e6, vCallMV_e6, vCallS_e6, vCallSV_e6, vCallM_e7, vCallMV_e7, vCallS_e7, vCallSV_e7, vBad_e, vStrVal_e, vStrCod_e, vForm_e, vCallT_e0, vCallT_e1, vCallT_e2, vCopy_e, rf_0_0, rf_0_1, rf_0_2, rf_0_3, rf_0_4, rf_0_7, rf_0_10, rf_0_11, rf_0_12, rf_0_13, rf_0_14, rf_0_15, rf_0_16, rf_1_0, rf_3_0, rf_3_1, rf_6_0, rf_6_1, rf_9_0, rf_9_1, rf_9_3, rf_13_0, rf_13_1, rf_13_2, rf_16_0, rf_16_1, rf_16_2, rf_16_3, rf_21_0, rf_21_1, rf_21_2, rf_21_3, rf_26_0, rf_26_1, rf_26_2, rf_26_3, rf_26_4, rf_26_5, rf_26_6, rf_31_0, rf_31_2, rf_31_5, rf_31_6, rf_36_0, rf_36_1, rf_36_2, rf_36_3, rf_39_0, rf_39_1, rf_39_2, rf_41_0, rf_41_1, rf_41_2, rf_41_3, rf_5000_1, rf_5000_2, rf_5000_3, rf_5000_4, rf_5000_5, rf_5000_15, rf_5000_16, rf_5000_18, rf_5000_19, rf_5000_20, rf_5000_21, rf_5000_22, rf_5000_23, rf_5000_24, rf_5000_25, rf_5000_26, rf_5000_27, rf_5000_36, rf_5000_37, rf_5000_40, rf_5000_41, rf_5000_42, rf_5000_43, rf_5000_44, rf_5000_45, rf_5000_47, rf_5000_52, rf_5000_54, rf_5000_55, rf_100_0, rf_100_1, rf_103_0, rf_103_1, rf_106_0, rf_106_1, rf_109_0, rf_109_1, al_2, al_4, al_5, al_7, al_8, al_10, al_11, al_12, al_14, al_15, al_17, al_18, al_19, al_20, al_22, al_23, al_24, al_25, al_27, al_28, al_29, al_30, al_32, al_33, al_34, al_35, al_37, al_38, al_40, al_42, al_5001, al_5002, al_5003, al_5004, al_5005, al_5006, al_5007, al_5008, al_5009, al_5010, al_5011, al_5012, al_5013, al_5014, al_5015, al_5016, al_5017, al_5018, al_5019, al_5020, al_5021, al_5022, al_5023, al_5024, al_5025, al_5026, al_9000, al_101, al_102, al_104, al_105, al_107, al_108, al_110, al_111, vcs_e, lg_c0, lg_cs, lg_nil, set_c0, set_cs, okst_0, okst_s, acok_n, acok_c, List.contains_nil, List.contains_cons, Bool.or_false, Bool.false_or, Bool.false_eq_true, if_false, if_true, ite_self, ne_eq, true_and, and_true, not_false_eq_true, not_true_eq_false, false_imp_iff, true_imp_iff, Nat.ble_eq, Bool.and_eq_true, reduceCtorEq, or_false, false_or, or_true, true_or, false_and, and_false, and_self, Int.reduceLE, Int.reduceAdd, Int.reduceSub, Int.reduceMul, Int.reduceNeg, Int.reduceLT, Int.reduceEq, Int.reduceNe, Nat.reduceBEq, Nat.reduceBNe, Nat.reduceEqDiff, amCmp_in, amCmp_lt, amCmp_le, amCmp_gt, amCmp_ge, amCmp_eq, amCmp_ne, Nat.reduceLeDiff, Nat.reduceSub, Bool.and_true, Bool.true_and, Bool.and_self, Bool.or_true, Bool.true_or, isRf_3, isRf_4, isRf_5, isRf_8, isRf_9, isRf_10, isRf_11, isRf_15, isRf_16, isRf_17, isRf_18, isRf_19, isRf_20, isRf_21, isRf_22, isRf_23, isRf_24, isRf_25, isRf_26, isRf_27, isRf_28, k_X12_borne_0, k_X12_borne_1, k_X12_borne_2, k_X12_borne_5, k_X12_borne_6, k_X12_borne_9, k_X12_borne_12, k_X12_borne_13, k_X12_borne_14, k_X12_borne_15, k_X12_borne_18, k_X12_borne_21, k_X12_borne_24, k_X12_borne_25, k_X12_borne_26, k_X12_borne_27, k_X12_borne_28, k_X12_borne_31, k_X12_borne_34, k_X12_borne_35, k_X12_borne_36, k_X12_borne_37, k_X12_borne_40, k_X12_borne_41, k_X12_borne_44, k_X12_borne_47, k_X12_borne_48, k_X12_borne_49, k_X12_borne_52, k_X12_borne_53, k_X12_borne_54, k_X12_borne_57, k_X12_borne_58, k_X12_borne_59, k_X12_borne_60, k_X12_borne_63, k_X12_borne_65, k_X12_borne_66, k_X12_borne_67, k_X12_borne_70, k_X12_borne_72, k_X12_borne_73, k_X12_borne_74, k_X12_borne_75, k_X12_borne_78, k_X12_borne_79, k_X12_borne_82, k_X12_borne_83, k_X12_borne_86, k_X12_borne_89, k_X12_borne_90, k_X12_borne_93, w_X12_copy_e, w_X12_goBorne_e, w_X12_isIn_e, e29, d0, if_pos d1, if_neg d3]
        repeat' (first | apply And.intro | intro _)
        all_goals first | omega | exact absurd trivial (by assumption) | exact q8
    · have q8 := h1 (by omega)
      refine am_m [36] (fun _ _ _ _ _ => False) (own := RX12) (A := look (a_X12_borne d)) (fun X e1 e2 hB => o_X12_borne d h6 e1 e2 hB) rfl (by decide +kernel) rfl rfl (fun _ _ _ _ _ h => absurd h id) ⟨60, ?_⟩ (w := 3)
      change vcs _ _ _ _ 60 0 [(28, 5000), (0, n), (0, w)] [] σ
      simp only [↓reduceIte, inR_0, inR_1, inR_m, vSw2_e, swP_n, swP_c, vI_e, vL_e, vNull_e, vIload_e, vLload_e, vAload_e, vIstore_e, vLstore_e, vAstore_e, vIinc_e, vIadd_e, vIsub_e, vImul_e, vIand_e, vIor_e, vIxor_e, vIshl_e, vIshr_e, vIushr_e, vIdiv_e, vIrem_e, vLadd_e, vLsub_e, vLmul_e, vLand_e, vLor_e, vLxor_e, vLdiv_e, vLrem_e, vLushr_e, vLshl_e, vLcmp_e, vIneg_e, vI2l_e, vL2i_e, vI2b_e, vI2c_e, vDup_e, vPop_e, vDup2_e, vGoto_e, vIcEq_e, vIfEq_e, vIcNe_e, vIfNe_e, vIcLt_e, vIfLt_e, vIcGe_e, vIfGe_e, vIcGt_e, vIfGt_e, vIcLe_e, vIfLe_e, vNonnull_e, vSw_e, vGetI_e, vGetL_e, vGetR_e, vPutI_e, vPutZ_e, vPutL_e, vPutR_e, vIald_e, vIald_s, vLald_e, vBald_e, vBald_s, vAald_e, vIast_e, vLast_e, vBast_e, vAast_e, vAlen_e8, vAlen_e9, vAlen_e10, vAlen_e11, vAlen_e5, vAlen_e3, vGets_e, vCompact_e, vLdcS_e, vIret_e, vZret_e, vCret_e, vBret_e, vLret_e, vVret_e, vAret_e, vCallM_e0, vCallMV_e0, vCallS_e0, vCallSV_e0, vCallM_e1, vCallMV_e1, vCallS_e1, vCallSV_e1, vCallM_e2, vCallMV_e2, vCallS_e2, vCallSV_e2, vCallM_e3, vCallMV_e3, vCallS_e3, vCallSV_e3, vCallM_e4, vCallMV_e4, vCallS_e4, vCallSV_e4, vCallM_e5, vCallMV_e5, vCallS_e5, vCallSV_e5, vCallM_e6, vCallMV_e6, vCallS_e6, vCallSV_e6, vCallM_e7, vCallMV_e7, vCallS_e7, vCallSV_e7, vBad_e, vStrVal_e, vStrCod_e, vForm_e, vCallT_e0, vCallT_e1, vCallT_e2, vCopy_e, rf_0_0, rf_0_1, rf_0_2, rf_0_3, rf_0_4, rf_0_7, rf_0_10, rf_0_11, rf_0_12, rf_0_13, rf_0_14, rf_0_15, rf_0_16, rf_1_0, rf_3_0, rf_3_1, rf_6_0, rf_6_1, rf_9_0, rf_9_1, rf_9_3, rf_13_0, rf_13_1, rf_13_2, rf_16_0, rf_16_1, rf_16_2, rf_16_3, rf_21_0, rf_21_1, rf_21_2, rf_21_3, rf_26_0, rf_26_1, rf_26_2, rf_26_3, rf_26_4, rf_26_5, rf_26_6, rf_31_0, rf_31_2, rf_31_5, rf_31_6, rf_36_0, rf_36_1, rf_36_2, rf_36_3, rf_39_0, rf_39_1, rf_39_2, rf_41_0, rf_41_1, rf_41_2, rf_41_3, rf_5000_1, rf_5000_2, rf_5000_3, rf_5000_4, rf_5000_5, rf_5000_15, rf_5000_16, rf_5000_18, rf_5000_19, rf_5000_20, rf_5000_21, rf_5000_22, rf_5000_23, rf_5000_24, rf_5000_25, rf_5000_26, rf_5000_27, rf_5000_36, rf_5000_37, rf_5000_40, rf_5000_41, rf_5000_42, rf_5000_43, rf_5000_44, rf_5000_45, rf_5000_47, rf_5000_52, rf_5000_54, rf_5000_55, rf_100_0, rf_100_1, rf_103_0, rf_103_1, rf_106_0, rf_106_1, rf_109_0, rf_109_1, al_2, al_4, al_5, al_7, al_8, al_10, al_11, al_12, al_14, al_15, al_17, al_18, al_19, al_20, al_22, al_23, al_24, al_25, al_27, al_28, al_29, al_30, al_32, al_33, al_34, al_35, al_37, al_38, al_40, al_42, al_5001, al_5002, al_5003, al_5004, al_5005, al_5006, al_5007, al_5008, al_5009, al_5010, al_5011, al_5012, al_5013, al_5014, al_5015, al_5016, al_5017, al_5018, al_5019, al_5020, al_5021, al_5022, al_5023, al_5024, al_5025, al_5026, al_9000, al_101, al_102, al_104, al_105, al_107, al_108, al_110, al_111, vcs_e, lg_c0, lg_cs, lg_nil, set_c0, set_cs, okst_0, okst_s, acok_n, acok_c, List.contains_nil, List.contains_cons, Bool.or_false, Bool.false_or, Bool.false_eq_true, if_false, if_true, ite_self, ne_eq, true_and, and_true, not_false_eq_true, not_true_eq_false, false_imp_iff, true_imp_iff, Nat.ble_eq, Bool.and_eq_true, reduceCtorEq, or_false, false_or, or_true, true_or, false_and, and_false, and_self, Int.reduceLE, Int.reduceAdd, Int.reduceSub, Int.reduceMul, Int.reduceNeg, Int.reduceLT, Int.reduceEq, Int.reduceNe, Nat.reduceBEq, Nat.reduceBNe, Nat.reduceEqDiff, amCmp_in, amCmp_lt, amCmp_le, amCmp_gt, amCmp_ge, amCmp_eq, amCmp_ne, Nat.reduceLeDiff, Nat.reduceSub, Bool.and_true, Bool.true_and, Bool.and_self, Bool.or_true, Bool.true_or, isRf_3, isRf_4, isRf_5, isRf_8, isRf_9, isRf_10, isRf_11, isRf_15, isRf_16, isRf_17, isRf_18, isRf_19, isRf_20, isRf_21, isRf_22, isRf_23, isRf_24, isRf_25, isRf_26, isRf_27, isRf_28, k_X12_borne_0, k_X12_borne_1, k_X12_borne_2, k_X12_borne_5, k_X12_borne_6, k_X12_borne_9, k_X12_borne_12, k_X12_borne_13, k_X12_borne_14, k_X12_borne_15, k_X12_borne_18, k_X12_borne_21, k_X12_borne_24, k_X12_borne_25, k_X12_borne_26, k_X12_borne_27, k_X12_borne_28, k_X12_borne_31, k_X12_borne_34, k_X12_borne_35, k_X12_borne_36, k_X12_borne_37, k_X12_borne_40, k_X12_borne_41, k_X12_borne_44, k_X12_borne_47, k_X12_borne_48, k_X12_borne_49, k_X12_borne_52, k_X12_borne_53, k_X12_borne_54, k_X12_borne_57, k_X12_borne_58, k_X12_borne_59, k_X12_borne_60, k_X12_borne_63, k_X12_borne_65, k_X12_borne_66, k_X12_borne_67, k_X12_borne_70, k_X12_borne_72, k_X12_borne_73, k_X12_borne_74, k_X12_borne_75, k_X12_borne_78, k_X12_borne_79, k_X12_borne_82, k_X12_borne_83, k_X12_borne_86, k_X12_borne_89, k_X12_borne_90, k_X12_borne_93, w_X12_copy_e, w_X12_goBorne_e, w_X12_isIn_e, e29, d0, if_neg d1]
      repeat' (first | apply And.intro | intro _)
      all_goals first | omega | exact absurd trivial (by assumption) | exact q8
/-! the reference: RESTS -/
theorem gix0 : ∀ n : Nat, n < 7 → ∀ a : Nat, a < n → ∀ b : Nat, b < n → (Int.tdiv (Int.tdiv (2 * ((n : Int) * a + b)) 2) n = a ∧ Int.tmod (Int.tdiv (2 * ((n : Int) * a + b)) 2) n = b ∧ Int.tmod (2 * ((n : Int) * a + b)) 2 = 0) ∧ (Int.tdiv (Int.tdiv (2 * ((n : Int) * a + b) + 1) 2) n = a ∧ Int.tmod (Int.tdiv (2 * ((n : Int) * a + b) + 1) 2) n = b ∧ Int.tmod (2 * ((n : Int) * a + b) + 1) 2 = 1) ∧ 0 ≤ (n : Int) * a + b ∧ 2 * ((n : Int) * a + b) + 1 < 2 * n * n ∧ (n : Int) * a ≤ 36 ∧ 0 ≤ (n : Int) * a := by decide +kernel
theorem gix {n a b : Int} (n1 : n < 7) (a0 : 0 ≤ a) (a1 : a < n) (b0 : 0 ≤ b) (b1 : b < n) : (Int.tdiv (Int.tdiv (2 * (n * a + b)) 2) n = a ∧ Int.tmod (Int.tdiv (2 * (n * a + b)) 2) n = b ∧ Int.tmod (2 * (n * a + b)) 2 = 0) ∧ (Int.tdiv (Int.tdiv (2 * (n * a + b) + 1) 2) n = a ∧ Int.tmod (Int.tdiv (2 * (n * a + b) + 1) 2) n = b ∧ Int.tmod (2 * (n * a + b) + 1) 2 = 1) ∧ 0 ≤ n * a + b ∧ 2 * (n * a + b) + 1 < 2 * n * n ∧ n * a ≤ 36 ∧ 0 ≤ n * a := by
  obtain ⟨n, rfl⟩ : ∃ k : Nat, n = k := ⟨n.toNat, by omega⟩
  obtain ⟨a, rfl⟩ : ∃ k : Nat, a = k := ⟨a.toNat, by omega⟩
  obtain ⟨b, rfl⟩ : ∃ k : Nat, b = k := ⟨b.toNat, by omega⟩
  exact gix0 n (by omega) a (by omega) b (by omega)
theorem gkx0 : ∀ n : Nat, n < 7 → ∀ k : Nat, k < 2 * n * n → (0 ≤ Int.tdiv (Int.tdiv (k : Int) 2) n ∧ Int.tdiv (Int.tdiv (k : Int) 2) n < n) ∧ (0 ≤ Int.tmod (Int.tdiv (k : Int) 2) n ∧ Int.tmod (Int.tdiv (k : Int) 2) n < n) ∧ (Int.tmod (k : Int) 2 = 0 ∨ Int.tmod (k : Int) 2 = 1) ∧ 0 ≤ Int.tdiv (k : Int) 2 ∧ Int.tdiv (k : Int) 2 ≤ 36 := by decide +kernel
theorem gsq0 : ∀ n : Nat, n < 7 → 2 * (n : Int) * n ≤ 72 ∧ 0 ≤ 2 * (n : Int) * n ∧ ((2 * (n : Int) * n).toNat = 2 * n * n) := by decide +kernel
theorem gsq {n : Int} (n0 : 0 ≤ n) (n1 : n < 7) : 2 * n * n ≤ 72 ∧ 0 ≤ 2 * n * n := by
  obtain ⟨n, rfl⟩ : ∃ k : Nat, n = k := ⟨n.toNat, by omega⟩
  exact ⟨(gsq0 n (by omega)).1, (gsq0 n (by omega)).2.1⟩
theorem gkx {n : Int} {k : Nat} (n0 : 0 ≤ n) (n1 : n < 7) (h : (k : Int) < 2 * n * n) : (0 ≤ Int.tdiv (Int.tdiv (k : Int) 2) n ∧ Int.tdiv (Int.tdiv (k : Int) 2) n < n) ∧ (0 ≤ Int.tmod (Int.tdiv (k : Int) 2) n ∧ Int.tmod (Int.tdiv (k : Int) 2) n < n) ∧ (Int.tmod (k : Int) 2 = 0 ∨ Int.tmod (k : Int) 2 = 1) ∧ 0 ≤ Int.tdiv (k : Int) 2 ∧ Int.tdiv (k : Int) 2 ≤ 36 := by
  obtain ⟨n, rfl⟩ : ∃ k : Nat, n = k := ⟨n.toNat, by omega⟩
  have := (gsq0 n (by omega)).2.2
  exact gkx0 n (by omega) k (by omega)
theorem mX15 {σ τ : Mem} (h : QF σ τ) (hm : mOk τ) (hx : mX σ 5015) : mX τ 5015 := by
  obtain ⟨-, hh, hr⟩ := hx
  have k := fun k (a1 : k ≠ 0) (a2 : k ≠ 5) (a3 : k < 8 ∨ 14 < k) (a4 : k ≠ 17) (a5 : k ≠ 46) (a6 : k ≠ 50) (a7 : k ≠ 51) => h.2 k a1 a2 a3 a4 a5 a6 a7
  have e29 := k 29 (by decide) (by decide) (by decide) (by decide) (by decide) (by decide) (by decide)
  have e30 := k 30 (by decide) (by decide) (by decide) (by decide) (by decide) (by decide) (by decide)
  refine ⟨Or.inl rfl, ?_, ?_⟩
  · obtain ⟨h1, h2, h3, h4, h5, h6, h7, h8, h9⟩ := hh
    refine ⟨hm, lwIs_c (k 7 (by decide) (by decide) (by decide) (by decide) (by decide) (by decide) (by decide)) (k 38 (by decide) (by decide) (by decide) (by decide) (by decide) (by decide) (by decide)) h2, ?_⟩
    rw [e29, e30, k 28 (by decide) (by decide) (by decide) (by decide) (by decide) (by decide) (by decide), k 48 (by decide) (by decide) (by decide) (by decide) (by decide) (by decide) (by decide), h.1 5007 (by decide) (by decide) (by decide) (by decide), h.1 5011 (by decide) (by decide) (by decide) (by decide), h.1 5005 (by decide) (by decide) (by decide) (by decide)]
    exact ⟨h3, h4, h5, h6, h7, h8, h9⟩
  · rw [e29, e30, h.1 5015 (by decide) (by decide) (by decide) (by decide)]; exact hr
theorem QF_gmV {σ τ : Mem} (h : QF σ τ) (hx : mX σ 5015) (o r p x y t : Int) {c : Int} (c0 : 0 ≤ c) (c1 : c < σ 5000 29) : gmV τ o r p x y c t = gmV σ o r p x y c t := by
  have e15 := h.1 5015 (by decide) (by decide) (by decide) (by decide)
  have e29 := h.2 29 (by decide) (by decide) (by decide) (by decide) (by decide) (by decide) (by decide)
  have n29 := hx.2.1.2.2.1
  have l27 := hx.2.2.2.2.2.2
  have g29 : gmM σ o r x y 5000 29 = σ 5000 29 := by rw [gmM_o σ o r x y (by decide)]
  have hs : sP (gmM σ o r x y) (gmM τ o r x y) 5016 5016 := by
    refine ⟨fun j j0 j1 => ?_, ?_, ?_, ?_, ?_, ?_, ?_, ?_⟩
    · unfold gmM
      rw [up_row, up_row, up_row, up_row]
      unfold upf
      rw [trK_j l27.1 j0 j1, trK_j (by rw [e15]; exact l27.1) j0 j1, e15]
    · rw [gmM_o τ o r x y (by decide), gmM_o σ o r x y (by decide)]; exact h.1 5007 (by decide) (by decide) (by decide) (by decide)
    · rw [gmM_o τ o r x y (by decide), gmM_o σ o r x y (by decide)]; exact h.1 5011 (by decide) (by decide) (by decide) (by decide)
    · rw [gmM_o τ o r x y (by decide), gmM_o σ o r x y (by decide)]; exact h.1 5005 (by decide) (by decide) (by decide) (by decide)
    · rw [gmM_o τ o r x y (by decide), gmM_o σ o r x y (by decide)]; exact h.1 5002 (by decide) (by decide) (by decide) (by decide)
    · rw [gmM_o τ o r x y (by decide), gmM_o σ o r x y (by decide)]; exact h.1 5003 (by decide) (by decide) (by decide) (by decide)
    · rw [gmM_o τ o r x y (by decide), gmM_o σ o r x y (by decide)]; exact e29
    · rw [gmM_o τ o r x y (by decide), gmM_o σ o r x y (by decide)]; exact h.2 38 (by decide) (by decide) (by decide) (by decide) (by decide) (by decide) (by decide)
  have em : mMi τ p = mMi σ p := by unfold mMi; rw [h.1 5007 (by decide) (by decide) (by decide) (by decide)]
  unfold gmV
  rw [em, sP_mOa hs (by rw [g29]; omega) p c0 (by rw [g29]; exact c1), sP_mFl hs (by rw [g29]; omega) p c0 (by rw [g29]; exact c1), e15]
/-- what the two have of a GAME, by number -/
def gnV (σ : Mem) (o r p n k : Int) : Int := if Int.tmod k 2 = 0 then gmV σ o r p (Int.tdiv (Int.tdiv k 2) n) (Int.tmod (Int.tdiv k 2) n) o (Int.tdiv (Int.tdiv k 2) n) else gmV σ o r p (Int.tdiv (Int.tdiv k 2) n) (Int.tmod (Int.tdiv k 2) n) r (Int.tmod (Int.tdiv k 2) n)
def mrP (G0 G1 : Int → Int → Int) (n x y : Int) : Prop := ∀ k, 0 ≤ k → k < n → G0 k y ≤ G0 x y ∧ G1 x k ≤ G1 x y

theorem wd_1359 : Cond.fieldLink RX12 105 "ArmchairHouseModel" "gains" "[I" ∈ TBL := tb_tab (List.mem_of_getElem? (i := 1359) (by decide +kernel)) rfl
theorem fl_X12_105 : amFl RX12 12 54 105 RX12 TX12 57 := ⟨rfl, inT_12, by decide, wd_1359⟩
def a_X12_rests : AC := [(0, vAload 0 1), (1, vI 0 2), (2, vPutI 28 0 5), (5, vAload 0 6), (6, vIload 1 7), (7, vIload 2 8), (8, vIload 3 9), (9, vCallM w_X12_isGame 28 3 12), (12, vIfEq 21 15), (15, vIload 4 17), (17, vI (-1) 18), (18, vIcGe 23 21), (21, vI (-1) 22), (22, vIret), (23, vAload 0 24), (24, vGetI 28 30 27), (27, vIstore 5 29), (29, vI 0 30), (30, vIstore 6 32), (32, vIload 6 34), (34, vI 2 35), (35, vIload 5 37), (37, vImul 38), (38, vIload 5 40), (40, vImul 41), (41, vIcGe 82 44), (44, vAload 0 45), (45, vGetR TT 28 54 8 48), (48, vIload 6 50), (50, vAload 0 51), (51, vIload 1 52), (52, vIload 2 53), (53, vIload 3 54), (54, vIload 6 56), (56, vI 2 57), (57, vIdiv 58), (58, vIload 5 60), (60, vIdiv 61), (61, vIload 6 63), (63, vI 2 64), (64, vIdiv 65), (65, vIload 5 67), (67, vIrem 68), (68, vIload 6 70), (70, vI 2 71), (71, vIrem 72), (72, vCallM w_X12_gameOf 28 6 75), (75, vIast TT 76), (76, vIinc 6 1 79), (79, vGoto 32), (82, vI 0 83), (83, vIstore 6 85), (85, vI 0 86), (86, vIstore 7 88), (88, vIload 7 90), (90, vIload 5 92), (92, vIcGe 245 95), (95, vI 0 96), (96, vIstore 8 98), (98, vIload 8 100), (100, vIload 5 102), (102, vIcGe 239 105), (105, vI 1 106), (106, vIstore 9 108), (108, vI 0 109), (109, vIstore 10 111), (111, vIload 10 113), (113, vIload 5 115), (115, vIcGe 206 118), (118, vIload 9 120), (120, vIfEq 197 123), (123, vAload 0 124), (124, vGetR TT 28 54 8 127), (127, vI 2 128), (128, vIload 5 130), (130, vIload 10 132), (132, vImul 133), (133, vIload 8 135), (135, vIadd 136), (136, vImul 137), (137, vIald TT 138), (138, vAload 0 139), (139, vGetR TT 28 54 8 142), (142, vI 2 143), (143, vIload 5 145), (145, vIload 7 147), (147, vImul 148), (148, vIload 8 150), (150, vIadd 151), (151, vImul 152), (152, vIald TT 153), (153, vIcGt 197 156), (156, vAload 0 157), (157, vGetR TT 28 54 8 160), (160, vI 2 161), (161, vIload 5 163), (163, vIload 7 165), (165, vImul 166), (166, vIload 10 168), (168, vIadd 169), (169, vImul 170), (170, vI 1 171), (171, vIadd 172), (172, vIald TT 173), (173, vAload 0 174), (174, vGetR TT 28 54 8 177), (177, vI 2 178), (178, vIload 5 180), (180, vIload 7 182), (182, vImul 183), (183, vIload 8 185), (185, vIadd 186), (186, vImul 187), (187, vI 1 188), (188, vIadd 189), (189, vIald TT 190), (190, vIcGt 197 193), (193, vI 1 194), (194, vGoto 198), (197, vI 0 198), (198, vIstore 9 200), (200, vIinc 10 1 203), (203, vGoto 111), (206, vIload 9 208), (208, vIfNe 214 211), (211, vGoto 233), (214, vIload 6 216), (216, vIload 4 218), (218, vIcNe 230 221), (221, vI 10 223), (223, vIload 7 225), (225, vImul 226), (226, vIload 8 228), (228, vIadd 229), (229, vIret), (230, vIinc 6 1 233), (233, vIinc 8 1 236), (236, vGoto 98), (239, vIinc 7 1 242), (242, vGoto 88), (245, vIload 4 247), (247, vI (-1) 248), (248, vIcNe 256 251), (251, vIload 6 253), (253, vGoto 257), (256, vI (-1) 257), (257, vIret)]
theorem k_X12_rests_0 : look a_X12_rests 0 = vAload 0 1 := rfl
theorem k_X12_rests_1 : look a_X12_rests 1 = vI 0 2 := rfl
theorem k_X12_rests_2 : look a_X12_rests 2 = vPutI 28 0 5 := rfl
theorem k_X12_rests_5 : look a_X12_rests 5 = vAload 0 6 := rfl
theorem k_X12_rests_6 : look a_X12_rests 6 = vIload 1 7 := rfl
theorem k_X12_rests_7 : look a_X12_rests 7 = vIload 2 8 := rfl
theorem k_X12_rests_8 : look a_X12_rests 8 = vIload 3 9 := rfl
theorem k_X12_rests_9 : look a_X12_rests 9 = vCallM w_X12_isGame 28 3 12 := rfl
theorem k_X12_rests_12 : look a_X12_rests 12 = vIfEq 21 15 := rfl
theorem k_X12_rests_15 : look a_X12_rests 15 = vIload 4 17 := rfl
theorem k_X12_rests_17 : look a_X12_rests 17 = vI (-1) 18 := rfl
theorem k_X12_rests_18 : look a_X12_rests 18 = vIcGe 23 21 := rfl
theorem k_X12_rests_21 : look a_X12_rests 21 = vI (-1) 22 := rfl
theorem k_X12_rests_22 : look a_X12_rests 22 = vIret := rfl
theorem k_X12_rests_23 : look a_X12_rests 23 = vAload 0 24 := rfl
theorem k_X12_rests_24 : look a_X12_rests 24 = vGetI 28 30 27 := rfl
theorem k_X12_rests_27 : look a_X12_rests 27 = vIstore 5 29 := rfl
theorem k_X12_rests_29 : look a_X12_rests 29 = vI 0 30 := rfl
theorem k_X12_rests_30 : look a_X12_rests 30 = vIstore 6 32 := rfl
theorem k_X12_rests_32 : look a_X12_rests 32 = vIload 6 34 := rfl
theorem k_X12_rests_34 : look a_X12_rests 34 = vI 2 35 := rfl
theorem k_X12_rests_35 : look a_X12_rests 35 = vIload 5 37 := rfl
theorem k_X12_rests_37 : look a_X12_rests 37 = vImul 38 := rfl
theorem k_X12_rests_38 : look a_X12_rests 38 = vIload 5 40 := rfl
theorem k_X12_rests_40 : look a_X12_rests 40 = vImul 41 := rfl
theorem k_X12_rests_41 : look a_X12_rests 41 = vIcGe 82 44 := rfl
theorem k_X12_rests_44 : look a_X12_rests 44 = vAload 0 45 := rfl
theorem k_X12_rests_45 : look a_X12_rests 45 = vGetR TT 28 54 8 48 := rfl
theorem k_X12_rests_48 : look a_X12_rests 48 = vIload 6 50 := rfl
theorem k_X12_rests_50 : look a_X12_rests 50 = vAload 0 51 := rfl
theorem k_X12_rests_51 : look a_X12_rests 51 = vIload 1 52 := rfl
theorem k_X12_rests_52 : look a_X12_rests 52 = vIload 2 53 := rfl
theorem k_X12_rests_53 : look a_X12_rests 53 = vIload 3 54 := rfl
theorem k_X12_rests_54 : look a_X12_rests 54 = vIload 6 56 := rfl
theorem k_X12_rests_56 : look a_X12_rests 56 = vI 2 57 := rfl
theorem k_X12_rests_57 : look a_X12_rests 57 = vIdiv 58 := rfl
theorem k_X12_rests_58 : look a_X12_rests 58 = vIload 5 60 := rfl
theorem k_X12_rests_60 : look a_X12_rests 60 = vIdiv 61 := rfl
theorem k_X12_rests_61 : look a_X12_rests 61 = vIload 6 63 := rfl
theorem k_X12_rests_63 : look a_X12_rests 63 = vI 2 64 := rfl
theorem k_X12_rests_64 : look a_X12_rests 64 = vIdiv 65 := rfl
theorem k_X12_rests_65 : look a_X12_rests 65 = vIload 5 67 := rfl
theorem k_X12_rests_67 : look a_X12_rests 67 = vIrem 68 := rfl
theorem k_X12_rests_68 : look a_X12_rests 68 = vIload 6 70 := rfl
theorem k_X12_rests_70 : look a_X12_rests 70 = vI 2 71 := rfl
theorem k_X12_rests_71 : look a_X12_rests 71 = vIrem 72 := rfl
theorem k_X12_rests_72 : look a_X12_rests 72 = vCallM w_X12_gameOf 28 6 75 := rfl
theorem k_X12_rests_75 : look a_X12_rests 75 = vIast TT 76 := rfl
theorem k_X12_rests_76 : look a_X12_rests 76 = vIinc 6 1 79 := rfl
theorem k_X12_rests_79 : look a_X12_rests 79 = vGoto 32 := rfl
theorem k_X12_rests_82 : look a_X12_rests 82 = vI 0 83 := rfl
theorem k_X12_rests_83 : look a_X12_rests 83 = vIstore 6 85 := rfl
theorem k_X12_rests_85 : look a_X12_rests 85 = vI 0 86 := rfl
theorem k_X12_rests_86 : look a_X12_rests 86 = vIstore 7 88 := rfl
theorem k_X12_rests_88 : look a_X12_rests 88 = vIload 7 90 := rfl
theorem k_X12_rests_90 : look a_X12_rests 90 = vIload 5 92 := rfl
theorem k_X12_rests_92 : look a_X12_rests 92 = vIcGe 245 95 := rfl
theorem k_X12_rests_95 : look a_X12_rests 95 = vI 0 96 := rfl
theorem k_X12_rests_96 : look a_X12_rests 96 = vIstore 8 98 := rfl
theorem k_X12_rests_98 : look a_X12_rests 98 = vIload 8 100 := rfl
theorem k_X12_rests_100 : look a_X12_rests 100 = vIload 5 102 := rfl
theorem k_X12_rests_102 : look a_X12_rests 102 = vIcGe 239 105 := rfl
theorem k_X12_rests_105 : look a_X12_rests 105 = vI 1 106 := rfl
theorem k_X12_rests_106 : look a_X12_rests 106 = vIstore 9 108 := rfl
theorem k_X12_rests_108 : look a_X12_rests 108 = vI 0 109 := rfl
theorem k_X12_rests_109 : look a_X12_rests 109 = vIstore 10 111 := rfl
theorem k_X12_rests_111 : look a_X12_rests 111 = vIload 10 113 := rfl
theorem k_X12_rests_113 : look a_X12_rests 113 = vIload 5 115 := rfl
theorem k_X12_rests_115 : look a_X12_rests 115 = vIcGe 206 118 := rfl
theorem k_X12_rests_118 : look a_X12_rests 118 = vIload 9 120 := rfl
theorem k_X12_rests_120 : look a_X12_rests 120 = vIfEq 197 123 := rfl
theorem k_X12_rests_123 : look a_X12_rests 123 = vAload 0 124 := rfl
theorem k_X12_rests_124 : look a_X12_rests 124 = vGetR TT 28 54 8 127 := rfl
theorem k_X12_rests_127 : look a_X12_rests 127 = vI 2 128 := rfl
theorem k_X12_rests_128 : look a_X12_rests 128 = vIload 5 130 := rfl
theorem k_X12_rests_130 : look a_X12_rests 130 = vIload 10 132 := rfl
theorem k_X12_rests_132 : look a_X12_rests 132 = vImul 133 := rfl
theorem k_X12_rests_133 : look a_X12_rests 133 = vIload 8 135 := rfl
theorem k_X12_rests_135 : look a_X12_rests 135 = vIadd 136 := rfl
theorem k_X12_rests_136 : look a_X12_rests 136 = vImul 137 := rfl
theorem k_X12_rests_137 : look a_X12_rests 137 = vIald TT 138 := rfl
theorem k_X12_rests_138 : look a_X12_rests 138 = vAload 0 139 := rfl
theorem k_X12_rests_139 : look a_X12_rests 139 = vGetR TT 28 54 8 142 := rfl
theorem k_X12_rests_142 : look a_X12_rests 142 = vI 2 143 := rfl
theorem k_X12_rests_143 : look a_X12_rests 143 = vIload 5 145 := rfl
theorem k_X12_rests_145 : look a_X12_rests 145 = vIload 7 147 := rfl
theorem k_X12_rests_147 : look a_X12_rests 147 = vImul 148 := rfl
theorem k_X12_rests_148 : look a_X12_rests 148 = vIload 8 150 := rfl
theorem k_X12_rests_150 : look a_X12_rests 150 = vIadd 151 := rfl
theorem k_X12_rests_151 : look a_X12_rests 151 = vImul 152 := rfl
theorem k_X12_rests_152 : look a_X12_rests 152 = vIald TT 153 := rfl
theorem k_X12_rests_153 : look a_X12_rests 153 = vIcGt 197 156 := rfl
theorem k_X12_rests_156 : look a_X12_rests 156 = vAload 0 157 := rfl
theorem k_X12_rests_157 : look a_X12_rests 157 = vGetR TT 28 54 8 160 := rfl
theorem k_X12_rests_160 : look a_X12_rests 160 = vI 2 161 := rfl
theorem k_X12_rests_161 : look a_X12_rests 161 = vIload 5 163 := rfl
theorem k_X12_rests_163 : look a_X12_rests 163 = vIload 7 165 := rfl
theorem k_X12_rests_165 : look a_X12_rests 165 = vImul 166 := rfl
theorem k_X12_rests_166 : look a_X12_rests 166 = vIload 10 168 := rfl
theorem k_X12_rests_168 : look a_X12_rests 168 = vIadd 169 := rfl
theorem k_X12_rests_169 : look a_X12_rests 169 = vImul 170 := rfl
theorem k_X12_rests_170 : look a_X12_rests 170 = vI 1 171 := rfl
theorem k_X12_rests_171 : look a_X12_rests 171 = vIadd 172 := rfl
theorem k_X12_rests_172 : look a_X12_rests 172 = vIald TT 173 := rfl
theorem k_X12_rests_173 : look a_X12_rests 173 = vAload 0 174 := rfl
theorem k_X12_rests_174 : look a_X12_rests 174 = vGetR TT 28 54 8 177 := rfl
theorem k_X12_rests_177 : look a_X12_rests 177 = vI 2 178 := rfl
theorem k_X12_rests_178 : look a_X12_rests 178 = vIload 5 180 := rfl
theorem k_X12_rests_180 : look a_X12_rests 180 = vIload 7 182 := rfl
theorem k_X12_rests_182 : look a_X12_rests 182 = vImul 183 := rfl
theorem k_X12_rests_183 : look a_X12_rests 183 = vIload 8 185 := rfl
theorem k_X12_rests_185 : look a_X12_rests 185 = vIadd 186 := rfl
theorem k_X12_rests_186 : look a_X12_rests 186 = vImul 187 := rfl
theorem k_X12_rests_187 : look a_X12_rests 187 = vI 1 188 := rfl
theorem k_X12_rests_188 : look a_X12_rests 188 = vIadd 189 := rfl
theorem k_X12_rests_189 : look a_X12_rests 189 = vIald TT 190 := rfl
theorem k_X12_rests_190 : look a_X12_rests 190 = vIcGt 197 193 := rfl
theorem k_X12_rests_193 : look a_X12_rests 193 = vI 1 194 := rfl
theorem k_X12_rests_194 : look a_X12_rests 194 = vGoto 198 := rfl
theorem k_X12_rests_197 : look a_X12_rests 197 = vI 0 198 := rfl
theorem k_X12_rests_198 : look a_X12_rests 198 = vIstore 9 200 := rfl
theorem k_X12_rests_200 : look a_X12_rests 200 = vIinc 10 1 203 := rfl
theorem k_X12_rests_203 : look a_X12_rests 203 = vGoto 111 := rfl
theorem k_X12_rests_206 : look a_X12_rests 206 = vIload 9 208 := rfl
theorem k_X12_rests_208 : look a_X12_rests 208 = vIfNe 214 211 := rfl
theorem k_X12_rests_211 : look a_X12_rests 211 = vGoto 233 := rfl
theorem k_X12_rests_214 : look a_X12_rests 214 = vIload 6 216 := rfl
theorem k_X12_rests_216 : look a_X12_rests 216 = vIload 4 218 := rfl
theorem k_X12_rests_218 : look a_X12_rests 218 = vIcNe 230 221 := rfl
theorem k_X12_rests_221 : look a_X12_rests 221 = vI 10 223 := rfl
theorem k_X12_rests_223 : look a_X12_rests 223 = vIload 7 225 := rfl
theorem k_X12_rests_225 : look a_X12_rests 225 = vImul 226 := rfl
theorem k_X12_rests_226 : look a_X12_rests 226 = vIload 8 228 := rfl
theorem k_X12_rests_228 : look a_X12_rests 228 = vIadd 229 := rfl
theorem k_X12_rests_229 : look a_X12_rests 229 = vIret := rfl
theorem k_X12_rests_230 : look a_X12_rests 230 = vIinc 6 1 233 := rfl
theorem k_X12_rests_233 : look a_X12_rests 233 = vIinc 8 1 236 := rfl
theorem k_X12_rests_236 : look a_X12_rests 236 = vGoto 98 := rfl
theorem k_X12_rests_239 : look a_X12_rests 239 = vIinc 7 1 242 := rfl
theorem k_X12_rests_242 : look a_X12_rests 242 = vGoto 88 := rfl
theorem k_X12_rests_245 : look a_X12_rests 245 = vIload 4 247 := rfl
theorem k_X12_rests_247 : look a_X12_rests 247 = vI (-1) 248 := rfl
theorem k_X12_rests_248 : look a_X12_rests 248 = vIcNe 256 251 := rfl
theorem k_X12_rests_251 : look a_X12_rests 251 = vIload 6 253 := rfl
theorem k_X12_rests_253 : look a_X12_rests 253 = vGoto 257 := rfl
theorem k_X12_rests_256 : look a_X12_rests 256 = vI (-1) 257 := rfl
theorem k_X12_rests_257 : look a_X12_rests 257 = vIret := rfl
theorem o_X12_rests {X : amX} (e1 : XT X = TT) (e2 : XD X = 61) (hB : amB X RX12 cX12_rests (some .int) 11) : ∀ pc, amOK X pc (look a_X12_rests pc) := by
  have hT : amTok (XT X) := e1 ▸ TT_ok
  refine look_ok ?_
  unfold a_X12_rests
  refine fc (ok_aload_n hB dX12_rests_0) ?_
  refine fc (ok_iconst hB dX12_rests_1) ?_
  refine fc (ok_putI hB hT fp_X12_111 rfl rfl rfl af_12_0 dX12_rests_2) ?_
  refine fc (ok_aload_n hB dX12_rests_5) ?_
  refine fc (ok_iload_n hB dX12_rests_6) ?_
  refine fc (ok_iload_n hB dX12_rests_7) ?_
  refine fc (ok_iload_n hB dX12_rests_8) ?_
  refine fc (ok_callM hB hT (e1 ▸ s_X12_isGame) lk_X12_466 (by rw [e2]; decide) (c := 12) rfl rfl rfl wd_1870 sl_X12_isGame dX12_rests_9) ?_
  refine fc (ok_if_eq hB (t := 21) (by decide) dX12_rests_12) ?_
  refine fc (ok_iload hB dX12_rests_15) ?_
  refine fc (ok_iconst hB dX12_rests_17) ?_
  refine fc (ok_icmp_ge hB (t := 23) (by decide) dX12_rests_18) ?_
  refine fc (ok_iconst hB dX12_rests_21) ?_
  refine fc (ok_iret hB dX12_rests_22) ?_
  refine fc (ok_aload_n hB dX12_rests_23) ?_
  refine fc (ok_getI hB hT fl_X12_320 rfl rfl (Or.inl af_12_30) dX12_rests_24) ?_
  refine fc (ok_istore hB (by decide) dX12_rests_27) ?_
  refine fc (ok_iconst hB dX12_rests_29) ?_
  refine fc (ok_istore hB (by decide) dX12_rests_30) ?_
  refine fc (ok_iload hB dX12_rests_32) ?_
  refine fc (ok_iconst hB dX12_rests_34) ?_
  refine fc (ok_iload hB dX12_rests_35) ?_
  refine fc (ok_imul hB dX12_rests_37) ?_
  refine fc (ok_iload hB dX12_rests_38) ?_
  refine fc (ok_imul hB dX12_rests_40) ?_
  refine fc (ok_icmp_ge hB (t := 82) (by decide) dX12_rests_41) ?_
  refine fc (ok_aload_n hB dX12_rests_44) ?_
  refine fc (okt_getR e1 hB hT fl_X12_105 rfl af_12_54 at_12_54 (by decide) dX12_rests_45) ?_
  refine fc (ok_iload hB dX12_rests_48) ?_
  refine fc (ok_aload_n hB dX12_rests_50) ?_
  refine fc (ok_iload_n hB dX12_rests_51) ?_
  refine fc (ok_iload_n hB dX12_rests_52) ?_
  refine fc (ok_iload_n hB dX12_rests_53) ?_
  refine fc (ok_iload hB dX12_rests_54) ?_
  refine fc (ok_iconst hB dX12_rests_56) ?_
  refine fc (ok_idiv hB dX12_rests_57) ?_
  refine fc (ok_iload hB dX12_rests_58) ?_
  refine fc (ok_idiv hB dX12_rests_60) ?_
  refine fc (ok_iload hB dX12_rests_61) ?_
  refine fc (ok_iconst hB dX12_rests_63) ?_
  refine fc (ok_idiv hB dX12_rests_64) ?_
  refine fc (ok_iload hB dX12_rests_65) ?_
  refine fc (ok_irem hB dX12_rests_67) ?_
  refine fc (ok_iload hB dX12_rests_68) ?_
  refine fc (ok_iconst hB dX12_rests_70) ?_
  refine fc (ok_irem hB dX12_rests_71) ?_
  refine fc (ok_callM hB hT (e1 ▸ s_X12_gameOf) lk_X12_470 (by rw [e2]; decide) (c := 12) rfl rfl rfl wd_1874 sl_X12_gameOf dX12_rests_72) ?_
  refine fc (okt_iastore e1 hB dX12_rests_75) ?_
  refine fc (ok_iinc hB (by decide) dX12_rests_76) ?_
  refine fc (ok_goto hB (t := 32) (by decide) dX12_rests_79) ?_
  refine fc (ok_iconst hB dX12_rests_82) ?_
  refine fc (ok_istore hB (by decide) dX12_rests_83) ?_
  refine fc (ok_iconst hB dX12_rests_85) ?_
  refine fc (ok_istore hB (by decide) dX12_rests_86) ?_
  refine fc (ok_iload hB dX12_rests_88) ?_
  refine fc (ok_iload hB dX12_rests_90) ?_
  refine fc (ok_icmp_ge hB (t := 245) (by decide) dX12_rests_92) ?_
  refine fc (ok_iconst hB dX12_rests_95) ?_
  refine fc (ok_istore hB (by decide) dX12_rests_96) ?_
  refine fc (ok_iload hB dX12_rests_98) ?_
  refine fc (ok_iload hB dX12_rests_100) ?_
  refine fc (ok_icmp_ge hB (t := 239) (by decide) dX12_rests_102) ?_
  refine fc (ok_iconst hB dX12_rests_105) ?_
  refine fc (ok_istore hB (by decide) dX12_rests_106) ?_
  refine fc (ok_iconst hB dX12_rests_108) ?_
  refine fc (ok_istore hB (by decide) dX12_rests_109) ?_
  refine fc (ok_iload hB dX12_rests_111) ?_
  refine fc (ok_iload hB dX12_rests_113) ?_
  refine fc (ok_icmp_ge hB (t := 206) (by decide) dX12_rests_115) ?_
  refine fc (ok_iload hB dX12_rests_118) ?_
  refine fc (ok_if_eq hB (t := 197) (by decide) dX12_rests_120) ?_
  refine fc (ok_aload_n hB dX12_rests_123) ?_
  refine fc (okt_getR e1 hB hT fl_X12_105 rfl af_12_54 at_12_54 (by decide) dX12_rests_124) ?_
  refine fc (ok_iconst hB dX12_rests_127) ?_
  refine fc (ok_iload hB dX12_rests_128) ?_
  refine fc (ok_iload hB dX12_rests_130) ?_
  refine fc (ok_imul hB dX12_rests_132) ?_
  refine fc (ok_iload hB dX12_rests_133) ?_
  refine fc (ok_iadd hB dX12_rests_135) ?_
  refine fc (ok_imul hB dX12_rests_136) ?_
  refine fc (okt_iaload e1 hB dX12_rests_137) ?_
  refine fc (ok_aload_n hB dX12_rests_138) ?_
  refine fc (okt_getR e1 hB hT fl_X12_105 rfl af_12_54 at_12_54 (by decide) dX12_rests_139) ?_
  refine fc (ok_iconst hB dX12_rests_142) ?_
  refine fc (ok_iload hB dX12_rests_143) ?_
  refine fc (ok_iload hB dX12_rests_145) ?_
  refine fc (ok_imul hB dX12_rests_147) ?_
  refine fc (ok_iload hB dX12_rests_148) ?_
  refine fc (ok_iadd hB dX12_rests_150) ?_
  refine fc (ok_imul hB dX12_rests_151) ?_
  refine fc (okt_iaload e1 hB dX12_rests_152) ?_
  refine fc (ok_icmp_gt hB (t := 197) (by decide) dX12_rests_153) ?_
  refine fc (ok_aload_n hB dX12_rests_156) ?_
  refine fc (okt_getR e1 hB hT fl_X12_105 rfl af_12_54 at_12_54 (by decide) dX12_rests_157) ?_
  refine fc (ok_iconst hB dX12_rests_160) ?_
  refine fc (ok_iload hB dX12_rests_161) ?_
  refine fc (ok_iload hB dX12_rests_163) ?_
  refine fc (ok_imul hB dX12_rests_165) ?_
  refine fc (ok_iload hB dX12_rests_166) ?_
  refine fc (ok_iadd hB dX12_rests_168) ?_
  refine fc (ok_imul hB dX12_rests_169) ?_
  refine fc (ok_iconst hB dX12_rests_170) ?_
  refine fc (ok_iadd hB dX12_rests_171) ?_
  refine fc (okt_iaload e1 hB dX12_rests_172) ?_
  refine fc (ok_aload_n hB dX12_rests_173) ?_
  refine fc (okt_getR e1 hB hT fl_X12_105 rfl af_12_54 at_12_54 (by decide) dX12_rests_174) ?_
  refine fc (ok_iconst hB dX12_rests_177) ?_
  refine fc (ok_iload hB dX12_rests_178) ?_
  refine fc (ok_iload hB dX12_rests_180) ?_
  refine fc (ok_imul hB dX12_rests_182) ?_
  refine fc (ok_iload hB dX12_rests_183) ?_
  refine fc (ok_iadd hB dX12_rests_185) ?_
  refine fc (ok_imul hB dX12_rests_186) ?_
  refine fc (ok_iconst hB dX12_rests_187) ?_
  refine fc (ok_iadd hB dX12_rests_188) ?_
  refine fc (okt_iaload e1 hB dX12_rests_189) ?_
  refine fc (ok_icmp_gt hB (t := 197) (by decide) dX12_rests_190) ?_
  refine fc (ok_iconst hB dX12_rests_193) ?_
  refine fc (ok_goto hB (t := 198) (by decide) dX12_rests_194) ?_
  refine fc (ok_iconst hB dX12_rests_197) ?_
  refine fc (ok_istore hB (by decide) dX12_rests_198) ?_
  refine fc (ok_iinc hB (by decide) dX12_rests_200) ?_
  refine fc (ok_goto hB (t := 111) (by decide) dX12_rests_203) ?_
  refine fc (ok_iload hB dX12_rests_206) ?_
  refine fc (ok_if_ne hB (t := 214) (by decide) dX12_rests_208) ?_
  refine fc (ok_goto hB (t := 233) (by decide) dX12_rests_211) ?_
  refine fc (ok_iload hB dX12_rests_214) ?_
  refine fc (ok_iload hB dX12_rests_216) ?_
  refine fc (ok_icmp_ne hB (t := 230) (by decide) dX12_rests_218) ?_
  refine fc (ok_bipush hB dX12_rests_221 (by decide)) ?_
  refine fc (ok_iload hB dX12_rests_223) ?_
  refine fc (ok_imul hB dX12_rests_225) ?_
  refine fc (ok_iload hB dX12_rests_226) ?_
  refine fc (ok_iadd hB dX12_rests_228) ?_
  refine fc (ok_iret hB dX12_rests_229) ?_
  refine fc (ok_iinc hB (by decide) dX12_rests_230) ?_
  refine fc (ok_iinc hB (by decide) dX12_rests_233) ?_
  refine fc (ok_goto hB (t := 98) (by decide) dX12_rests_236) ?_
  refine fc (ok_iinc hB (by decide) dX12_rests_239) ?_
  refine fc (ok_goto hB (t := 88) (by decide) dX12_rests_242) ?_
  refine fc (ok_iload hB dX12_rests_245) ?_
  refine fc (ok_iconst hB dX12_rests_247) ?_
  refine fc (ok_icmp_ne hB (t := 256) (by decide) dX12_rests_248) ?_
  refine fc (ok_iload hB dX12_rests_251) ?_
  refine fc (ok_goto hB (t := 257) (by decide) dX12_rests_253) ?_
  refine fc (ok_iconst hB dX12_rests_256) ?_
  refine fc (ok_iret hB dX12_rests_257) ?_
  exact fn
def inv_mrs (σ : Mem) (G0 G1 : Int → Int → Int) (o r p i S : Int) (n pc : Nat) (ls st : List AV) (σ' : Mem) : Prop := st = [] ∧ gmP σ o r p ∧ -1 ≤ i ∧ QF σ σ' ∧ mOk σ' ∧
  ((∃ k : Nat, pc = 32 ∧ ls = [(28, 5000), (0, o), (0, r), (0, p), (0, i), (0, S), (0, (k : Int)), (6, 0), (6, 0), (6, 0), (6, 0)] ∧ (k : Int) ≤ 2 * S * S ∧ (n : Int) = 100000 + 2 * S * S - k ∧ ∀ j, 0 ≤ j → j < k → σ' 5025 j = gnV σ o r p S j) ∨
   ((∀ a b, 0 ≤ a → a < S → 0 ≤ b → b < S → σ' 5025 (2 * (S * a + b)) = G0 a b ∧ σ' 5025 (2 * (S * a + b) + 1) = G1 a b) ∧ ∃ (c x : Int), 0 ≤ c ∧ 0 ≤ x ∧
    ((∃ v8 v9 v10 : AV, pc = 88 ∧ c ≤ 6 * x ∧ x ≤ S ∧ (n : Int) = (S - x) * 10000 ∧ ls = [(28, 5000), (0, o), (0, r), (0, p), (0, i), (0, S), (0, c), (0, x), v8, v9, v10] ∧ v8.1 ≠ 1 ∧ v9.1 ≠ 1 ∧ rsO (mrP G0 G1 S) i S.toNat (S - x).toNat x c = rsO (mrP G0 G1 S) i S.toNat S.toNat 0 0) ∨
     (∃ (y : Int) (v9 v10 : AV), pc = 98 ∧ x < S ∧ 0 ≤ y ∧ y ≤ S ∧ c ≤ 6 * x + y ∧ (n : Int) = (S - x) * 10000 - 1 - y * 100 ∧ ls = [(28, 5000), (0, o), (0, r), (0, p), (0, i), (0, S), (0, c), (0, x), (0, y), v9, v10] ∧ v9.1 ≠ 1 ∧ rsI (mrP G0 G1 S) i x (rsO (mrP G0 G1 S) i S.toNat (S - x - 1).toNat (x + 1)) (S - y).toNat y c = rsO (mrP G0 G1 S) i S.toNat S.toNat 0 0) ∨
     (∃ (y b k : Int), pc = 111 ∧ x < S ∧ 0 ≤ y ∧ y < S ∧ c ≤ 6 * x + y ∧ 0 ≤ k ∧ k ≤ S ∧ (n : Int) = (S - x) * 10000 - 2 - y * 100 - k ∧ ls = [(28, 5000), (0, o), (0, r), (0, p), (0, i), (0, S), (0, c), (0, x), (0, y), (0, b), (0, k)] ∧ ((b = 1 ∧ ∀ j, 0 ≤ j → j < k → G0 j y ≤ G0 x y ∧ G1 x j ≤ G1 x y) ∨ (b = 0 ∧ ¬ mrP G0 G1 S x y)) ∧ rsI (mrP G0 G1 S) i x (rsO (mrP G0 G1 S) i S.toNat (S - x - 1).toNat (x + 1)) (S - y).toNat y c = rsO (mrP G0 G1 S) i S.toNat S.toNat 0 0))))
def w_X12_rests : WP := fun av σ Q => ∃ (o : Int) (r : Int) (p : Int) (i : Int), av = [(28, 5000), (0, o), (0, r), (0, p), (0, i)] ∧ (InR o ∧ InR r ∧ InR p ∧ InR i ∧ mX σ 5015 ∧ (¬ (gmP σ o r p ∧ -1 ≤ i) → Q (0, -1) (th0 σ)) ∧ (gmP σ o r p ∧ -1 ≤ i → ∀ τ, QF σ τ → mOk τ → Q (0, rsO (mrP (fun a b => gmV σ o r p a b o a) (fun a b => gmV σ o r p a b r b) (σ 5000 30)) i (σ 5000 30).toNat (σ 5000 30).toNat 0 0) τ))
theorem w_X12_rests_e (o : Int) (r : Int) (p : Int) (i : Int) (σ : Mem) (Q : AV → Mem → Prop) : w_X12_rests [(28, 5000), (0, o), (0, r), (0, p), (0, i)] σ Q = (InR o ∧ InR r ∧ InR p ∧ InR i ∧ mX σ 5015 ∧ (¬ (gmP σ o r p ∧ -1 ≤ i) → Q (0, -1) (th0 σ)) ∧ (gmP σ o r p ∧ -1 ≤ i → ∀ τ, QF σ τ → mOk τ → Q (0, rsO (mrP (fun a b => gmV σ o r p a b o a) (fun a b => gmV σ o r p a b r b) (σ 5000 30)) i (σ 5000 30).toNat (σ 5000 30).toNat 0 0) τ)) := by
  apply propext; constructor
  · rintro ⟨o', r', p', i', h9, hb9⟩; cases h9; exact hb9
  · intro hb9; exact ⟨o, r, p, i, rfl, hb9⟩

set_option maxRecDepth 100000 in
set_option maxHeartbeats 4000000 in
theorem s_X12_rests : ∀ av σ Q, w_X12_rests av σ Q → amCall 61 0 0 TT yX12_rests cX12_rests 11 (some .int) av σ Q := by
  rintro av σ Q ⟨o, r, p, i, rfl, ho, hr, hp, hi, hx, h1, h2⟩
  have n29 := hx.2.1.2.2.1
  have n28 := hx.2.1.2.2.2.2.1
  have n30 := hx.2.1.2.2.2.1
  have e28 : th0 σ 5000 28 = σ 5000 28 := th_k σ (by decide)
  have e29 : th0 σ 5000 29 = σ 5000 29 := th_k σ (by decide)
  have e30 : th0 σ 5000 30 = σ 5000 30 := th_k σ (by decide)
  have eg : gmP (th0 σ) o r p = gmP σ o r p := by unfold gmP; rw [e29, e28]
  have hmt := (mX_th hx).2.1.1
  generalize hG0 : (fun a b => gmV σ o r p a b o a) = G0 at h2
  generalize hG1 : (fun a b => gmV σ o r p a b r b) = G1 at h2
  have g0 : ∀ a b, gmV σ o r p a b o a = G0 a b := fun a b => by rw [← hG0]
  have g1 : ∀ a b, gmV σ o r p a b r b = G1 a b := fun a b => by rw [← hG1]
  generalize hS : σ 5000 30 = S at *
  have sq := gsq n30.1 (by omega)
  have gb0 : gmP σ o r p → ∀ a b, -1000 ≤ G0 a b ∧ G0 a b ≤ 1000 := fun z a b => by rw [← g0]; exact gmV_b hx ⟨z.2.2.2.1, by have := z.2.2.2.2; omega⟩ z.1
  have gb1 : gmP σ o r p → ∀ a b, -1000 ≤ G1 a b ∧ G1 a b ≤ 1000 := fun z a b => by rw [← g1]; exact gmV_b hx ⟨z.2.2.2.1, by have := z.2.2.2.2; omega⟩ z.2.1
  refine am_m [32, 88, 98, 111] (inv_mrs σ G0 G1 o r p i S) (own := RX12) (A := look a_X12_rests) (fun X e1 e2 hB => o_X12_rests e1 e2 hB) rfl (by decide +kernel) rfl rfl ?_ ⟨60, ?_⟩ (w := 11)
  · rintro n pc ls st σ' ⟨rfl, hg, hi1, hQ, hm, ⟨k, rfl, rfl, hk, hn, hgn⟩ | ⟨hgn, c, x, c0, x0, ⟨v8, v9, v10, rfl, hcx, hxS, hn, rfl, h8, h9, hr9⟩ | ⟨y, v9, v10, rfl, hxS, y0, yS, hcy, hn, rfl, h9, hr9⟩ | ⟨y, b, k, rfl, hxS, y0, yS, hcy, k0, kS, hn, rfl, hb, hr9⟩⟩⟩
    · have hx' := mX15 hQ hm hx
      have s28 := hQ.2 28 (by decide) (by decide) (by decide) (by decide) (by decide) (by decide) (by decide)
      have s29 := hQ.2 29 (by decide) (by decide) (by decide) (by decide) (by decide) (by decide) (by decide)
      have s30 := hQ.2 30 (by decide) (by decide) (by decide) (by decide) (by decide) (by decide) (by decide)
      rw [hS] at s30
      have hg' : gmP σ' o r p := by unfold gmP; rw [s28, s29]; exact hg
      refine ⟨90, ?_⟩
      by_cases cc : (k : Int) < 2 * S * S
      · obtain ⟨⟨a0, a1⟩, ⟨b0, b1⟩, w01, d0, d1⟩ := gkx n30.1 (by omega) cc
        have ev : (if Int.tmod (k : Int) 2 = 0 then gmV σ' o r p (Int.tdiv (Int.tdiv (k : Int) 2) S) (Int.tmod (Int.tdiv (k : Int) 2) S) o (Int.tdiv (Int.tdiv (k : Int) 2) S) else gmV σ' o r p (Int.tdiv (Int.tdiv (k : Int) 2) S) (Int.tmod (Int.tdiv (k : Int) 2) S) r (Int.tmod (Int.tdiv (k : Int) 2) S)) = gnV σ o r p S k := by
          unfold gnV; rw [QF_gmV hQ hx _ _ _ _ _ _ hg.1.1 hg.1.2, QF_gmV hQ hx _ _ _ _ _ _ hg.2.1.1 hg.2.1.2]
        have i9 : ∀ τ, QF σ' τ → mOk τ → τ 5025 = σ' 5025 → ∃ k', k' < n ∧ inv_mrs σ G0 G1 o r p i S k' 32 [(28, 5000), (0, o), (0, r), (0, p), (0, i), (0, S), (0, (k : Int) + 1), (6, 0), (6, 0), (6, 0), (6, 0)] [] (up τ 5025 k (gnV σ o r p S k)) := fun τ a b e =>
          ⟨n - 1, by omega, rfl, hg, hi1, QF_up (QF_tr hQ a) (Or.inr rfl), mOk_up b (by decide), Or.inl ⟨k + 1, rfl, rfl, by omega, by omega, fun j j0 j1 => by
            by_cases z : j = k
            · rw [z, up_s]
            · rw [up_nj _ z, e]; exact hgn j j0 (by omega)⟩⟩
        simp only [↓reduceIte, inR_0, inR_1, inR_m, vSw2_e, swP_n, swP_c, vI_e, vL_e, vNull_e, vIload_e, vLload_e, vAload_e, vIstore_e, vLstore_e, vAstore_e, vIinc_e, vIadd_e, vIsub_e, vImul_e, vIand_e, vIor_e, vIxor_e, vIshl_e, vIshr_e, vIushr_e, vIdiv_e, vIrem_e, vLadd_e, vLsub_e, vLmul_e, vLand_e, vLor_e, vLxor_e, vLdiv_e, vLrem_e, vLushr_e, vLshl_e, vLcmp_e, vIneg_e, vI2l_e, vL2i_e, vI2b_e, vI2c_e, vDup_e, vPop_e, vDup2_e, vGoto_e, vIcEq_e, vIfEq_e, vIcNe_e, vIfNe_e, vIcLt_e, vIfLt_e, vIcGe_e, vIfGe_e, vIcGt_e, vIfGt_e, vIcLe_e, vIfLe_e, vNonnull_e, vSw_e, vGetI_e, vGetL_e, vGetR_e, vPutI_e, vPutZ_e, vPutL_e, vPutR_e, vIald_e, vIald_s, vLald_e, vBald_e, vBald_s, vAald_e, vIast_e, vLast_e, vBast_e, vAast_e, vAlen_e8, vAlen_e9, vAlen_e10, vAlen_e11, vAlen_e5, vAlen_e3, vGets_e, vCompact_e, vLdcS_e, vIret_e, vZret_e, vCret_e, vBret_e, vLret_e, vVret_e, vAret_e, vCallM_e0, vCallMV_e0, vCallS_e0, vCallSV_e0, vCallM_e1, vCallMV_e1, vCallS_e1, vCallSV_e1, vCallM_e2, vCallMV_e2, vCallS_e2, vCallSV_e2, vCallM_e3, vCallMV_e3, vCallS_e3, vCallSV_e3, vCallM_e4, vCallMV_e4, vCallS_e4, vCallSV_e4, vCallM_e5, vCallMV_e5, vCallS_e5, vCallSV_e5, vCallM_e6, vCallMV_e6, vCallS_e6, vCallSV_e6, vCallM_e7, vCallMV_e7, vCallS_e7, vCallSV_e7, vBad_e, vStrVal_e, vStrCod_e, vForm_e, vCallT_e0, vCallT_e1, vCallT_e2, vCopy_e, rf_0_0, rf_0_1, rf_0_2, rf_0_3, rf_0_4, rf_0_7, rf_0_10, rf_0_11, rf_0_12, rf_0_13, rf_0_14, rf_0_15, rf_0_16, rf_1_0, rf_3_0, rf_3_1, rf_6_0, rf_6_1, rf_9_0, rf_9_1, rf_9_3, rf_13_0, rf_13_1, rf_13_2, rf_16_0, rf_16_1, rf_16_2, rf_16_3, rf_21_0, rf_21_1, rf_21_2, rf_21_3, rf_26_0, rf_26_1, rf_26_2, rf_26_3, rf_26_4, rf_26_5, rf_26_6, rf_31_0, rf_31_2, rf_31_5, rf_31_6, rf_36_0, rf_36_1, rf_36_2, rf_36_3, rf_39_0, rf_39_1, rf_39_2, rf_41_0, rf_41_1, rf_41_2, rf_41_3, rf_5000_1, rf_5000_2, rf_5000_3, rf_5000_4, rf_5000_5, rf_5000_15, rf_5000_16, rf_5000_18, rf_5000_19, rf_5000_20, rf_5000_21, rf_5000_22, rf_5000_23, rf_5000_24, rf_5000_25, rf_5000_26, rf_5000_27, rf_5000_36, rf_5000_37, rf_5000_40, rf_5000_41, rf_5000_42, rf_5000_43, rf_5000_44, rf_5000_45, rf_5000_47, rf_5000_52, rf_5000_54, rf_5000_55, rf_100_0, rf_100_1, rf_103_0, rf_103_1, rf_106_0, rf_106_1, rf_109_0, rf_109_1, al_2, al_4, al_5, al_7, al_8, al_10, al_11, al_12, al_14, al_15, al_17, al_18, al_19, al_20, al_22, al_23, al_24, al_25, al_27, al_28, al_29, al_30, al_32, al_33, al_34, al_35, al_37, al_38, al_40, al_42, al_5001, al_5002, al_5003, al_5004, al_5005, al_5006, al_5007, al_5008, al_5009, al_5010, al_5011, al_5012, al_5013, al_5014, al_5015, al_5016, al_5017, al_5018, al_5019, al_5020, al_5021, al_5022, al_5023, al_5024, al_5025, al_5026, al_9000, al_101, al_102, al_104, al_105, al_107, al_108, al_110, al_111, vcs_e, lg_c0, lg_cs, lg_nil, set_c0, set_cs, okst_0, okst_s, acok_n, acok_c, List.contains_nil, List.contains_cons, Bool.or_false, Bool.false_or, Bool.false_eq_true, if_false, if_true, ite_self, ne_eq, true_and, and_true, not_false_eq_true, not_true_eq_false, false_imp_iff, true_imp_iff, Nat.ble_eq, Bool.and_eq_true, reduceCtorEq, or_false, false_or, or_true, true_or, false_and, and_false, and_self, Int.reduceLE, Int.reduceAdd, Int.reduceSub, Int.reduceMul, Int.reduceNeg, Int.reduceLT, Int.reduceEq, Int.reduceNe, Nat.reduceBEq, Nat.reduceBNe, Nat.reduceEqDiff, amCmp_in, amCmp_lt, amCmp_le, amCmp_gt, amCmp_ge, amCmp_eq, amCmp_ne, Nat.reduceLeDiff, Nat.reduceSub, Bool.and_true, Bool.true_and, Bool.and_self, Bool.or_true, Bool.true_or, isRf_3, isRf_4, isRf_5, isRf_8, isRf_9, isRf_10, isRf_11, isRf_15, isRf_16, isRf_17, isRf_18, isRf_19, isRf_20, isRf_21, isRf_22, isRf_23, isRf_24, isRf_25, isRf_26, isRf_27, isRf_28, k_X12_rests_0, k_X12_rests_1, k_X12_rests_2, k_X12_rests_5, k_X12_rests_6, k_X12_rests_7, k_X12_rests_8, k_X12_rests_9, k_X12_rests_12, k_X12_rests_15, k_X12_rests_17, k_X12_rests_18, k_X12_rests_21, k_X12_rests_22, k_X12_rests_23, k_X12_rests_24, k_X12_rests_27, k_X12_rests_29, k_X12_rests_30, k_X12_rests_32, k_X12_rests_34, k_X12_rests_35, k_X12_rests_37, k_X12_rests_38, k_X12_rests_40, k_X12_rests_41, k_X12_rests_44, k_X12_rests_45, k_X12_rests_48, k_X12_rests_50, k_X12_rests_51, k_X12_rests_52, k_X12_rests_53, k_X12_rests_54, k_X12_rests_56, k_X12_rests_57, k_X12_rests_58, k_X12_rests_60, k_X12_rests_61, k_X12_rests_63, k_X12_rests_64, k_X12_rests_65, k_X12_rests_67, k_X12_rests_68, k_X12_rests_70, k_X12_rests_71, k_X12_rests_72, k_X12_rests_75, k_X12_rests_76, k_X12_rests_79, k_X12_rests_82, k_X12_rests_83, k_X12_rests_85, k_X12_rests_86, k_X12_rests_88, k_X12_rests_90, k_X12_rests_92, k_X12_rests_95, k_X12_rests_96, k_X12_rests_98, k_X12_rests_100, k_X12_rests_102, k_X12_rests_105, k_X12_rests_106, k_X12_rests_108, k_X12_rests_109, k_X12_rests_111, k_X12_rests_113, k_X12_rests_115, k_X12_rests_118, k_X12_rests_120, k_X12_rests_123, k_X12_rests_124, k_X12_rests_127, k_X12_rests_128, k_X12_rests_130, k_X12_rests_132, k_X12_rests_133, k_X12_rests_135, k_X12_rests_136, k_X12_rests_137, k_X12_rests_138, k_X12_rests_139, k_X12_rests_142, k_X12_rests_143, k_X12_rests_145, k_X12_rests_147, k_X12_rests_148, k_X12_rests_150, k_X12_rests_151, k_X12_rests_152, k_X12_rests_153, k_X12_rests_156, k_X12_rests_157, k_X12_rests_160, k_X12_rests_161, k_X12_rests_163, k_X12_rests_165, k_X12_rests_166, k_X12_rests_168, k_X12_rests_169, k_X12_rests_170, k_X12_rests_171, k_X12_rests_172, k_X12_rests_173, k_X12_rests_174, k_X12_rests_177, k_X12_rests_178, k_X12_rests_180, k_X12_rests_182, k_X12_rests_183, k_X12_rests_185, k_X12_rests_186, k_X12_rests_187, k_X12_rests_188, k_X12_rests_189, k_X12_rests_190, k_X12_rests_193, k_X12_rests_194, k_X12_rests_197, k_X12_rests_198, k_X12_rests_200, k_X12_rests_203, k_X12_rests_206, k_X12_rests_208, k_X12_rests_211, k_X12_rests_214, k_X12_rests_216, k_X12_rests_218, k_X12_rests_221, k_X12_rests_223, k_X12_rests_225, k_X12_rests_226, k_X12_rests_228, k_X12_rests_229, k_X12_rests_230, k_X12_rests_233, k_X12_rests_236, k_X12_rests_239, k_X12_rests_242, k_X12_rests_245, k_X12_rests_247, k_X12_rests_248, k_X12_rests_251, k_X12_rests_253, k_X12_rests_256, k_X12_rests_257, w_X12_gameOf_e, w_X12_isGame_e, s30, ev]
        repeat' (first | assumption | exact hx' | exact hg' | apply And.intro | intro _)
        all_goals first | omega | exact absurd trivial (by assumption) | exact i9 _ (by assumption) (by assumption) (by assumption) | exact ⟨by omega, by omega⟩
      · have i9 : ∃ k', k' < n ∧ inv_mrs σ G0 G1 o r p i S k' 88 [(28, 5000), (0, o), (0, r), (0, p), (0, i), (0, S), (0, 0), (0, 0), (6, 0), (6, 0), (6, 0)] [] σ' :=
          ⟨(S * 10000).toNat, by omega, rfl, hg, hi1, hQ, hm, Or.inr ⟨fun a b a0 a1 b0 b1 => by
            obtain ⟨⟨q1, q2, q3⟩, ⟨q4, q5, q6⟩, q7, q8, -, -⟩ := gix (by omega) a0 a1 b0 b1
            rw [hgn _ (by omega) (by omega), hgn _ (by omega) (by omega)]
            unfold gnV
            rw [q1, q2, q3, q4, q5, q6, if_pos rfl, if_neg (by decide), g0, g1]
            exact ⟨rfl, rfl⟩, 0, 0, by decide, by decide, Or.inl ⟨_, _, _, rfl, by decide, n30.1, by omega, rfl, by decide, by decide, by rw [Int.sub_zero]⟩⟩⟩
        simp only [↓reduceIte, inR_0, inR_1, inR_m, vSw2_e, swP_n, swP_c, vI_e, vL_e, vNull_e, vIload_e, vLload_e, vAload_e, vIstore_e, vLstore_e, vAstore_e, vIinc_e, vIadd_e, vIsub_e, vImul_e, vIand_e, vIor_e, vIxor_e, vIshl_e, vIshr_e, vIushr_e, vIdiv_e, vIrem_e, vLadd_e, vLsub_e, vLmul_e, vLand_e, vLor_e, vLxor_e, vLdiv_e, vLrem_e, vLushr_e, vLshl_e, vLcmp_e, vIneg_e, vI2l_e, vL2i_e, vI2b_e, vI2c_e, vDup_e, vPop_e, vDup2_e, vGoto_e, vIcEq_e, vIfEq_e, vIcNe_e, vIfNe_e, vIcLt_e, vIfLt_e, vIcGe_e, vIfGe_e, vIcGt_e, vIfGt_e, vIcLe_e, vIfLe_e, vNonnull_e, vSw_e, vGetI_e, vGetL_e, vGetR_e, vPutI_e, vPutZ_e, vPutL_e, vPutR_e, vIald_e, vIald_s, vLald_e, vBald_e, vBald_s, vAald_e, vIast_e, vLast_e, vBast_e, vAast_e, vAlen_e8, vAlen_e9, vAlen_e10, vAlen_e11, vAlen_e5, vAlen_e3, vGets_e, vCompact_e, vLdcS_e, vIret_e, vZret_e, vCret_e, vBret_e, vLret_e, vVret_e, vAret_e, vCallM_e0, vCallMV_e0, vCallS_e0, vCallSV_e0, vCallM_e1, vCallMV_e1, vCallS_e1, vCallSV_e1, vCallM_e2, vCallMV_e2, vCallS_e2, vCallSV_e2, vCallM_e3, vCallMV_e3, vCallS_e3, vCallSV_e3, vCallM_e4, vCallMV_e4, vCallS_e4, vCallSV_e4, vCallM_e5, vCallMV_e5, vCallS_e5, vCallSV_e5, vCallM_e6, vCallMV_e6, vCallS_e6, vCallSV_e6, vCallM_e7, vCallMV_e7, vCallS_e7, vCallSV_e7, vBad_e, vStrVal_e, vStrCod_e, vForm_e, vCallT_e0, vCallT_e1, vCallT_e2, vCopy_e, rf_0_0, rf_0_1, rf_0_2, rf_0_3, rf_0_4, rf_0_7, rf_0_10, rf_0_11, rf_0_12, rf_0_13, rf_0_14, rf_0_15, rf_0_16, rf_1_0, rf_3_0, rf_3_1, rf_6_0, rf_6_1, rf_9_0, rf_9_1, rf_9_3, rf_13_0, rf_13_1, rf_13_2, rf_16_0, rf_16_1, rf_16_2, rf_16_3, rf_21_0, rf_21_1, rf_21_2, rf_21_3, rf_26_0, rf_26_1, rf_26_2, rf_26_3, rf_26_4, rf_26_5, rf_26_6, rf_31_0, rf_31_2, rf_31_5, rf_31_6, rf_36_0, rf_36_1, rf_36_2, rf_36_3, rf_39_0, rf_39_1, rf_39_2, rf_41_0, rf_41_1, rf_41_2, rf_41_3, rf_5000_1, rf_5000_2, rf_5000_3, rf_5000_4, rf_5000_5, rf_5000_15, rf_5000_16, rf_5000_18, rf_5000_19, rf_5000_20, rf_5000_21, rf_5000_22, rf_5000_23, rf_5000_24, rf_5000_25, rf_5000_26, rf_5000_27, rf_5000_36, rf_5000_37, rf_5000_40, rf_5000_41, rf_5000_42, rf_5000_43, rf_5000_44, rf_5000_45, rf_5000_47, rf_5000_52, rf_5000_54, rf_5000_55, rf_100_0, rf_100_1, rf_103_0, rf_103_1, rf_106_0, rf_106_1, rf_109_0, rf_109_1, al_2, al_4, al_5, al_7, al_8, al_10, al_11, al_12, al_14, al_15, al_17, al_18, al_19, al_20, al_22, al_23, al_24, al_25, al_27, al_28, al_29, al_30, al_32, al_33, al_34, al_35, al_37, al_38, al_40, al_42, al_5001, al_5002, al_5003, al_5004, al_5005, al_5006, al_5007, al_5008, al_5009, al_5010, al_5011, al_5012, al_5013, al_5014, al_5015, al_5016, al_5017, al_5018, al_5019, al_5020, al_5021, al_5022, al_5023, al_5024, al_5025, al_5026, al_9000, al_101, al_102, al_104, al_105, al_107, al_108, al_110, al_111, vcs_e, lg_c0, lg_cs, lg_nil, set_c0, set_cs, okst_0, okst_s, acok_n, acok_c, List.contains_nil, List.contains_cons, Bool.or_false, Bool.false_or, Bool.false_eq_true, if_false, if_true, ite_self, ne_eq, true_and, and_true, not_false_eq_true, not_true_eq_false, false_imp_iff, true_imp_iff, Nat.ble_eq, Bool.and_eq_true, reduceCtorEq, or_false, false_or, or_true, true_or, false_and, and_false, and_self, Int.reduceLE, Int.reduceAdd, Int.reduceSub, Int.reduceMul, Int.reduceNeg, Int.reduceLT, Int.reduceEq, Int.reduceNe, Nat.reduceBEq, Nat.reduceBNe, Nat.reduceEqDiff, amCmp_in, amCmp_lt, amCmp_le, amCmp_gt, amCmp_ge, amCmp_eq, amCmp_ne, Nat.reduceLeDiff, Nat.reduceSub, Bool.and_true, Bool.true_and, Bool.and_self, Bool.or_true, Bool.true_or, isRf_3, isRf_4, isRf_5, isRf_8, isRf_9, isRf_10, isRf_11, isRf_15, isRf_16, isRf_17, isRf_18, isRf_19, isRf_20, isRf_21, isRf_22, isRf_23, isRf_24, isRf_25, isRf_26, isRf_27, isRf_28, k_X12_rests_0, k_X12_rests_1, k_X12_rests_2, k_X12_rests_5, k_X12_rests_6, k_X12_rests_7, k_X12_rests_8, k_X12_rests_9, k_X12_rests_12, k_X12_rests_15, k_X12_rests_17, k_X12_rests_18, k_X12_rests_21, k_X12_rests_22, k_X12_rests_23, k_X12_rests_24, k_X12_rests_27, k_X12_rests_29, k_X12_rests_30, k_X12_rests_32, k_X12_rests_34, k_X12_rests_35, k_X12_rests_37, k_X12_rests_38, k_X12_rests_40, k_X12_rests_41, k_X12_rests_44, k_X12_rests_45, k_X12_rests_48, k_X12_rests_50, k_X12_rests_51, k_X12_rests_52, k_X12_rests_53, k_X12_rests_54, k_X12_rests_56, k_X12_rests_57, k_X12_rests_58, k_X12_rests_60, k_X12_rests_61, k_X12_rests_63, k_X12_rests_64, k_X12_rests_65, k_X12_rests_67, k_X12_rests_68, k_X12_rests_70, k_X12_rests_71, k_X12_rests_72, k_X12_rests_75, k_X12_rests_76, k_X12_rests_79, k_X12_rests_82, k_X12_rests_83, k_X12_rests_85, k_X12_rests_86, k_X12_rests_88, k_X12_rests_90, k_X12_rests_92, k_X12_rests_95, k_X12_rests_96, k_X12_rests_98, k_X12_rests_100, k_X12_rests_102, k_X12_rests_105, k_X12_rests_106, k_X12_rests_108, k_X12_rests_109, k_X12_rests_111, k_X12_rests_113, k_X12_rests_115, k_X12_rests_118, k_X12_rests_120, k_X12_rests_123, k_X12_rests_124, k_X12_rests_127, k_X12_rests_128, k_X12_rests_130, k_X12_rests_132, k_X12_rests_133, k_X12_rests_135, k_X12_rests_136, k_X12_rests_137, k_X12_rests_138, k_X12_rests_139, k_X12_rests_142, k_X12_rests_143, k_X12_rests_145, k_X12_rests_147, k_X12_rests_148, k_X12_rests_150, k_X12_rests_151, k_X12_rests_152, k_X12_rests_153, k_X12_rests_156, k_X12_rests_157, k_X12_rests_160, k_X12_rests_161, k_X12_rests_163, k_X12_rests_165, k_X12_rests_166, k_X12_rests_168, k_X12_rests_169, k_X12_rests_170, k_X12_rests_171, k_X12_rests_172, k_X12_rests_173, k_X12_rests_174, k_X12_rests_177, k_X12_rests_178, k_X12_rests_180, k_X12_rests_182, k_X12_rests_183, k_X12_rests_185, k_X12_rests_186, k_X12_rests_187, k_X12_rests_188, k_X12_rests_189, k_X12_rests_190, k_X12_rests_193, k_X12_rests_194, k_X12_rests_197, k_X12_rests_198, k_X12_rests_200, k_X12_rests_203, k_X12_rests_206, k_X12_rests_208, k_X12_rests_211, k_X12_rests_214, k_X12_rests_216, k_X12_rests_218, k_X12_rests_221, k_X12_rests_223, k_X12_rests_225, k_X12_rests_226, k_X12_rests_228, k_X12_rests_229, k_X12_rests_230, k_X12_rests_233, k_X12_rests_236, k_X12_rests_239, k_X12_rests_242, k_X12_rests_245, k_X12_rests_247, k_X12_rests_248, k_X12_rests_251, k_X12_rests_253, k_X12_rests_256, k_X12_rests_257, w_X12_gameOf_e, w_X12_isGame_e]
        repeat' (first | apply And.intro | intro _)
        all_goals first | omega | exact absurd trivial (by assumption) | exact i9 | exact ⟨by omega, by omega⟩
    · have hq := h2 ⟨hg, hi1⟩ σ' hQ hm
      rw [← hr9] at hq
      refine ⟨60, ?_⟩
      by_cases hlt : x < S
      · rw [show (S - x).toNat = (S - x - 1).toNat + 1 by omega, rsO] at hr9
        have i9 : ∃ k', k' < n ∧ inv_mrs σ G0 G1 o r p i S k' 98 [(28, 5000), (0, o), (0, r), (0, p), (0, i), (0, S), (0, c), (0, x), (0, 0), v9, v10] [] σ' :=
          ⟨n - 1, by omega, rfl, hg, hi1, hQ, hm, Or.inr ⟨hgn, c, x, c0, x0, Or.inr (Or.inl ⟨0, v9, v10, rfl, hlt, by decide, n30.1, by omega, by omega, rfl, h9, by rw [Int.sub_zero]; exact hr9⟩)⟩⟩
        simp only [↓reduceIte, inR_0, inR_1, inR_m, vSw2_e, swP_n, swP_c, vI_e, vL_e, vNull_e, vIload_e, vLload_e, vAload_e, vIstore_e, vLstore_e, vAstore_e, vIinc_e, vIadd_e, vIsub_e, vImul_e, vIand_e, vIor_e, vIxor_e, vIshl_e, vIshr_e, vIushr_e, vIdiv_e, vIrem_e, vLadd_e, vLsub_e, vLmul_e, vLand_e, vLor_e, vLxor_e, vLdiv_e, vLrem_e, vLushr_e, vLshl_e, vLcmp_e, vIneg_e, vI2l_e, vL2i_e, vI2b_e, vI2c_e, vDup_e, vPop_e, vDup2_e, vGoto_e, vIcEq_e, vIfEq_e, vIcNe_e, vIfNe_e, vIcLt_e, vIfLt_e, vIcGe_e, vIfGe_e, vIcGt_e, vIfGt_e, vIcLe_e, vIfLe_e, vNonnull_e, vSw_e, vGetI_e, vGetL_e, vGetR_e, vPutI_e, vPutZ_e, vPutL_e, vPutR_e, vIald_e, vIald_s, vLald_e, vBald_e, vBald_s, vAald_e, vIast_e, vLast_e, vBast_e, vAast_e, vAlen_e8, vAlen_e9, vAlen_e10, vAlen_e11, vAlen_e5, vAlen_e3, vGets_e, vCompact_e, vLdcS_e, vIret_e, vZret_e, vCret_e, vBret_e, vLret_e, vVret_e, vAret_e, vCallM_e0, vCallMV_e0, vCallS_e0, vCallSV_e0, vCallM_e1, vCallMV_e1, vCallS_e1, vCallSV_e1, vCallM_e2, vCallMV_e2, vCallS_e2, vCallSV_e2, vCallM_e3, vCallMV_e3, vCallS_e3, vCallSV_e3, vCallM_e4, vCallMV_e4, vCallS_e4, vCallSV_e4, vCallM_e5, vCallMV_e5, vCallS_e5, vCallSV_e5, vCallM_e6, vCallMV_e6, vCallS_e6, vCallSV_e6, vCallM_e7, vCallMV_e7, vCallS_e7, vCallSV_e7, vBad_e, vStrVal_e, vStrCod_e, vForm_e, vCallT_e0, vCallT_e1, vCallT_e2, vCopy_e, rf_0_0, rf_0_1, rf_0_2, rf_0_3, rf_0_4, rf_0_7, rf_0_10, rf_0_11, rf_0_12, rf_0_13, rf_0_14, rf_0_15, rf_0_16, rf_1_0, rf_3_0, rf_3_1, rf_6_0, rf_6_1, rf_9_0, rf_9_1, rf_9_3, rf_13_0, rf_13_1, rf_13_2, rf_16_0, rf_16_1, rf_16_2, rf_16_3, rf_21_0, rf_21_1, rf_21_2, rf_21_3, rf_26_0, rf_26_1, rf_26_2, rf_26_3, rf_26_4, rf_26_5, rf_26_6, rf_31_0, rf_31_2, rf_31_5, rf_31_6, rf_36_0, rf_36_1, rf_36_2, rf_36_3, rf_39_0, rf_39_1, rf_39_2, rf_41_0, rf_41_1, rf_41_2, rf_41_3, rf_5000_1, rf_5000_2, rf_5000_3, rf_5000_4, rf_5000_5, rf_5000_15, rf_5000_16, rf_5000_18, rf_5000_19, rf_5000_20, rf_5000_21, rf_5000_22, rf_5000_23, rf_5000_24, rf_5000_25, rf_5000_26, rf_5000_27, rf_5000_36, rf_5000_37, rf_5000_40, rf_5000_41, rf_5000_42, rf_5000_43, rf_5000_44, rf_5000_45, rf_5000_47, rf_5000_52, rf_5000_54, rf_5000_55, rf_100_0, rf_100_1, rf_103_0, rf_103_1, rf_106_0, rf_106_1, rf_109_0, rf_109_1, al_2, al_4, al_5, al_7, al_8, al_10, al_11, al_12, al_14, al_15, al_17, al_18, al_19, al_20, al_22, al_23, al_24, al_25, al_27, al_28, al_29, al_30, al_32, al_33, al_34, al_35, al_37, al_38, al_40, al_42, al_5001, al_5002, al_5003, al_5004, al_5005, al_5006, al_5007, al_5008, al_5009, al_5010, al_5011, al_5012, al_5013, al_5014, al_5015, al_5016, al_5017, al_5018, al_5019, al_5020, al_5021, al_5022, al_5023, al_5024, al_5025, al_5026, al_9000, al_101, al_102, al_104, al_105, al_107, al_108, al_110, al_111, vcs_e, lg_c0, lg_cs, lg_nil, set_c0, set_cs, okst_0, okst_s, acok_n, acok_c, List.contains_nil, List.contains_cons, Bool.or_false, Bool.false_or, Bool.false_eq_true, if_false, if_true, ite_self, ne_eq, true_and, and_true, not_false_eq_true, not_true_eq_false, false_imp_iff, true_imp_iff, Nat.ble_eq, Bool.and_eq_true, reduceCtorEq, or_false, false_or, or_true, true_or, false_and, and_false, and_self, Int.reduceLE, Int.reduceAdd, Int.reduceSub, Int.reduceMul, Int.reduceNeg, Int.reduceLT, Int.reduceEq, Int.reduceNe, Nat.reduceBEq, Nat.reduceBNe, Nat.reduceEqDiff, amCmp_in, amCmp_lt, amCmp_le, amCmp_gt, amCmp_ge, amCmp_eq, amCmp_ne, Nat.reduceLeDiff, Nat.reduceSub, Bool.and_true, Bool.true_and, Bool.and_self, Bool.or_true, Bool.true_or, isRf_3, isRf_4, isRf_5, isRf_8, isRf_9, isRf_10, isRf_11, isRf_15, isRf_16, isRf_17, isRf_18, isRf_19, isRf_20, isRf_21, isRf_22, isRf_23, isRf_24, isRf_25, isRf_26, isRf_27, isRf_28, k_X12_rests_0, k_X12_rests_1, k_X12_rests_2, k_X12_rests_5, k_X12_rests_6, k_X12_rests_7, k_X12_rests_8, k_X12_rests_9, k_X12_rests_12, k_X12_rests_15, k_X12_rests_17, k_X12_rests_18, k_X12_rests_21, k_X12_rests_22, k_X12_rests_23, k_X12_rests_24, k_X12_rests_27, k_X12_rests_29, k_X12_rests_30, k_X12_rests_32, k_X12_rests_34, k_X12_rests_35, k_X12_rests_37, k_X12_rests_38, k_X12_rests_40, k_X12_rests_41, k_X12_rests_44, k_X12_rests_45, k_X12_rests_48, k_X12_rests_50, k_X12_rests_51, k_X12_rests_52, k_X12_rests_53, k_X12_rests_54, k_X12_rests_56, k_X12_rests_57, k_X12_rests_58, k_X12_rests_60, k_X12_rests_61, k_X12_rests_63, k_X12_rests_64, k_X12_rests_65, k_X12_rests_67, k_X12_rests_68, k_X12_rests_70, k_X12_rests_71, k_X12_rests_72, k_X12_rests_75, k_X12_rests_76, k_X12_rests_79, k_X12_rests_82, k_X12_rests_83, k_X12_rests_85, k_X12_rests_86, k_X12_rests_88, k_X12_rests_90, k_X12_rests_92, k_X12_rests_95, k_X12_rests_96, k_X12_rests_98, k_X12_rests_100, k_X12_rests_102, k_X12_rests_105, k_X12_rests_106, k_X12_rests_108, k_X12_rests_109, k_X12_rests_111, k_X12_rests_113, k_X12_rests_115, k_X12_rests_118, k_X12_rests_120, k_X12_rests_123, k_X12_rests_124, k_X12_rests_127, k_X12_rests_128, k_X12_rests_130, k_X12_rests_132, k_X12_rests_133, k_X12_rests_135, k_X12_rests_136, k_X12_rests_137, k_X12_rests_138, k_X12_rests_139, k_X12_rests_142, k_X12_rests_143, k_X12_rests_145, k_X12_rests_147, k_X12_rests_148, k_X12_rests_150, k_X12_rests_151, k_X12_rests_152, k_X12_rests_153, k_X12_rests_156, k_X12_rests_157, k_X12_rests_160, k_X12_rests_161, k_X12_rests_163, k_X12_rests_165, k_X12_rests_166, k_X12_rests_168, k_X12_rests_169, k_X12_rests_170, k_X12_rests_171, k_X12_rests_172, k_X12_rests_173, k_X12_rests_174, k_X12_rests_177, k_X12_rests_178, k_X12_rests_180, k_X12_rests_182, k_X12_rests_183, k_X12_rests_185, k_X12_rests_186, k_X12_rests_187, k_X12_rests_188, k_X12_rests_189, k_X12_rests_190, k_X12_rests_193, k_X12_rests_194, k_X12_rests_197, k_X12_rests_198, k_X12_rests_200, k_X12_rests_203, k_X12_rests_206, k_X12_rests_208, k_X12_rests_211, k_X12_rests_214, k_X12_rests_216, k_X12_rests_218, k_X12_rests_221, k_X12_rests_223, k_X12_rests_225, k_X12_rests_226, k_X12_rests_228, k_X12_rests_229, k_X12_rests_230, k_X12_rests_233, k_X12_rests_236, k_X12_rests_239, k_X12_rests_242, k_X12_rests_245, k_X12_rests_247, k_X12_rests_248, k_X12_rests_251, k_X12_rests_253, k_X12_rests_256, k_X12_rests_257]
        repeat' (first | apply And.intro | intro _)
        all_goals first | omega | exact absurd trivial (by assumption) | exact i9
      · rw [show (S - x).toNat = 0 by omega, rsO] at hq
        by_cases ci : i = -1
        · rw [if_pos ci] at hq
          simp only [↓reduceIte, inR_0, inR_1, inR_m, vSw2_e, swP_n, swP_c, vI_e, vL_e, vNull_e, vIload_e, vLload_e, vAload_e, vIstore_e, vLstore_e, vAstore_e, vIinc_e, vIadd_e, vIsub_e, vImul_e, vIand_e, vIor_e, vIxor_e, vIshl_e, vIshr_e, vIushr_e, vIdiv_e, vIrem_e, vLadd_e, vLsub_e, vLmul_e, vLand_e, vLor_e, vLxor_e, vLdiv_e, vLrem_e, vLushr_e, vLshl_e, vLcmp_e, vIneg_e, vI2l_e, vL2i_e, vI2b_e, vI2c_e, vDup_e, vPop_e, vDup2_e, vGoto_e, vIcEq_e, vIfEq_e, vIcNe_e, vIfNe_e, vIcLt_e, vIfLt_e, vIcGe_e, vIfGe_e, vIcGt_e, vIfGt_e, vIcLe_e, vIfLe_e, vNonnull_e, vSw_e, vGetI_e, vGetL_e, vGetR_e, vPutI_e, vPutZ_e, vPutL_e, vPutR_e, vIald_e, vIald_s, vLald_e, vBald_e, vBald_s, vAald_e, vIast_e, vLast_e, vBast_e, vAast_e, vAlen_e8, vAlen_e9, vAlen_e10, vAlen_e11, vAlen_e5, vAlen_e3, vGets_e, vCompact_e, vLdcS_e, vIret_e, vZret_e, vCret_e, vBret_e, vLret_e, vVret_e, vAret_e, vCallM_e0, vCallMV_e0, vCallS_e0, vCallSV_e0, vCallM_e1, vCallMV_e1, vCallS_e1, vCallSV_e1, vCallM_e2, vCallMV_e2, vCallS_e2, vCallSV_e2, vCallM_e3, vCallMV_e3, vCallS_e3, vCallSV_e3, vCallM_e4, vCallMV_e4, vCallS_e4, vCallSV_e4, vCallM_e5, vCallMV_e5, vCallS_e5, vCallSV_e5, vCallM_e6, vCallMV_e6, vCallS_e6, vCallSV_e6, vCallM_e7, vCallMV_e7, vCallS_e7, vCallSV_e7, vBad_e, vStrVal_e, vStrCod_e, vForm_e, vCallT_e0, vCallT_e1, vCallT_e2, vCopy_e, rf_0_0, rf_0_1, rf_0_2, rf_0_3, rf_0_4, rf_0_7, rf_0_10, rf_0_11, rf_0_12, rf_0_13, rf_0_14, rf_0_15, rf_0_16, rf_1_0, rf_3_0, rf_3_1, rf_6_0, rf_6_1, rf_9_0, rf_9_1, rf_9_3, rf_13_0, rf_13_1, rf_13_2, rf_16_0, rf_16_1, rf_16_2, rf_16_3, rf_21_0, rf_21_1, rf_21_2, rf_21_3, rf_26_0, rf_26_1, rf_26_2, rf_26_3, rf_26_4, rf_26_5, rf_26_6, rf_31_0, rf_31_2, rf_31_5, rf_31_6, rf_36_0, rf_36_1, rf_36_2, rf_36_3, rf_39_0, rf_39_1, rf_39_2, rf_41_0, rf_41_1, rf_41_2, rf_41_3, rf_5000_1, rf_5000_2, rf_5000_3, rf_5000_4, rf_5000_5, rf_5000_15, rf_5000_16, rf_5000_18, rf_5000_19, rf_5000_20, rf_5000_21, rf_5000_22, rf_5000_23, rf_5000_24, rf_5000_25, rf_5000_26, rf_5000_27, rf_5000_36, rf_5000_37, rf_5000_40, rf_5000_41, rf_5000_42, rf_5000_43, rf_5000_44, rf_5000_45, rf_5000_47, rf_5000_52, rf_5000_54, rf_5000_55, rf_100_0, rf_100_1, rf_103_0, rf_103_1, rf_106_0, rf_106_1, rf_109_0, rf_109_1, al_2, al_4, al_5, al_7, al_8, al_10, al_11, al_12, al_14, al_15, al_17, al_18, al_19, al_20, al_22, al_23, al_24, al_25, al_27, al_28, al_29, al_30, al_32, al_33, al_34, al_35, al_37, al_38, al_40, al_42, al_5001, al_5002, al_5003, al_5004, al_5005, al_5006, al_5007, al_5008, al_5009, al_5010, al_5011, al_5012, al_5013, al_5014, al_5015, al_5016, al_5017, al_5018, al_5019, al_5020, al_5021, al_5022, al_5023, al_5024, al_5025, al_5026, al_9000, al_101, al_102, al_104, al_105, al_107, al_108, al_110, al_111, vcs_e, lg_c0, lg_cs, lg_nil, set_c0, set_cs, okst_0, okst_s, acok_n, acok_c, List.contains_nil, List.contains_cons, Bool.or_false, Bool.false_or, Bool.false_eq_true, if_false, if_true, ite_self, ne_eq, true_and, and_true, not_false_eq_true, not_true_eq_false, false_imp_iff, true_imp_iff, Nat.ble_eq, Bool.and_eq_true, reduceCtorEq, or_false, false_or, or_true, true_or, false_and, and_false, and_self, Int.reduceLE, Int.reduceAdd, Int.reduceSub, Int.reduceMul, Int.reduceNeg, Int.reduceLT, Int.reduceEq, Int.reduceNe, Nat.reduceBEq, Nat.reduceBNe, Nat.reduceEqDiff, amCmp_in, amCmp_lt, amCmp_le, amCmp_gt, amCmp_ge, amCmp_eq, amCmp_ne, Nat.reduceLeDiff, Nat.reduceSub, Bool.and_true, Bool.true_and, Bool.and_self, Bool.or_true, Bool.true_or, isRf_3, isRf_4, isRf_5, isRf_8, isRf_9, isRf_10, isRf_11, isRf_15, isRf_16, isRf_17, isRf_18, isRf_19, isRf_20, isRf_21, isRf_22, isRf_23, isRf_24, isRf_25, isRf_26, isRf_27, isRf_28, k_X12_rests_0, k_X12_rests_1, k_X12_rests_2, k_X12_rests_5, k_X12_rests_6, k_X12_rests_7, k_X12_rests_8, k_X12_rests_9, k_X12_rests_12, k_X12_rests_15, k_X12_rests_17, k_X12_rests_18, k_X12_rests_21, k_X12_rests_22, k_X12_rests_23, k_X12_rests_24, k_X12_rests_27, k_X12_rests_29, k_X12_rests_30, k_X12_rests_32, k_X12_rests_34, k_X12_rests_35, k_X12_rests_37, k_X12_rests_38, k_X12_rests_40, k_X12_rests_41, k_X12_rests_44, k_X12_rests_45, k_X12_rests_48, k_X12_rests_50, k_X12_rests_51, k_X12_rests_52, k_X12_rests_53, k_X12_rests_54, k_X12_rests_56, k_X12_rests_57, k_X12_rests_58, k_X12_rests_60, k_X12_rests_61, k_X12_rests_63, k_X12_rests_64, k_X12_rests_65, k_X12_rests_67, k_X12_rests_68, k_X12_rests_70, k_X12_rests_71, k_X12_rests_72, k_X12_rests_75, k_X12_rests_76, k_X12_rests_79, k_X12_rests_82, k_X12_rests_83, k_X12_rests_85, k_X12_rests_86, k_X12_rests_88, k_X12_rests_90, k_X12_rests_92, k_X12_rests_95, k_X12_rests_96, k_X12_rests_98, k_X12_rests_100, k_X12_rests_102, k_X12_rests_105, k_X12_rests_106, k_X12_rests_108, k_X12_rests_109, k_X12_rests_111, k_X12_rests_113, k_X12_rests_115, k_X12_rests_118, k_X12_rests_120, k_X12_rests_123, k_X12_rests_124, k_X12_rests_127, k_X12_rests_128, k_X12_rests_130, k_X12_rests_132, k_X12_rests_133, k_X12_rests_135, k_X12_rests_136, k_X12_rests_137, k_X12_rests_138, k_X12_rests_139, k_X12_rests_142, k_X12_rests_143, k_X12_rests_145, k_X12_rests_147, k_X12_rests_148, k_X12_rests_150, k_X12_rests_151, k_X12_rests_152, k_X12_rests_153, k_X12_rests_156, k_X12_rests_157, k_X12_rests_160, k_X12_rests_161, k_X12_rests_163, k_X12_rests_165, k_X12_rests_166, k_X12_rests_168, k_X12_rests_169, k_X12_rests_170, k_X12_rests_171, k_X12_rests_172, k_X12_rests_173, k_X12_rests_174, k_X12_rests_177, k_X12_rests_178, k_X12_rests_180, k_X12_rests_182, k_X12_rests_183, k_X12_rests_185, k_X12_rests_186, k_X12_rests_187, k_X12_rests_188, k_X12_rests_189, k_X12_rests_190, k_X12_rests_193, k_X12_rests_194, k_X12_rests_197, k_X12_rests_198, k_X12_rests_200, k_X12_rests_203, k_X12_rests_206, k_X12_rests_208, k_X12_rests_211, k_X12_rests_214, k_X12_rests_216, k_X12_rests_218, k_X12_rests_221, k_X12_rests_223, k_X12_rests_225, k_X12_rests_226, k_X12_rests_228, k_X12_rests_229, k_X12_rests_230, k_X12_rests_233, k_X12_rests_236, k_X12_rests_239, k_X12_rests_242, k_X12_rests_245, k_X12_rests_247, k_X12_rests_248, k_X12_rests_251, k_X12_rests_253, k_X12_rests_256, k_X12_rests_257]
          repeat' (first | apply And.intro | intro _)
          all_goals first | omega | exact absurd trivial (by assumption) | exact hq
        · rw [if_neg ci] at hq
          simp only [↓reduceIte, inR_0, inR_1, inR_m, vSw2_e, swP_n, swP_c, vI_e, vL_e, vNull_e, vIload_e, vLload_e, vAload_e, vIstore_e, vLstore_e, vAstore_e, vIinc_e, vIadd_e, vIsub_e, vImul_e, vIand_e, vIor_e, vIxor_e, vIshl_e, vIshr_e, vIushr_e, vIdiv_e, vIrem_e, vLadd_e, vLsub_e, vLmul_e, vLand_e, vLor_e, vLxor_e, vLdiv_e, vLrem_e, vLushr_e, vLshl_e, vLcmp_e, vIneg_e, vI2l_e, vL2i_e, vI2b_e, vI2c_e, vDup_e, vPop_e, vDup2_e, vGoto_e, vIcEq_e, vIfEq_e, vIcNe_e, vIfNe_e, vIcLt_e, vIfLt_e, vIcGe_e, vIfGe_e, vIcGt_e, vIfGt_e, vIcLe_e, vIfLe_e, vNonnull_e, vSw_e, vGetI_e, vGetL_e, vGetR_e, vPutI_e, vPutZ_e, vPutL_e, vPutR_e, vIald_e, vIald_s, vLald_e, vBald_e, vBald_s, vAald_e, vIast_e, vLast_e, vBast_e, vAast_e, vAlen_e8, vAlen_e9, vAlen_e10, vAlen_e11, vAlen_e5, vAlen_e3, vGets_e, vCompact_e, vLdcS_e, vIret_e, vZret_e, vCret_e, vBret_e, vLret_e, vVret_e, vAret_e, vCallM_e0, vCallMV_e0, vCallS_e0, vCallSV_e0, vCallM_e1, vCallMV_e1, vCallS_e1, vCallSV_e1, vCallM_e2, vCallMV_e2, vCallS_e2, vCallSV_e2, vCallM_e3, vCallMV_e3, vCallS_e3, vCallSV_e3, vCallM_e4, vCallMV_e4, vCallS_e4, vCallSV_e4, vCallM_e5, vCallMV_e5, vCallS_e5, vCallSV_e5, vCallM_e6, vCallMV_e6, vCallS_e6, vCallSV_e6, vCallM_e7, vCallMV_e7, vCallS_e7, vCallSV_e7, vBad_e, vStrVal_e, vStrCod_e, vForm_e, vCallT_e0, vCallT_e1, vCallT_e2, vCopy_e, rf_0_0, rf_0_1, rf_0_2, rf_0_3, rf_0_4, rf_0_7, rf_0_10, rf_0_11, rf_0_12, rf_0_13, rf_0_14, rf_0_15, rf_0_16, rf_1_0, rf_3_0, rf_3_1, rf_6_0, rf_6_1, rf_9_0, rf_9_1, rf_9_3, rf_13_0, rf_13_1, rf_13_2, rf_16_0, rf_16_1, rf_16_2, rf_16_3, rf_21_0, rf_21_1, rf_21_2, rf_21_3, rf_26_0, rf_26_1, rf_26_2, rf_26_3, rf_26_4, rf_26_5, rf_26_6, rf_31_0, rf_31_2, rf_31_5, rf_31_6, rf_36_0, rf_36_1, rf_36_2, rf_36_3, rf_39_0, rf_39_1, rf_39_2, rf_41_0, rf_41_1, rf_41_2, rf_41_3, rf_5000_1, rf_5000_2, rf_5000_3, rf_5000_4, rf_5000_5, rf_5000_15, rf_5000_16, rf_5000_18, rf_5000_19, rf_5000_20, rf_5000_21, rf_5000_22, rf_5000_23, rf_5000_24, rf_5000_25, rf_5000_26, rf_5000_27, rf_5000_36, rf_5000_37, rf_5000_40, rf_5000_41, rf_5000_42, rf_5000_43, rf_5000_44, rf_5000_45, rf_5000_47, rf_5000_52, rf_5000_54, rf_5000_55, rf_100_0, rf_100_1, rf_103_0, rf_103_1, rf_106_0, rf_106_1, rf_109_0, rf_109_1, al_2, al_4, al_5, al_7, al_8, al_10, al_11, al_12, al_14, al_15, al_17, al_18, al_19, al_20, al_22, al_23, al_24, al_25, al_27, al_28, al_29, al_30, al_32, al_33, al_34, al_35, al_37, al_38, al_40, al_42, al_5001, al_5002, al_5003, al_5004, al_5005, al_5006, al_5007, al_5008, al_5009, al_5010, al_5011, al_5012, al_5013, al_5014, al_5015, al_5016, al_5017, al_5018, al_5019, al_5020, al_5021, al_5022, al_5023, al_5024, al_5025, al_5026, al_9000, al_101, al_102, al_104, al_105, al_107, al_108, al_110, al_111, vcs_e, lg_c0, lg_cs, lg_nil, set_c0, set_cs, okst_0, okst_s, acok_n, acok_c, List.contains_nil, List.contains_cons, Bool.or_false, Bool.false_or, Bool.false_eq_true, if_false, if_true, ite_self, ne_eq, true_and, and_true, not_false_eq_true, not_true_eq_false, false_imp_iff, true_imp_iff, Nat.ble_eq, Bool.and_eq_true, reduceCtorEq, or_false, false_or, or_true, true_or, false_and, and_false, and_self, Int.reduceLE, Int.reduceAdd, Int.reduceSub, Int.reduceMul, Int.reduceNeg, Int.reduceLT, Int.reduceEq, Int.reduceNe, Nat.reduceBEq, Nat.reduceBNe, Nat.reduceEqDiff, amCmp_in, amCmp_lt, amCmp_le, amCmp_gt, amCmp_ge, amCmp_eq, amCmp_ne, Nat.reduceLeDiff, Nat.reduceSub, Bool.and_true, Bool.true_and, Bool.and_self, Bool.or_true, Bool.true_or, isRf_3, isRf_4, isRf_5, isRf_8, isRf_9, isRf_10, isRf_11, isRf_15, isRf_16, isRf_17, isRf_18, isRf_19, isRf_20, isRf_21, isRf_22, isRf_23, isRf_24, isRf_25, isRf_26, isRf_27, isRf_28, k_X12_rests_0, k_X12_rests_1, k_X12_rests_2, k_X12_rests_5, k_X12_rests_6, k_X12_rests_7, k_X12_rests_8, k_X12_rests_9, k_X12_rests_12, k_X12_rests_15, k_X12_rests_17, k_X12_rests_18, k_X12_rests_21, k_X12_rests_22, k_X12_rests_23, k_X12_rests_24, k_X12_rests_27, k_X12_rests_29, k_X12_rests_30, k_X12_rests_32, k_X12_rests_34, k_X12_rests_35, k_X12_rests_37, k_X12_rests_38, k_X12_rests_40, k_X12_rests_41, k_X12_rests_44, k_X12_rests_45, k_X12_rests_48, k_X12_rests_50, k_X12_rests_51, k_X12_rests_52, k_X12_rests_53, k_X12_rests_54, k_X12_rests_56, k_X12_rests_57, k_X12_rests_58, k_X12_rests_60, k_X12_rests_61, k_X12_rests_63, k_X12_rests_64, k_X12_rests_65, k_X12_rests_67, k_X12_rests_68, k_X12_rests_70, k_X12_rests_71, k_X12_rests_72, k_X12_rests_75, k_X12_rests_76, k_X12_rests_79, k_X12_rests_82, k_X12_rests_83, k_X12_rests_85, k_X12_rests_86, k_X12_rests_88, k_X12_rests_90, k_X12_rests_92, k_X12_rests_95, k_X12_rests_96, k_X12_rests_98, k_X12_rests_100, k_X12_rests_102, k_X12_rests_105, k_X12_rests_106, k_X12_rests_108, k_X12_rests_109, k_X12_rests_111, k_X12_rests_113, k_X12_rests_115, k_X12_rests_118, k_X12_rests_120, k_X12_rests_123, k_X12_rests_124, k_X12_rests_127, k_X12_rests_128, k_X12_rests_130, k_X12_rests_132, k_X12_rests_133, k_X12_rests_135, k_X12_rests_136, k_X12_rests_137, k_X12_rests_138, k_X12_rests_139, k_X12_rests_142, k_X12_rests_143, k_X12_rests_145, k_X12_rests_147, k_X12_rests_148, k_X12_rests_150, k_X12_rests_151, k_X12_rests_152, k_X12_rests_153, k_X12_rests_156, k_X12_rests_157, k_X12_rests_160, k_X12_rests_161, k_X12_rests_163, k_X12_rests_165, k_X12_rests_166, k_X12_rests_168, k_X12_rests_169, k_X12_rests_170, k_X12_rests_171, k_X12_rests_172, k_X12_rests_173, k_X12_rests_174, k_X12_rests_177, k_X12_rests_178, k_X12_rests_180, k_X12_rests_182, k_X12_rests_183, k_X12_rests_185, k_X12_rests_186, k_X12_rests_187, k_X12_rests_188, k_X12_rests_189, k_X12_rests_190, k_X12_rests_193, k_X12_rests_194, k_X12_rests_197, k_X12_rests_198, k_X12_rests_200, k_X12_rests_203, k_X12_rests_206, k_X12_rests_208, k_X12_rests_211, k_X12_rests_214, k_X12_rests_216, k_X12_rests_218, k_X12_rests_221, k_X12_rests_223, k_X12_rests_225, k_X12_rests_226, k_X12_rests_228, k_X12_rests_229, k_X12_rests_230, k_X12_rests_233, k_X12_rests_236, k_X12_rests_239, k_X12_rests_242, k_X12_rests_245, k_X12_rests_247, k_X12_rests_248, k_X12_rests_251, k_X12_rests_253, k_X12_rests_256, k_X12_rests_257]
          repeat' (first | apply And.intro | intro _)
          all_goals first | omega | exact absurd trivial (by assumption) | exact hq
    · refine ⟨60, ?_⟩
      by_cases hlt : y < S
      · have i9 : ∃ k', k' < n ∧ inv_mrs σ G0 G1 o r p i S k' 111 [(28, 5000), (0, o), (0, r), (0, p), (0, i), (0, S), (0, c), (0, x), (0, y), (0, 1), (0, 0)] [] σ' :=
          ⟨n - 1, by omega, rfl, hg, hi1, hQ, hm, Or.inr ⟨hgn, c, x, c0, x0, Or.inr (Or.inr ⟨y, 1, 0, rfl, hxS, y0, hlt, hcy, by decide, n30.1, by omega, rfl, Or.inl ⟨rfl, fun j j0 j1 => by omega⟩, hr9⟩)⟩⟩
        simp only [↓reduceIte, inR_0, inR_1, inR_m, vSw2_e, swP_n, swP_c, vI_e, vL_e, vNull_e, vIload_e, vLload_e, vAload_e, vIstore_e, vLstore_e, vAstore_e, vIinc_e, vIadd_e, vIsub_e, vImul_e, vIand_e, vIor_e, vIxor_e, vIshl_e, vIshr_e, vIushr_e, vIdiv_e, vIrem_e, vLadd_e, vLsub_e, vLmul_e, vLand_e, vLor_e, vLxor_e, vLdiv_e, vLrem_e, vLushr_e, vLshl_e, vLcmp_e, vIneg_e, vI2l_e, vL2i_e, vI2b_e, vI2c_e, vDup_e, vPop_e, vDup2_e, vGoto_e, vIcEq_e, vIfEq_e, vIcNe_e, vIfNe_e, vIcLt_e, vIfLt_e, vIcGe_e, vIfGe_e, vIcGt_e, vIfGt_e, vIcLe_e, vIfLe_e, vNonnull_e, vSw_e, vGetI_e, vGetL_e, vGetR_e, vPutI_e, vPutZ_e, vPutL_e, vPutR_e, vIald_e, vIald_s, vLald_e, vBald_e, vBald_s, vAald_e, vIast_e, vLast_e, vBast_e, vAast_e, vAlen_e8, vAlen_e9, vAlen_e10, vAlen_e11, vAlen_e5, vAlen_e3, vGets_e, vCompact_e, vLdcS_e, vIret_e, vZret_e, vCret_e, vBret_e, vLret_e, vVret_e, vAret_e, vCallM_e0, vCallMV_e0, vCallS_e0, vCallSV_e0, vCallM_e1, vCallMV_e1, vCallS_e1, vCallSV_e1, vCallM_e2, vCallMV_e2, vCallS_e2, vCallSV_e2, vCallM_e3, vCallMV_e3, vCallS_e3, vCallSV_e3, vCallM_e4, vCallMV_e4, vCallS_e4, vCallSV_e4, vCallM_e5, vCallMV_e5, vCallS_e5, vCallSV_e5, vCallM_e6, vCallMV_e6, vCallS_e6, vCallSV_e6, vCallM_e7, vCallMV_e7, vCallS_e7, vCallSV_e7, vBad_e, vStrVal_e, vStrCod_e, vForm_e, vCallT_e0, vCallT_e1, vCallT_e2, vCopy_e, rf_0_0, rf_0_1, rf_0_2, rf_0_3, rf_0_4, rf_0_7, rf_0_10, rf_0_11, rf_0_12, rf_0_13, rf_0_14, rf_0_15, rf_0_16, rf_1_0, rf_3_0, rf_3_1, rf_6_0, rf_6_1, rf_9_0, rf_9_1, rf_9_3, rf_13_0, rf_13_1, rf_13_2, rf_16_0, rf_16_1, rf_16_2, rf_16_3, rf_21_0, rf_21_1, rf_21_2, rf_21_3, rf_26_0, rf_26_1, rf_26_2, rf_26_3, rf_26_4, rf_26_5, rf_26_6, rf_31_0, rf_31_2, rf_31_5, rf_31_6, rf_36_0, rf_36_1, rf_36_2, rf_36_3, rf_39_0, rf_39_1, rf_39_2, rf_41_0, rf_41_1, rf_41_2, rf_41_3, rf_5000_1, rf_5000_2, rf_5000_3, rf_5000_4, rf_5000_5, rf_5000_15, rf_5000_16, rf_5000_18, rf_5000_19, rf_5000_20, rf_5000_21, rf_5000_22, rf_5000_23, rf_5000_24, rf_5000_25, rf_5000_26, rf_5000_27, rf_5000_36, rf_5000_37, rf_5000_40, rf_5000_41, rf_5000_42, rf_5000_43, rf_5000_44, rf_5000_45, rf_5000_47, rf_5000_52, rf_5000_54, rf_5000_55, rf_100_0, rf_100_1, rf_103_0, rf_103_1, rf_106_0, rf_106_1, rf_109_0, rf_109_1, al_2, al_4, al_5, al_7, al_8, al_10, al_11, al_12, al_14, al_15, al_17, al_18, al_19, al_20, al_22, al_23, al_24, al_25, al_27, al_28, al_29, al_30, al_32, al_33, al_34, al_35, al_37, al_38, al_40, al_42, al_5001, al_5002, al_5003, al_5004, al_5005, al_5006, al_5007, al_5008, al_5009, al_5010, al_5011, al_5012, al_5013, al_5014, al_5015, al_5016, al_5017, al_5018, al_5019, al_5020, al_5021, al_5022, al_5023, al_5024, al_5025, al_5026, al_9000, al_101, al_102, al_104, al_105, al_107, al_108, al_110, al_111, vcs_e, lg_c0, lg_cs, lg_nil, set_c0, set_cs, okst_0, okst_s, acok_n, acok_c, List.contains_nil, List.contains_cons, Bool.or_false, Bool.false_or, Bool.false_eq_true, if_false, if_true, ite_self, ne_eq, true_and, and_true, not_false_eq_true, not_true_eq_false, false_imp_iff, true_imp_iff, Nat.ble_eq, Bool.and_eq_true, reduceCtorEq, or_false, false_or, or_true, true_or, false_and, and_false, and_self, Int.reduceLE, Int.reduceAdd, Int.reduceSub, Int.reduceMul, Int.reduceNeg, Int.reduceLT, Int.reduceEq, Int.reduceNe, Nat.reduceBEq, Nat.reduceBNe, Nat.reduceEqDiff, amCmp_in, amCmp_lt, amCmp_le, amCmp_gt, amCmp_ge, amCmp_eq, amCmp_ne, Nat.reduceLeDiff, Nat.reduceSub, Bool.and_true, Bool.true_and, Bool.and_self, Bool.or_true, Bool.true_or, isRf_3, isRf_4, isRf_5, isRf_8, isRf_9, isRf_10, isRf_11, isRf_15, isRf_16, isRf_17, isRf_18, isRf_19, isRf_20, isRf_21, isRf_22, isRf_23, isRf_24, isRf_25, isRf_26, isRf_27, isRf_28, k_X12_rests_0, k_X12_rests_1, k_X12_rests_2, k_X12_rests_5, k_X12_rests_6, k_X12_rests_7, k_X12_rests_8, k_X12_rests_9, k_X12_rests_12, k_X12_rests_15, k_X12_rests_17, k_X12_rests_18, k_X12_rests_21, k_X12_rests_22, k_X12_rests_23, k_X12_rests_24, k_X12_rests_27, k_X12_rests_29, k_X12_rests_30, k_X12_rests_32, k_X12_rests_34, k_X12_rests_35, k_X12_rests_37, k_X12_rests_38, k_X12_rests_40, k_X12_rests_41, k_X12_rests_44, k_X12_rests_45, k_X12_rests_48, k_X12_rests_50, k_X12_rests_51, k_X12_rests_52, k_X12_rests_53, k_X12_rests_54, k_X12_rests_56, k_X12_rests_57, k_X12_rests_58, k_X12_rests_60, k_X12_rests_61, k_X12_rests_63, k_X12_rests_64, k_X12_rests_65, k_X12_rests_67, k_X12_rests_68, k_X12_rests_70, k_X12_rests_71, k_X12_rests_72, k_X12_rests_75, k_X12_rests_76, k_X12_rests_79, k_X12_rests_82, k_X12_rests_83, k_X12_rests_85, k_X12_rests_86, k_X12_rests_88, k_X12_rests_90, k_X12_rests_92, k_X12_rests_95, k_X12_rests_96, k_X12_rests_98, k_X12_rests_100, k_X12_rests_102, k_X12_rests_105, k_X12_rests_106, k_X12_rests_108, k_X12_rests_109, k_X12_rests_111, k_X12_rests_113, k_X12_rests_115, k_X12_rests_118, k_X12_rests_120, k_X12_rests_123, k_X12_rests_124, k_X12_rests_127, k_X12_rests_128, k_X12_rests_130, k_X12_rests_132, k_X12_rests_133, k_X12_rests_135, k_X12_rests_136, k_X12_rests_137, k_X12_rests_138, k_X12_rests_139, k_X12_rests_142, k_X12_rests_143, k_X12_rests_145, k_X12_rests_147, k_X12_rests_148, k_X12_rests_150, k_X12_rests_151, k_X12_rests_152, k_X12_rests_153, k_X12_rests_156, k_X12_rests_157, k_X12_rests_160, k_X12_rests_161, k_X12_rests_163, k_X12_rests_165, k_X12_rests_166, k_X12_rests_168, k_X12_rests_169, k_X12_rests_170, k_X12_rests_171, k_X12_rests_172, k_X12_rests_173, k_X12_rests_174, k_X12_rests_177, k_X12_rests_178, k_X12_rests_180, k_X12_rests_182, k_X12_rests_183, k_X12_rests_185, k_X12_rests_186, k_X12_rests_187, k_X12_rests_188, k_X12_rests_189, k_X12_rests_190, k_X12_rests_193, k_X12_rests_194, k_X12_rests_197, k_X12_rests_198, k_X12_rests_200, k_X12_rests_203, k_X12_rests_206, k_X12_rests_208, k_X12_rests_211, k_X12_rests_214, k_X12_rests_216, k_X12_rests_218, k_X12_rests_221, k_X12_rests_223, k_X12_rests_225, k_X12_rests_226, k_X12_rests_228, k_X12_rests_229, k_X12_rests_230, k_X12_rests_233, k_X12_rests_236, k_X12_rests_239, k_X12_rests_242, k_X12_rests_245, k_X12_rests_247, k_X12_rests_248, k_X12_rests_251, k_X12_rests_253, k_X12_rests_256, k_X12_rests_257]
        repeat' (first | apply And.intro | intro _)
        all_goals first | omega | exact absurd trivial (by assumption) | exact i9
      · rw [show (S - y).toNat = 0 by omega, rsI] at hr9
        have i9 : ∃ k', k' < n ∧ inv_mrs σ G0 G1 o r p i S k' 88 [(28, 5000), (0, o), (0, r), (0, p), (0, i), (0, S), (0, c), (0, x + 1), (0, y), v9, v10] [] σ' :=
          ⟨((S - (x + 1)) * 10000).toNat, by omega, rfl, hg, hi1, hQ, hm, Or.inr ⟨hgn, c, x + 1, c0, by omega, Or.inl ⟨_, v9, v10, rfl, by omega, by omega, by omega, rfl, by decide, h9, by rw [show S - (x + 1) = S - x - 1 by omega]; exact hr9⟩⟩⟩
        simp only [↓reduceIte, inR_0, inR_1, inR_m, vSw2_e, swP_n, swP_c, vI_e, vL_e, vNull_e, vIload_e, vLload_e, vAload_e, vIstore_e, vLstore_e, vAstore_e, vIinc_e, vIadd_e, vIsub_e, vImul_e, vIand_e, vIor_e, vIxor_e, vIshl_e, vIshr_e, vIushr_e, vIdiv_e, vIrem_e, vLadd_e, vLsub_e, vLmul_e, vLand_e, vLor_e, vLxor_e, vLdiv_e, vLrem_e, vLushr_e, vLshl_e, vLcmp_e, vIneg_e, vI2l_e, vL2i_e, vI2b_e, vI2c_e, vDup_e, vPop_e, vDup2_e, vGoto_e, vIcEq_e, vIfEq_e, vIcNe_e, vIfNe_e, vIcLt_e, vIfLt_e, vIcGe_e, vIfGe_e, vIcGt_e, vIfGt_e, vIcLe_e, vIfLe_e, vNonnull_e, vSw_e, vGetI_e, vGetL_e, vGetR_e, vPutI_e, vPutZ_e, vPutL_e, vPutR_e, vIald_e, vIald_s, vLald_e, vBald_e, vBald_s, vAald_e, vIast_e, vLast_e, vBast_e, vAast_e, vAlen_e8, vAlen_e9, vAlen_e10, vAlen_e11, vAlen_e5, vAlen_e3, vGets_e, vCompact_e, vLdcS_e, vIret_e, vZret_e, vCret_e, vBret_e, vLret_e, vVret_e, vAret_e, vCallM_e0, vCallMV_e0, vCallS_e0, vCallSV_e0, vCallM_e1, vCallMV_e1, vCallS_e1, vCallSV_e1, vCallM_e2, vCallMV_e2, vCallS_e2, vCallSV_e2, vCallM_e3, vCallMV_e3, vCallS_e3, vCallSV_e3, vCallM_e4, vCallMV_e4, vCallS_e4, vCallSV_e4, vCallM_e5, vCallMV_e5, vCallS_e5, vCallSV_e5, vCallM_e6, vCallMV_e6, vCallS_e6, vCallSV_e6, vCallM_e7, vCallMV_e7, vCallS_e7, vCallSV_e7, vBad_e, vStrVal_e, vStrCod_e, vForm_e, vCallT_e0, vCallT_e1, vCallT_e2, vCopy_e, rf_0_0, rf_0_1, rf_0_2, rf_0_3, rf_0_4, rf_0_7, rf_0_10, rf_0_11, rf_0_12, rf_0_13, rf_0_14, rf_0_15, rf_0_16, rf_1_0, rf_3_0, rf_3_1, rf_6_0, rf_6_1, rf_9_0, rf_9_1, rf_9_3, rf_13_0, rf_13_1, rf_13_2, rf_16_0, rf_16_1, rf_16_2, rf_16_3, rf_21_0, rf_21_1, rf_21_2, rf_21_3, rf_26_0, rf_26_1, rf_26_2, rf_26_3, rf_26_4, rf_26_5, rf_26_6, rf_31_0, rf_31_2, rf_31_5, rf_31_6, rf_36_0, rf_36_1, rf_36_2, rf_36_3, rf_39_0, rf_39_1, rf_39_2, rf_41_0, rf_41_1, rf_41_2, rf_41_3, rf_5000_1, rf_5000_2, rf_5000_3, rf_5000_4, rf_5000_5, rf_5000_15, rf_5000_16, rf_5000_18, rf_5000_19, rf_5000_20, rf_5000_21, rf_5000_22, rf_5000_23, rf_5000_24, rf_5000_25, rf_5000_26, rf_5000_27, rf_5000_36, rf_5000_37, rf_5000_40, rf_5000_41, rf_5000_42, rf_5000_43, rf_5000_44, rf_5000_45, rf_5000_47, rf_5000_52, rf_5000_54, rf_5000_55, rf_100_0, rf_100_1, rf_103_0, rf_103_1, rf_106_0, rf_106_1, rf_109_0, rf_109_1, al_2, al_4, al_5, al_7, al_8, al_10, al_11, al_12, al_14, al_15, al_17, al_18, al_19, al_20, al_22, al_23, al_24, al_25, al_27, al_28, al_29, al_30, al_32, al_33, al_34, al_35, al_37, al_38, al_40, al_42, al_5001, al_5002, al_5003, al_5004, al_5005, al_5006, al_5007, al_5008, al_5009, al_5010, al_5011, al_5012, al_5013, al_5014, al_5015, al_5016, al_5017, al_5018, al_5019, al_5020, al_5021, al_5022, al_5023, al_5024, al_5025, al_5026, al_9000, al_101, al_102, al_104, al_105, al_107, al_108, al_110, al_111, vcs_e, lg_c0, lg_cs, lg_nil, set_c0, set_cs, okst_0, okst_s, acok_n, acok_c, List.contains_nil, List.contains_cons, Bool.or_false, Bool.false_or, Bool.false_eq_true, if_false, if_true, ite_self, ne_eq, true_and, and_true, not_false_eq_true, not_true_eq_false, false_imp_iff, true_imp_iff, Nat.ble_eq, Bool.and_eq_true, reduceCtorEq, or_false, false_or, or_true, true_or, false_and, and_false, and_self, Int.reduceLE, Int.reduceAdd, Int.reduceSub, Int.reduceMul, Int.reduceNeg, Int.reduceLT, Int.reduceEq, Int.reduceNe, Nat.reduceBEq, Nat.reduceBNe, Nat.reduceEqDiff, amCmp_in, amCmp_lt, amCmp_le, amCmp_gt, amCmp_ge, amCmp_eq, amCmp_ne, Nat.reduceLeDiff, Nat.reduceSub, Bool.and_true, Bool.true_and, Bool.and_self, Bool.or_true, Bool.true_or, isRf_3, isRf_4, isRf_5, isRf_8, isRf_9, isRf_10, isRf_11, isRf_15, isRf_16, isRf_17, isRf_18, isRf_19, isRf_20, isRf_21, isRf_22, isRf_23, isRf_24, isRf_25, isRf_26, isRf_27, isRf_28, k_X12_rests_0, k_X12_rests_1, k_X12_rests_2, k_X12_rests_5, k_X12_rests_6, k_X12_rests_7, k_X12_rests_8, k_X12_rests_9, k_X12_rests_12, k_X12_rests_15, k_X12_rests_17, k_X12_rests_18, k_X12_rests_21, k_X12_rests_22, k_X12_rests_23, k_X12_rests_24, k_X12_rests_27, k_X12_rests_29, k_X12_rests_30, k_X12_rests_32, k_X12_rests_34, k_X12_rests_35, k_X12_rests_37, k_X12_rests_38, k_X12_rests_40, k_X12_rests_41, k_X12_rests_44, k_X12_rests_45, k_X12_rests_48, k_X12_rests_50, k_X12_rests_51, k_X12_rests_52, k_X12_rests_53, k_X12_rests_54, k_X12_rests_56, k_X12_rests_57, k_X12_rests_58, k_X12_rests_60, k_X12_rests_61, k_X12_rests_63, k_X12_rests_64, k_X12_rests_65, k_X12_rests_67, k_X12_rests_68, k_X12_rests_70, k_X12_rests_71, k_X12_rests_72, k_X12_rests_75, k_X12_rests_76, k_X12_rests_79, k_X12_rests_82, k_X12_rests_83, k_X12_rests_85, k_X12_rests_86, k_X12_rests_88, k_X12_rests_90, k_X12_rests_92, k_X12_rests_95, k_X12_rests_96, k_X12_rests_98, k_X12_rests_100, k_X12_rests_102, k_X12_rests_105, k_X12_rests_106, k_X12_rests_108, k_X12_rests_109, k_X12_rests_111, k_X12_rests_113, k_X12_rests_115, k_X12_rests_118, k_X12_rests_120, k_X12_rests_123, k_X12_rests_124, k_X12_rests_127, k_X12_rests_128, k_X12_rests_130, k_X12_rests_132, k_X12_rests_133, k_X12_rests_135, k_X12_rests_136, k_X12_rests_137, k_X12_rests_138, k_X12_rests_139, k_X12_rests_142, k_X12_rests_143, k_X12_rests_145, k_X12_rests_147, k_X12_rests_148, k_X12_rests_150, k_X12_rests_151, k_X12_rests_152, k_X12_rests_153, k_X12_rests_156, k_X12_rests_157, k_X12_rests_160, k_X12_rests_161, k_X12_rests_163, k_X12_rests_165, k_X12_rests_166, k_X12_rests_168, k_X12_rests_169, k_X12_rests_170, k_X12_rests_171, k_X12_rests_172, k_X12_rests_173, k_X12_rests_174, k_X12_rests_177, k_X12_rests_178, k_X12_rests_180, k_X12_rests_182, k_X12_rests_183, k_X12_rests_185, k_X12_rests_186, k_X12_rests_187, k_X12_rests_188, k_X12_rests_189, k_X12_rests_190, k_X12_rests_193, k_X12_rests_194, k_X12_rests_197, k_X12_rests_198, k_X12_rests_200, k_X12_rests_203, k_X12_rests_206, k_X12_rests_208, k_X12_rests_211, k_X12_rests_214, k_X12_rests_216, k_X12_rests_218, k_X12_rests_221, k_X12_rests_223, k_X12_rests_225, k_X12_rests_226, k_X12_rests_228, k_X12_rests_229, k_X12_rests_230, k_X12_rests_233, k_X12_rests_236, k_X12_rests_239, k_X12_rests_242, k_X12_rests_245, k_X12_rests_247, k_X12_rests_248, k_X12_rests_251, k_X12_rests_253, k_X12_rests_256, k_X12_rests_257]
        repeat' (first | apply And.intro | intro _)
        all_goals first | omega | exact absurd trivial (by assumption) | exact i9
    · refine ⟨90, ?_⟩
      by_cases hlt : k < S
      · have nx : ∀ b', ((b' = 1 ∧ ∀ j, 0 ≤ j → j < k + 1 → G0 j y ≤ G0 x y ∧ G1 x j ≤ G1 x y) ∨ (b' = 0 ∧ ¬ mrP G0 G1 S x y)) → ∃ k', k' < n ∧ inv_mrs σ G0 G1 o r p i S k' 111 [(28, 5000), (0, o), (0, r), (0, p), (0, i), (0, S), (0, c), (0, x), (0, y), (0, b'), (0, k + 1)] [] σ' := fun b' hb' =>
          ⟨n - 1, by omega, rfl, hg, hi1, hQ, hm, Or.inr ⟨hgn, c, x, c0, x0, Or.inr (Or.inr ⟨y, b', k + 1, rfl, hxS, y0, yS, hcy, by omega, by omega, by omega, rfl, hb', hr9⟩)⟩⟩
        rcases hb with ⟨rfl, hal⟩ | ⟨rfl, hno⟩
        · obtain ⟨-, -, q1, q2, q3, q4⟩ := gix (n := S) (by omega) k0 hlt y0 yS
          obtain ⟨-, -, q5, q6, q7, q8⟩ := gix (n := S) (by omega) x0 hxS y0 yS
          obtain ⟨-, -, q9, q10, q11, q12⟩ := gix (n := S) (by omega) x0 hxS k0 hlt
          have r1 := hgn k y k0 hlt y0 yS
          have r2 := hgn x y x0 hxS y0 yS
          have r3 := hgn x k x0 hxS k0 hlt
          have m1 := gb0 hg k y
          have m2 := gb0 hg x y
          have m3 := gb1 hg x k
          have m4 := gb1 hg x y
          have iT : G0 k y ≤ G0 x y → G1 x k ≤ G1 x y → _ := fun a b => nx 1 (Or.inl ⟨rfl, fun j j0 j1 => by
            by_cases z : j = k
            · rw [z]; exact ⟨a, b⟩
            · exact hal j j0 (by omega)⟩)
          have iF : ¬ (G0 k y ≤ G0 x y ∧ G1 x k ≤ G1 x y) → _ := fun a => nx 0 (Or.inr ⟨rfl, fun z => a (z k k0 hlt)⟩)
          simp only [↓reduceIte, inR_0, inR_1, inR_m, vSw2_e, swP_n, swP_c, vI_e, vL_e, vNull_e, vIload_e, vLload_e, vAload_e, vIstore_e, vLstore_e, vAstore_e, vIinc_e, vIadd_e, vIsub_e, vImul_e, vIand_e, vIor_e, vIxor_e, vIshl_e, vIshr_e, vIushr_e, vIdiv_e, vIrem_e, vLadd_e, vLsub_e, vLmul_e, vLand_e, vLor_e, vLxor_e, vLdiv_e, vLrem_e, vLushr_e, vLshl_e, vLcmp_e, vIneg_e, vI2l_e, vL2i_e, vI2b_e, vI2c_e, vDup_e, vPop_e, vDup2_e, vGoto_e, vIcEq_e, vIfEq_e, vIcNe_e, vIfNe_e, vIcLt_e, vIfLt_e, vIcGe_e, vIfGe_e, vIcGt_e, vIfGt_e, vIcLe_e, vIfLe_e, vNonnull_e, vSw_e, vGetI_e, vGetL_e, vGetR_e, vPutI_e, vPutZ_e, vPutL_e, vPutR_e, vIald_e, vIald_s, vLald_e, vBald_e, vBald_s, vAald_e, vIast_e, vLast_e, vBast_e, vAast_e, vAlen_e8, vAlen_e9, vAlen_e10, vAlen_e11, vAlen_e5, vAlen_e3, vGets_e, vCompact_e, vLdcS_e, vIret_e, vZret_e, vCret_e, vBret_e, vLret_e, vVret_e, vAret_e, vCallM_e0, vCallMV_e0, vCallS_e0, vCallSV_e0, vCallM_e1, vCallMV_e1, vCallS_e1, vCallSV_e1, vCallM_e2, vCallMV_e2, vCallS_e2, vCallSV_e2, vCallM_e3, vCallMV_e3, vCallS_e3, vCallSV_e3, vCallM_e4, vCallMV_e4, vCallS_e4, vCallSV_e4, vCallM_e5, vCallMV_e5, vCallS_e5, vCallSV_e5, vCallM_e6, vCallMV_e6, vCallS_e6, vCallSV_e6, vCallM_e7, vCallMV_e7, vCallS_e7, vCallSV_e7, vBad_e, vStrVal_e, vStrCod_e, vForm_e, vCallT_e0, vCallT_e1, vCallT_e2, vCopy_e, rf_0_0, rf_0_1, rf_0_2, rf_0_3, rf_0_4, rf_0_7, rf_0_10, rf_0_11, rf_0_12, rf_0_13, rf_0_14, rf_0_15, rf_0_16, rf_1_0, rf_3_0, rf_3_1, rf_6_0, rf_6_1, rf_9_0, rf_9_1, rf_9_3, rf_13_0, rf_13_1, rf_13_2, rf_16_0, rf_16_1, rf_16_2, rf_16_3, rf_21_0, rf_21_1, rf_21_2, rf_21_3, rf_26_0, rf_26_1, rf_26_2, rf_26_3, rf_26_4, rf_26_5, rf_26_6, rf_31_0, rf_31_2, rf_31_5, rf_31_6, rf_36_0, rf_36_1, rf_36_2, rf_36_3, rf_39_0, rf_39_1, rf_39_2, rf_41_0, rf_41_1, rf_41_2, rf_41_3, rf_5000_1, rf_5000_2, rf_5000_3, rf_5000_4, rf_5000_5, rf_5000_15, rf_5000_16, rf_5000_18, rf_5000_19, rf_5000_20, rf_5000_21, rf_5000_22, rf_5000_23, rf_5000_24, rf_5000_25, rf_5000_26, rf_5000_27, rf_5000_36, rf_5000_37, rf_5000_40, rf_5000_41, rf_5000_42, rf_5000_43, rf_5000_44, rf_5000_45, rf_5000_47, rf_5000_52, rf_5000_54, rf_5000_55, rf_100_0, rf_100_1, rf_103_0, rf_103_1, rf_106_0, rf_106_1, rf_109_0, rf_109_1, al_2, al_4, al_5, al_7, al_8, al_10, al_11, al_12, al_14, al_15, al_17, al_18, al_19, al_20, al_22, al_23, al_24, al_25, al_27, al_28, al_29, al_30, al_32, al_33, al_34, al_35, al_37, al_38, al_40, al_42, al_5001, al_5002, al_5003, al_5004, al_5005, al_5006, al_5007, al_5008, al_5009, al_5010, al_5011, al_5012, al_5013, al_5014, al_5015, al_5016, al_5017, al_5018, al_5019, al_5020, al_5021, al_5022, al_5023, al_5024, al_5025, al_5026, al_9000, al_101, al_102, al_104, al_105, al_107, al_108, al_110, al_111, vcs_e, lg_c0, lg_cs, lg_nil, set_c0, set_cs, okst_0, okst_s, acok_n, acok_c, List.contains_nil, List.contains_cons, Bool.or_false, Bool.false_or, Bool.false_eq_true, if_false, if_true, ite_self, ne_eq, true_and, and_true, not_false_eq_true, not_true_eq_false, false_imp_iff, true_imp_iff, Nat.ble_eq, Bool.and_eq_true, reduceCtorEq, or_false, false_or, or_true, true_or, false_and, and_false, and_self, Int.reduceLE, Int.reduceAdd, Int.reduceSub, Int.reduceMul, Int.reduceNeg, Int.reduceLT, Int.reduceEq, Int.reduceNe, Nat.reduceBEq, Nat.reduceBNe, Nat.reduceEqDiff, amCmp_in, amCmp_lt, amCmp_le, amCmp_gt, amCmp_ge, amCmp_eq, amCmp_ne, Nat.reduceLeDiff, Nat.reduceSub, Bool.and_true, Bool.true_and, Bool.and_self, Bool.or_true, Bool.true_or, isRf_3, isRf_4, isRf_5, isRf_8, isRf_9, isRf_10, isRf_11, isRf_15, isRf_16, isRf_17, isRf_18, isRf_19, isRf_20, isRf_21, isRf_22, isRf_23, isRf_24, isRf_25, isRf_26, isRf_27, isRf_28, k_X12_rests_0, k_X12_rests_1, k_X12_rests_2, k_X12_rests_5, k_X12_rests_6, k_X12_rests_7, k_X12_rests_8, k_X12_rests_9, k_X12_rests_12, k_X12_rests_15, k_X12_rests_17, k_X12_rests_18, k_X12_rests_21, k_X12_rests_22, k_X12_rests_23, k_X12_rests_24, k_X12_rests_27, k_X12_rests_29, k_X12_rests_30, k_X12_rests_32, k_X12_rests_34, k_X12_rests_35, k_X12_rests_37, k_X12_rests_38, k_X12_rests_40, k_X12_rests_41, k_X12_rests_44, k_X12_rests_45, k_X12_rests_48, k_X12_rests_50, k_X12_rests_51, k_X12_rests_52, k_X12_rests_53, k_X12_rests_54, k_X12_rests_56, k_X12_rests_57, k_X12_rests_58, k_X12_rests_60, k_X12_rests_61, k_X12_rests_63, k_X12_rests_64, k_X12_rests_65, k_X12_rests_67, k_X12_rests_68, k_X12_rests_70, k_X12_rests_71, k_X12_rests_72, k_X12_rests_75, k_X12_rests_76, k_X12_rests_79, k_X12_rests_82, k_X12_rests_83, k_X12_rests_85, k_X12_rests_86, k_X12_rests_88, k_X12_rests_90, k_X12_rests_92, k_X12_rests_95, k_X12_rests_96, k_X12_rests_98, k_X12_rests_100, k_X12_rests_102, k_X12_rests_105, k_X12_rests_106, k_X12_rests_108, k_X12_rests_109, k_X12_rests_111, k_X12_rests_113, k_X12_rests_115, k_X12_rests_118, k_X12_rests_120, k_X12_rests_123, k_X12_rests_124, k_X12_rests_127, k_X12_rests_128, k_X12_rests_130, k_X12_rests_132, k_X12_rests_133, k_X12_rests_135, k_X12_rests_136, k_X12_rests_137, k_X12_rests_138, k_X12_rests_139, k_X12_rests_142, k_X12_rests_143, k_X12_rests_145, k_X12_rests_147, k_X12_rests_148, k_X12_rests_150, k_X12_rests_151, k_X12_rests_152, k_X12_rests_153, k_X12_rests_156, k_X12_rests_157, k_X12_rests_160, k_X12_rests_161, k_X12_rests_163, k_X12_rests_165, k_X12_rests_166, k_X12_rests_168, k_X12_rests_169, k_X12_rests_170, k_X12_rests_171, k_X12_rests_172, k_X12_rests_173, k_X12_rests_174, k_X12_rests_177, k_X12_rests_178, k_X12_rests_180, k_X12_rests_182, k_X12_rests_183, k_X12_rests_185, k_X12_rests_186, k_X12_rests_187, k_X12_rests_188, k_X12_rests_189, k_X12_rests_190, k_X12_rests_193, k_X12_rests_194, k_X12_rests_197, k_X12_rests_198, k_X12_rests_200, k_X12_rests_203, k_X12_rests_206, k_X12_rests_208, k_X12_rests_211, k_X12_rests_214, k_X12_rests_216, k_X12_rests_218, k_X12_rests_221, k_X12_rests_223, k_X12_rests_225, k_X12_rests_226, k_X12_rests_228, k_X12_rests_229, k_X12_rests_230, k_X12_rests_233, k_X12_rests_236, k_X12_rests_239, k_X12_rests_242, k_X12_rests_245, k_X12_rests_247, k_X12_rests_248, k_X12_rests_251, k_X12_rests_253, k_X12_rests_256, k_X12_rests_257, r1.1, r2.1, r2.2, r3.2]
          repeat' (first | apply And.intro | intro _)
          all_goals first | omega | exact absurd trivial (by assumption) | exact iT (by omega) (by omega) | exact iF (by omega) | exact ⟨by omega, by omega⟩
        · have i9 := nx 0 (Or.inr ⟨rfl, hno⟩)
          simp only [↓reduceIte, inR_0, inR_1, inR_m, vSw2_e, swP_n, swP_c, vI_e, vL_e, vNull_e, vIload_e, vLload_e, vAload_e, vIstore_e, vLstore_e, vAstore_e, vIinc_e, vIadd_e, vIsub_e, vImul_e, vIand_e, vIor_e, vIxor_e, vIshl_e, vIshr_e, vIushr_e, vIdiv_e, vIrem_e, vLadd_e, vLsub_e, vLmul_e, vLand_e, vLor_e, vLxor_e, vLdiv_e, vLrem_e, vLushr_e, vLshl_e, vLcmp_e, vIneg_e, vI2l_e, vL2i_e, vI2b_e, vI2c_e, vDup_e, vPop_e, vDup2_e, vGoto_e, vIcEq_e, vIfEq_e, vIcNe_e, vIfNe_e, vIcLt_e, vIfLt_e, vIcGe_e, vIfGe_e, vIcGt_e, vIfGt_e, vIcLe_e, vIfLe_e, vNonnull_e, vSw_e, vGetI_e, vGetL_e, vGetR_e, vPutI_e, vPutZ_e, vPutL_e, vPutR_e, vIald_e, vIald_s, vLald_e, vBald_e, vBald_s, vAald_e, vIast_e, vLast_e, vBast_e, vAast_e, vAlen_e8, vAlen_e9, vAlen_e10, vAlen_e11, vAlen_e5, vAlen_e3, vGets_e, vCompact_e, vLdcS_e, vIret_e, vZret_e, vCret_e, vBret_e, vLret_e, vVret_e, vAret_e, vCallM_e0, vCallMV_e0, vCallS_e0, vCallSV_e0, vCallM_e1, vCallMV_e1, vCallS_e1, vCallSV_e1, vCallM_e2, vCallMV_e2, vCallS_e2, vCallSV_e2, vCallM_e3, vCallMV_e3, vCallS_e3, vCallSV_e3, vCallM_e4, vCallMV_e4, vCallS_e4, vCallSV_e4, vCallM_e5, vCallMV_e5, vCallS_e5, vCallSV_e5, vCallM_e6, vCallMV_e6, vCallS_e6, vCallSV_e6, vCallM_e7, vCallMV_e7, vCallS_e7, vCallSV_e7, vBad_e, vStrVal_e, vStrCod_e, vForm_e, vCallT_e0, vCallT_e1, vCallT_e2, vCopy_e, rf_0_0, rf_0_1, rf_0_2, rf_0_3, rf_0_4, rf_0_7, rf_0_10, rf_0_11, rf_0_12, rf_0_13, rf_0_14, rf_0_15, rf_0_16, rf_1_0, rf_3_0, rf_3_1, rf_6_0, rf_6_1, rf_9_0, rf_9_1, rf_9_3, rf_13_0, rf_13_1, rf_13_2, rf_16_0, rf_16_1, rf_16_2, rf_16_3, rf_21_0, rf_21_1, rf_21_2, rf_21_3, rf_26_0, rf_26_1, rf_26_2, rf_26_3, rf_26_4, rf_26_5, rf_26_6, rf_31_0, rf_31_2, rf_31_5, rf_31_6, rf_36_0, rf_36_1, rf_36_2, rf_36_3, rf_39_0, rf_39_1, rf_39_2, rf_41_0, rf_41_1, rf_41_2, rf_41_3, rf_5000_1, rf_5000_2, rf_5000_3, rf_5000_4, rf_5000_5, rf_5000_15, rf_5000_16, rf_5000_18, rf_5000_19, rf_5000_20, rf_5000_21, rf_5000_22, rf_5000_23, rf_5000_24, rf_5000_25, rf_5000_26, rf_5000_27, rf_5000_36, rf_5000_37, rf_5000_40, rf_5000_41, rf_5000_42, rf_5000_43, rf_5000_44, rf_5000_45, rf_5000_47, rf_5000_52, rf_5000_54, rf_5000_55, rf_100_0, rf_100_1, rf_103_0, rf_103_1, rf_106_0, rf_106_1, rf_109_0, rf_109_1, al_2, al_4, al_5, al_7, al_8, al_10, al_11, al_12, al_14, al_15, al_17, al_18, al_19, al_20, al_22, al_23, al_24, al_25, al_27, al_28, al_29, al_30, al_32, al_33, al_34, al_35, al_37, al_38, al_40, al_42, al_5001, al_5002, al_5003, al_5004, al_5005, al_5006, al_5007, al_5008, al_5009, al_5010, al_5011, al_5012, al_5013, al_5014, al_5015, al_5016, al_5017, al_5018, al_5019, al_5020, al_5021, al_5022, al_5023, al_5024, al_5025, al_5026, al_9000, al_101, al_102, al_104, al_105, al_107, al_108, al_110, al_111, vcs_e, lg_c0, lg_cs, lg_nil, set_c0, set_cs, okst_0, okst_s, acok_n, acok_c, List.contains_nil, List.contains_cons, Bool.or_false, Bool.false_or, Bool.false_eq_true, if_false, if_true, ite_self, ne_eq, true_and, and_true, not_false_eq_true, not_true_eq_false, false_imp_iff, true_imp_iff, Nat.ble_eq, Bool.and_eq_true, reduceCtorEq, or_false, false_or, or_true, true_or, false_and, and_false, and_self, Int.reduceLE, Int.reduceAdd, Int.reduceSub, Int.reduceMul, Int.reduceNeg, Int.reduceLT, Int.reduceEq, Int.reduceNe, Nat.reduceBEq, Nat.reduceBNe, Nat.reduceEqDiff, amCmp_in, amCmp_lt, amCmp_le, amCmp_gt, amCmp_ge, amCmp_eq, amCmp_ne, Nat.reduceLeDiff, Nat.reduceSub, Bool.and_true, Bool.true_and, Bool.and_self, Bool.or_true, Bool.true_or, isRf_3, isRf_4, isRf_5, isRf_8, isRf_9, isRf_10, isRf_11, isRf_15, isRf_16, isRf_17, isRf_18, isRf_19, isRf_20, isRf_21, isRf_22, isRf_23, isRf_24, isRf_25, isRf_26, isRf_27, isRf_28, k_X12_rests_0, k_X12_rests_1, k_X12_rests_2, k_X12_rests_5, k_X12_rests_6, k_X12_rests_7, k_X12_rests_8, k_X12_rests_9, k_X12_rests_12, k_X12_rests_15, k_X12_rests_17, k_X12_rests_18, k_X12_rests_21, k_X12_rests_22, k_X12_rests_23, k_X12_rests_24, k_X12_rests_27, k_X12_rests_29, k_X12_rests_30, k_X12_rests_32, k_X12_rests_34, k_X12_rests_35, k_X12_rests_37, k_X12_rests_38, k_X12_rests_40, k_X12_rests_41, k_X12_rests_44, k_X12_rests_45, k_X12_rests_48, k_X12_rests_50, k_X12_rests_51, k_X12_rests_52, k_X12_rests_53, k_X12_rests_54, k_X12_rests_56, k_X12_rests_57, k_X12_rests_58, k_X12_rests_60, k_X12_rests_61, k_X12_rests_63, k_X12_rests_64, k_X12_rests_65, k_X12_rests_67, k_X12_rests_68, k_X12_rests_70, k_X12_rests_71, k_X12_rests_72, k_X12_rests_75, k_X12_rests_76, k_X12_rests_79, k_X12_rests_82, k_X12_rests_83, k_X12_rests_85, k_X12_rests_86, k_X12_rests_88, k_X12_rests_90, k_X12_rests_92, k_X12_rests_95, k_X12_rests_96, k_X12_rests_98, k_X12_rests_100, k_X12_rests_102, k_X12_rests_105, k_X12_rests_106, k_X12_rests_108, k_X12_rests_109, k_X12_rests_111, k_X12_rests_113, k_X12_rests_115, k_X12_rests_118, k_X12_rests_120, k_X12_rests_123, k_X12_rests_124, k_X12_rests_127, k_X12_rests_128, k_X12_rests_130, k_X12_rests_132, k_X12_rests_133, k_X12_rests_135, k_X12_rests_136, k_X12_rests_137, k_X12_rests_138, k_X12_rests_139, k_X12_rests_142, k_X12_rests_143, k_X12_rests_145, k_X12_rests_147, k_X12_rests_148, k_X12_rests_150, k_X12_rests_151, k_X12_rests_152, k_X12_rests_153, k_X12_rests_156, k_X12_rests_157, k_X12_rests_160, k_X12_rests_161, k_X12_rests_163, k_X12_rests_165, k_X12_rests_166, k_X12_rests_168, k_X12_rests_169, k_X12_rests_170, k_X12_rests_171, k_X12_rests_172, k_X12_rests_173, k_X12_rests_174, k_X12_rests_177, k_X12_rests_178, k_X12_rests_180, k_X12_rests_182, k_X12_rests_183, k_X12_rests_185, k_X12_rests_186, k_X12_rests_187, k_X12_rests_188, k_X12_rests_189, k_X12_rests_190, k_X12_rests_193, k_X12_rests_194, k_X12_rests_197, k_X12_rests_198, k_X12_rests_200, k_X12_rests_203, k_X12_rests_206, k_X12_rests_208, k_X12_rests_211, k_X12_rests_214, k_X12_rests_216, k_X12_rests_218, k_X12_rests_221, k_X12_rests_223, k_X12_rests_225, k_X12_rests_226, k_X12_rests_228, k_X12_rests_229, k_X12_rests_230, k_X12_rests_233, k_X12_rests_236, k_X12_rests_239, k_X12_rests_242, k_X12_rests_245, k_X12_rests_247, k_X12_rests_248, k_X12_rests_251, k_X12_rests_253, k_X12_rests_256, k_X12_rests_257]
          repeat' (first | apply And.intro | intro _)
          all_goals first | omega | exact absurd trivial (by assumption) | exact i9
      · have hq := h2 ⟨hg, hi1⟩ σ' hQ hm
        rw [← hr9] at hq
        have eb : (S - y).toNat = (S - (y + 1)).toNat + 1 := by omega
        rw [eb] at hr9 hq
        have nx : ∀ c' , 0 ≤ c' → c' ≤ 6 * x + (y + 1) → rsI (mrP G0 G1 S) i x (rsO (mrP G0 G1 S) i S.toNat (S - x - 1).toNat (x + 1)) (S - (y + 1)).toNat (y + 1) c' = rsO (mrP G0 G1 S) i S.toNat S.toNat 0 0 → ∃ k', k' < n ∧ inv_mrs σ G0 G1 o r p i S k' 98 [(28, 5000), (0, o), (0, r), (0, p), (0, i), (0, S), (0, c'), (0, x), (0, y + 1), (0, b), (0, k)] [] σ' := fun c' a1 a2 a3 =>
          ⟨((S - x) * 10000 - 1 - (y + 1) * 100).toNat, by omega, rfl, hg, hi1, hQ, hm, Or.inr ⟨hgn, c', x, a1, x0, Or.inr (Or.inl ⟨y + 1, (0, b), (0, k), rfl, hxS, by omega, by omega, a2, by omega, rfl, by decide, a3⟩)⟩⟩
        rcases hb with ⟨rfl, hal⟩ | ⟨rfl, hno⟩
        · have cp : mrP G0 G1 S x y := fun j j0 j1 => hal j j0 (by omega)
          rw [rsI_t (P := mrP G0 G1 S) (x := x) (y := y) cp] at hr9 hq
          by_cases ci : c = i
          · rw [if_pos ci] at hq
            simp only [↓reduceIte, inR_0, inR_1, inR_m, vSw2_e, swP_n, swP_c, vI_e, vL_e, vNull_e, vIload_e, vLload_e, vAload_e, vIstore_e, vLstore_e, vAstore_e, vIinc_e, vIadd_e, vIsub_e, vImul_e, vIand_e, vIor_e, vIxor_e, vIshl_e, vIshr_e, vIushr_e, vIdiv_e, vIrem_e, vLadd_e, vLsub_e, vLmul_e, vLand_e, vLor_e, vLxor_e, vLdiv_e, vLrem_e, vLushr_e, vLshl_e, vLcmp_e, vIneg_e, vI2l_e, vL2i_e, vI2b_e, vI2c_e, vDup_e, vPop_e, vDup2_e, vGoto_e, vIcEq_e, vIfEq_e, vIcNe_e, vIfNe_e, vIcLt_e, vIfLt_e, vIcGe_e, vIfGe_e, vIcGt_e, vIfGt_e, vIcLe_e, vIfLe_e, vNonnull_e, vSw_e, vGetI_e, vGetL_e, vGetR_e, vPutI_e, vPutZ_e, vPutL_e, vPutR_e, vIald_e, vIald_s, vLald_e, vBald_e, vBald_s, vAald_e, vIast_e, vLast_e, vBast_e, vAast_e, vAlen_e8, vAlen_e9, vAlen_e10, vAlen_e11, vAlen_e5, vAlen_e3, vGets_e, vCompact_e, vLdcS_e, vIret_e, vZret_e, vCret_e, vBret_e, vLret_e, vVret_e, vAret_e, vCallM_e0, vCallMV_e0, vCallS_e0, vCallSV_e0, vCallM_e1, vCallMV_e1, vCallS_e1, vCallSV_e1, vCallM_e2, vCallMV_e2, vCallS_e2, vCallSV_e2, vCallM_e3, vCallMV_e3, vCallS_e3, vCallSV_e3, vCallM_e4, vCallMV_e4, vCallS_e4, vCallSV_e4, vCallM_e5, vCallMV_e5, vCallS_e5, vCallSV_e5, vCallM_e6, vCallMV_e6, vCallS_e6, vCallSV_e6, vCallM_e7, vCallMV_e7, vCallS_e7, vCallSV_e7, vBad_e, vStrVal_e, vStrCod_e, vForm_e, vCallT_e0, vCallT_e1, vCallT_e2, vCopy_e, rf_0_0, rf_0_1, rf_0_2, rf_0_3, rf_0_4, rf_0_7, rf_0_10, rf_0_11, rf_0_12, rf_0_13, rf_0_14, rf_0_15, rf_0_16, rf_1_0, rf_3_0, rf_3_1, rf_6_0, rf_6_1, rf_9_0, rf_9_1, rf_9_3, rf_13_0, rf_13_1, rf_13_2, rf_16_0, rf_16_1, rf_16_2, rf_16_3, rf_21_0, rf_21_1, rf_21_2, rf_21_3, rf_26_0, rf_26_1, rf_26_2, rf_26_3, rf_26_4, rf_26_5, rf_26_6, rf_31_0, rf_31_2, rf_31_5, rf_31_6, rf_36_0, rf_36_1, rf_36_2, rf_36_3, rf_39_0, rf_39_1, rf_39_2, rf_41_0, rf_41_1, rf_41_2, rf_41_3, rf_5000_1, rf_5000_2, rf_5000_3, rf_5000_4, rf_5000_5, rf_5000_15, rf_5000_16, rf_5000_18, rf_5000_19, rf_5000_20, rf_5000_21, rf_5000_22, rf_5000_23, rf_5000_24, rf_5000_25, rf_5000_26, rf_5000_27, rf_5000_36, rf_5000_37, rf_5000_40, rf_5000_41, rf_5000_42, rf_5000_43, rf_5000_44, rf_5000_45, rf_5000_47, rf_5000_52, rf_5000_54, rf_5000_55, rf_100_0, rf_100_1, rf_103_0, rf_103_1, rf_106_0, rf_106_1, rf_109_0, rf_109_1, al_2, al_4, al_5, al_7, al_8, al_10, al_11, al_12, al_14, al_15, al_17, al_18, al_19, al_20, al_22, al_23, al_24, al_25, al_27, al_28, al_29, al_30, al_32, al_33, al_34, al_35, al_37, al_38, al_40, al_42, al_5001, al_5002, al_5003, al_5004, al_5005, al_5006, al_5007, al_5008, al_5009, al_5010, al_5011, al_5012, al_5013, al_5014, al_5015, al_5016, al_5017, al_5018, al_5019, al_5020, al_5021, al_5022, al_5023, al_5024, al_5025, al_5026, al_9000, al_101, al_102, al_104, al_105, al_107, al_108, al_110, al_111, vcs_e, lg_c0, lg_cs, lg_nil, set_c0, set_cs, okst_0, okst_s, acok_n, acok_c, List.contains_nil, List.contains_cons, Bool.or_false, Bool.false_or, Bool.false_eq_true, if_false, if_true, ite_self, ne_eq, true_and, and_true, not_false_eq_true, not_true_eq_false, false_imp_iff, true_imp_iff, Nat.ble_eq, Bool.and_eq_true, reduceCtorEq, or_false, false_or, or_true, true_or, false_and, and_false, and_self, Int.reduceLE, Int.reduceAdd, Int.reduceSub, Int.reduceMul, Int.reduceNeg, Int.reduceLT, Int.reduceEq, Int.reduceNe, Nat.reduceBEq, Nat.reduceBNe, Nat.reduceEqDiff, amCmp_in, amCmp_lt, amCmp_le, amCmp_gt, amCmp_ge, amCmp_eq, amCmp_ne, Nat.reduceLeDiff, Nat.reduceSub, Bool.and_true, Bool.true_and, Bool.and_self, Bool.or_true, Bool.true_or, isRf_3, isRf_4, isRf_5, isRf_8, isRf_9, isRf_10, isRf_11, isRf_15, isRf_16, isRf_17, isRf_18, isRf_19, isRf_20, isRf_21, isRf_22, isRf_23, isRf_24, isRf_25, isRf_26, isRf_27, isRf_28, k_X12_rests_0, k_X12_rests_1, k_X12_rests_2, k_X12_rests_5, k_X12_rests_6, k_X12_rests_7, k_X12_rests_8, k_X12_rests_9, k_X12_rests_12, k_X12_rests_15, k_X12_rests_17, k_X12_rests_18, k_X12_rests_21, k_X12_rests_22, k_X12_rests_23, k_X12_rests_24, k_X12_rests_27, k_X12_rests_29, k_X12_rests_30, k_X12_rests_32, k_X12_rests_34, k_X12_rests_35, k_X12_rests_37, k_X12_rests_38, k_X12_rests_40, k_X12_rests_41, k_X12_rests_44, k_X12_rests_45, k_X12_rests_48, k_X12_rests_50, k_X12_rests_51, k_X12_rests_52, k_X12_rests_53, k_X12_rests_54, k_X12_rests_56, k_X12_rests_57, k_X12_rests_58, k_X12_rests_60, k_X12_rests_61, k_X12_rests_63, k_X12_rests_64, k_X12_rests_65, k_X12_rests_67, k_X12_rests_68, k_X12_rests_70, k_X12_rests_71, k_X12_rests_72, k_X12_rests_75, k_X12_rests_76, k_X12_rests_79, k_X12_rests_82, k_X12_rests_83, k_X12_rests_85, k_X12_rests_86, k_X12_rests_88, k_X12_rests_90, k_X12_rests_92, k_X12_rests_95, k_X12_rests_96, k_X12_rests_98, k_X12_rests_100, k_X12_rests_102, k_X12_rests_105, k_X12_rests_106, k_X12_rests_108, k_X12_rests_109, k_X12_rests_111, k_X12_rests_113, k_X12_rests_115, k_X12_rests_118, k_X12_rests_120, k_X12_rests_123, k_X12_rests_124, k_X12_rests_127, k_X12_rests_128, k_X12_rests_130, k_X12_rests_132, k_X12_rests_133, k_X12_rests_135, k_X12_rests_136, k_X12_rests_137, k_X12_rests_138, k_X12_rests_139, k_X12_rests_142, k_X12_rests_143, k_X12_rests_145, k_X12_rests_147, k_X12_rests_148, k_X12_rests_150, k_X12_rests_151, k_X12_rests_152, k_X12_rests_153, k_X12_rests_156, k_X12_rests_157, k_X12_rests_160, k_X12_rests_161, k_X12_rests_163, k_X12_rests_165, k_X12_rests_166, k_X12_rests_168, k_X12_rests_169, k_X12_rests_170, k_X12_rests_171, k_X12_rests_172, k_X12_rests_173, k_X12_rests_174, k_X12_rests_177, k_X12_rests_178, k_X12_rests_180, k_X12_rests_182, k_X12_rests_183, k_X12_rests_185, k_X12_rests_186, k_X12_rests_187, k_X12_rests_188, k_X12_rests_189, k_X12_rests_190, k_X12_rests_193, k_X12_rests_194, k_X12_rests_197, k_X12_rests_198, k_X12_rests_200, k_X12_rests_203, k_X12_rests_206, k_X12_rests_208, k_X12_rests_211, k_X12_rests_214, k_X12_rests_216, k_X12_rests_218, k_X12_rests_221, k_X12_rests_223, k_X12_rests_225, k_X12_rests_226, k_X12_rests_228, k_X12_rests_229, k_X12_rests_230, k_X12_rests_233, k_X12_rests_236, k_X12_rests_239, k_X12_rests_242, k_X12_rests_245, k_X12_rests_247, k_X12_rests_248, k_X12_rests_251, k_X12_rests_253, k_X12_rests_256, k_X12_rests_257]
            repeat' (first | apply And.intro | intro _)
            all_goals first | omega | exact absurd trivial (by assumption) | exact hq
          · rw [if_neg ci] at hr9
            have i9 := nx (c + 1) (by omega) (by omega) hr9
            simp only [↓reduceIte, inR_0, inR_1, inR_m, vSw2_e, swP_n, swP_c, vI_e, vL_e, vNull_e, vIload_e, vLload_e, vAload_e, vIstore_e, vLstore_e, vAstore_e, vIinc_e, vIadd_e, vIsub_e, vImul_e, vIand_e, vIor_e, vIxor_e, vIshl_e, vIshr_e, vIushr_e, vIdiv_e, vIrem_e, vLadd_e, vLsub_e, vLmul_e, vLand_e, vLor_e, vLxor_e, vLdiv_e, vLrem_e, vLushr_e, vLshl_e, vLcmp_e, vIneg_e, vI2l_e, vL2i_e, vI2b_e, vI2c_e, vDup_e, vPop_e, vDup2_e, vGoto_e, vIcEq_e, vIfEq_e, vIcNe_e, vIfNe_e, vIcLt_e, vIfLt_e, vIcGe_e, vIfGe_e, vIcGt_e, vIfGt_e, vIcLe_e, vIfLe_e, vNonnull_e, vSw_e, vGetI_e, vGetL_e, vGetR_e, vPutI_e, vPutZ_e, vPutL_e, vPutR_e, vIald_e, vIald_s, vLald_e, vBald_e, vBald_s, vAald_e, vIast_e, vLast_e, vBast_e, vAast_e, vAlen_e8, vAlen_e9, vAlen_e10, vAlen_e11, vAlen_e5, vAlen_e3, vGets_e, vCompact_e, vLdcS_e, vIret_e, vZret_e, vCret_e, vBret_e, vLret_e, vVret_e, vAret_e, vCallM_e0, vCallMV_e0, vCallS_e0, vCallSV_e0, vCallM_e1, vCallMV_e1, vCallS_e1, vCallSV_e1, vCallM_e2, vCallMV_e2, vCallS_e2, vCallSV_e2, vCallM_e3, vCallMV_e3, vCallS_e3, vCallSV_e3, vCallM_e4, vCallMV_e4, vCallS_e4, vCallSV_e4, vCallM_e5, vCallMV_e5, vCallS_e5, vCallSV_e5, vCallM_e6, vCallMV_e6, vCallS_e6, vCallSV_e6, vCallM_e7, vCallMV_e7, vCallS_e7, vCallSV_e7, vBad_e, vStrVal_e, vStrCod_e, vForm_e, vCallT_e0, vCallT_e1, vCallT_e2, vCopy_e, rf_0_0, rf_0_1, rf_0_2, rf_0_3, rf_0_4, rf_0_7, rf_0_10, rf_0_11, rf_0_12, rf_0_13, rf_0_14, rf_0_15, rf_0_16, rf_1_0, rf_3_0, rf_3_1, rf_6_0, rf_6_1, rf_9_0, rf_9_1, rf_9_3, rf_13_0, rf_13_1, rf_13_2, rf_16_0, rf_16_1, rf_16_2, rf_16_3, rf_21_0, rf_21_1, rf_21_2, rf_21_3, rf_26_0, rf_26_1, rf_26_2, rf_26_3, rf_26_4, rf_26_5, rf_26_6, rf_31_0, rf_31_2, rf_31_5, rf_31_6, rf_36_0, rf_36_1, rf_36_2, rf_36_3, rf_39_0, rf_39_1, rf_39_2, rf_41_0, rf_41_1, rf_41_2, rf_41_3, rf_5000_1, rf_5000_2, rf_5000_3, rf_5000_4, rf_5000_5, rf_5000_15, rf_5000_16, rf_5000_18, rf_5000_19, rf_5000_20, rf_5000_21, rf_5000_22, rf_5000_23, rf_5000_24, rf_5000_25, rf_5000_26, rf_5000_27, rf_5000_36, rf_5000_37, rf_5000_40, rf_5000_41, rf_5000_42, rf_5000_43, rf_5000_44, rf_5000_45, rf_5000_47, rf_5000_52, rf_5000_54, rf_5000_55, rf_100_0, rf_100_1, rf_103_0, rf_103_1, rf_106_0, rf_106_1, rf_109_0, rf_109_1, al_2, al_4, al_5, al_7, al_8, al_10, al_11, al_12, al_14, al_15, al_17, al_18, al_19, al_20, al_22, al_23, al_24, al_25, al_27, al_28, al_29, al_30, al_32, al_33, al_34, al_35, al_37, al_38, al_40, al_42, al_5001, al_5002, al_5003, al_5004, al_5005, al_5006, al_5007, al_5008, al_5009, al_5010, al_5011, al_5012, al_5013, al_5014, al_5015, al_5016, al_5017, al_5018, al_5019, al_5020, al_5021, al_5022, al_5023, al_5024, al_5025, al_5026, al_9000, al_101, al_102, al_104, al_105, al_107, al_108, al_110, al_111, vcs_e, lg_c0, lg_cs, lg_nil, set_c0, set_cs, okst_0, okst_s, acok_n, acok_c, List.contains_nil, List.contains_cons, Bool.or_false, Bool.false_or, Bool.false_eq_true, if_false, if_true, ite_self, ne_eq, true_and, and_true, not_false_eq_true, not_true_eq_false, false_imp_iff, true_imp_iff, Nat.ble_eq, Bool.and_eq_true, reduceCtorEq, or_false, false_or, or_true, true_or, false_and, and_false, and_self, Int.reduceLE, Int.reduceAdd, Int.reduceSub, Int.reduceMul, Int.reduceNeg, Int.reduceLT, Int.reduceEq, Int.reduceNe, Nat.reduceBEq, Nat.reduceBNe, Nat.reduceEqDiff, amCmp_in, amCmp_lt, amCmp_le, amCmp_gt, amCmp_ge, amCmp_eq, amCmp_ne, Nat.reduceLeDiff, Nat.reduceSub, Bool.and_true, Bool.true_and, Bool.and_self, Bool.or_true, Bool.true_or, isRf_3, isRf_4, isRf_5, isRf_8, isRf_9, isRf_10, isRf_11, isRf_15, isRf_16, isRf_17, isRf_18, isRf_19, isRf_20, isRf_21, isRf_22, isRf_23, isRf_24, isRf_25, isRf_26, isRf_27, isRf_28, k_X12_rests_0, k_X12_rests_1, k_X12_rests_2, k_X12_rests_5, k_X12_rests_6, k_X12_rests_7, k_X12_rests_8, k_X12_rests_9, k_X12_rests_12, k_X12_rests_15, k_X12_rests_17, k_X12_rests_18, k_X12_rests_21, k_X12_rests_22, k_X12_rests_23, k_X12_rests_24, k_X12_rests_27, k_X12_rests_29, k_X12_rests_30, k_X12_rests_32, k_X12_rests_34, k_X12_rests_35, k_X12_rests_37, k_X12_rests_38, k_X12_rests_40, k_X12_rests_41, k_X12_rests_44, k_X12_rests_45, k_X12_rests_48, k_X12_rests_50, k_X12_rests_51, k_X12_rests_52, k_X12_rests_53, k_X12_rests_54, k_X12_rests_56, k_X12_rests_57, k_X12_rests_58, k_X12_rests_60, k_X12_rests_61, k_X12_rests_63, k_X12_rests_64, k_X12_rests_65, k_X12_rests_67, k_X12_rests_68, k_X12_rests_70, k_X12_rests_71, k_X12_rests_72, k_X12_rests_75, k_X12_rests_76, k_X12_rests_79, k_X12_rests_82, k_X12_rests_83, k_X12_rests_85, k_X12_rests_86, k_X12_rests_88, k_X12_rests_90, k_X12_rests_92, k_X12_rests_95, k_X12_rests_96, k_X12_rests_98, k_X12_rests_100, k_X12_rests_102, k_X12_rests_105, k_X12_rests_106, k_X12_rests_108, k_X12_rests_109, k_X12_rests_111, k_X12_rests_113, k_X12_rests_115, k_X12_rests_118, k_X12_rests_120, k_X12_rests_123, k_X12_rests_124, k_X12_rests_127, k_X12_rests_128, k_X12_rests_130, k_X12_rests_132, k_X12_rests_133, k_X12_rests_135, k_X12_rests_136, k_X12_rests_137, k_X12_rests_138, k_X12_rests_139, k_X12_rests_142, k_X12_rests_143, k_X12_rests_145, k_X12_rests_147, k_X12_rests_148, k_X12_rests_150, k_X12_rests_151, k_X12_rests_152, k_X12_rests_153, k_X12_rests_156, k_X12_rests_157, k_X12_rests_160, k_X12_rests_161, k_X12_rests_163, k_X12_rests_165, k_X12_rests_166, k_X12_rests_168, k_X12_rests_169, k_X12_rests_170, k_X12_rests_171, k_X12_rests_172, k_X12_rests_173, k_X12_rests_174, k_X12_rests_177, k_X12_rests_178, k_X12_rests_180, k_X12_rests_182, k_X12_rests_183, k_X12_rests_185, k_X12_rests_186, k_X12_rests_187, k_X12_rests_188, k_X12_rests_189, k_X12_rests_190, k_X12_rests_193, k_X12_rests_194, k_X12_rests_197, k_X12_rests_198, k_X12_rests_200, k_X12_rests_203, k_X12_rests_206, k_X12_rests_208, k_X12_rests_211, k_X12_rests_214, k_X12_rests_216, k_X12_rests_218, k_X12_rests_221, k_X12_rests_223, k_X12_rests_225, k_X12_rests_226, k_X12_rests_228, k_X12_rests_229, k_X12_rests_230, k_X12_rests_233, k_X12_rests_236, k_X12_rests_239, k_X12_rests_242, k_X12_rests_245, k_X12_rests_247, k_X12_rests_248, k_X12_rests_251, k_X12_rests_253, k_X12_rests_256, k_X12_rests_257]
            repeat' (first | apply And.intro | intro _)
            all_goals first | omega | exact absurd trivial (by assumption) | exact i9
        · rw [rsI_f (P := mrP G0 G1 S) (x := x) (y := y) hno] at hr9
          have i9 := nx c (by omega) (by omega) hr9
          simp only [↓reduceIte, inR_0, inR_1, inR_m, vSw2_e, swP_n, swP_c, vI_e, vL_e, vNull_e, vIload_e, vLload_e, vAload_e, vIstore_e, vLstore_e, vAstore_e, vIinc_e, vIadd_e, vIsub_e, vImul_e, vIand_e, vIor_e, vIxor_e, vIshl_e, vIshr_e, vIushr_e, vIdiv_e, vIrem_e, vLadd_e, vLsub_e, vLmul_e, vLand_e, vLor_e, vLxor_e, vLdiv_e, vLrem_e, vLushr_e, vLshl_e, vLcmp_e, vIneg_e, vI2l_e, vL2i_e, vI2b_e, vI2c_e, vDup_e, vPop_e, vDup2_e, vGoto_e, vIcEq_e, vIfEq_e, vIcNe_e, vIfNe_e, vIcLt_e, vIfLt_e, vIcGe_e, vIfGe_e, vIcGt_e, vIfGt_e, vIcLe_e, vIfLe_e, vNonnull_e, vSw_e, vGetI_e, vGetL_e, vGetR_e, vPutI_e, vPutZ_e, vPutL_e, vPutR_e, vIald_e, vIald_s, vLald_e, vBald_e, vBald_s, vAald_e, vIast_e, vLast_e, vBast_e, vAast_e, vAlen_e8, vAlen_e9, vAlen_e10, vAlen_e11, vAlen_e5, vAlen_e3, vGets_e, vCompact_e, vLdcS_e, vIret_e, vZret_e, vCret_e, vBret_e, vLret_e, vVret_e, vAret_e, vCallM_e0, vCallMV_e0, vCallS_e0, vCallSV_e0, vCallM_e1, vCallMV_e1, vCallS_e1, vCallSV_e1, vCallM_e2, vCallMV_e2, vCallS_e2, vCallSV_e2, vCallM_e3, vCallMV_e3, vCallS_e3, vCallSV_e3, vCallM_e4, vCallMV_e4, vCallS_e4, vCallSV_e4, vCallM_e5, vCallMV_e5, vCallS_e5, vCallSV_e5, vCallM_e6, vCallMV_e6, vCallS_e6, vCallSV_e6, vCallM_e7, vCallMV_e7, vCallS_e7, vCallSV_e7, vBad_e, vStrVal_e, vStrCod_e, vForm_e, vCallT_e0, vCallT_e1, vCallT_e2, vCopy_e, rf_0_0, rf_0_1, rf_0_2, rf_0_3, rf_0_4, rf_0_7, rf_0_10, rf_0_11, rf_0_12, rf_0_13, rf_0_14, rf_0_15, rf_0_16, rf_1_0, rf_3_0, rf_3_1, rf_6_0, rf_6_1, rf_9_0, rf_9_1, rf_9_3, rf_13_0, rf_13_1, rf_13_2, rf_16_0, rf_16_1, rf_16_2, rf_16_3, rf_21_0, rf_21_1, rf_21_2, rf_21_3, rf_26_0, rf_26_1, rf_26_2, rf_26_3, rf_26_4, rf_26_5, rf_26_6, rf_31_0, rf_31_2, rf_31_5, rf_31_6, rf_36_0, rf_36_1, rf_36_2, rf_36_3, rf_39_0, rf_39_1, rf_39_2, rf_41_0, rf_41_1, rf_41_2, rf_41_3, rf_5000_1, rf_5000_2, rf_5000_3, rf_5000_4, rf_5000_5, rf_5000_15, rf_5000_16, rf_5000_18, rf_5000_19, rf_5000_20, rf_5000_21, rf_5000_22, rf_5000_23, rf_5000_24, rf_5000_25, rf_5000_26, rf_5000_27, rf_5000_36, rf_5000_37, rf_5000_40, rf_5000_41, rf_5000_42, rf_5000_43, rf_5000_44, rf_5000_45, rf_5000_47, rf_5000_52, rf_5000_54, rf_5000_55, rf_100_0, rf_100_1, rf_103_0, rf_103_1, rf_106_0, rf_106_1, rf_109_0, rf_109_1, al_2, al_4, al_5, al_7, al_8, al_10, al_11, al_12, al_14, al_15, al_17, al_18, al_19, al_20, al_22, al_23, al_24, al_25, al_27, al_28, al_29, al_30, al_32, al_33, al_34, al_35, al_37, al_38, al_40, al_42, al_5001, al_5002, al_5003, al_5004, al_5005, al_5006, al_5007, al_5008, al_5009, al_5010, al_5011, al_5012, al_5013, al_5014, al_5015, al_5016, al_5017, al_5018, al_5019, al_5020, al_5021, al_5022, al_5023, al_5024, al_5025, al_5026, al_9000, al_101, al_102, al_104, al_105, al_107, al_108, al_110, al_111, vcs_e, lg_c0, lg_cs, lg_nil, set_c0, set_cs, okst_0, okst_s, acok_n, acok_c, List.contains_nil, List.contains_cons, Bool.or_false, Bool.false_or, Bool.false_eq_true, if_false, if_true, ite_self, ne_eq, true_and, and_true, not_false_eq_true, not_true_eq_false, false_imp_iff, true_imp_iff, Nat.ble_eq, Bool.and_eq_true, reduceCtorEq, or_false, false_or, or_true, true_or, false_and, and_false, and_self, Int.reduceLE, Int.reduceAdd, Int.reduceSub, Int.reduceMul, Int.reduceNeg, Int.reduceLT, Int.reduceEq, Int.reduceNe, Nat.reduceBEq, Nat.reduceBNe, Nat.reduceEqDiff, amCmp_in, amCmp_lt, amCmp_le, amCmp_gt, amCmp_ge, amCmp_eq, amCmp_ne, Nat.reduceLeDiff, Nat.reduceSub, Bool.and_true, Bool.true_and, Bool.and_self, Bool.or_true, Bool.true_or, isRf_3, isRf_4, isRf_5, isRf_8, isRf_9, isRf_10, isRf_11, isRf_15, isRf_16, isRf_17, isRf_18, isRf_19, isRf_20, isRf_21, isRf_22, isRf_23, isRf_24, isRf_25, isRf_26, isRf_27, isRf_28, k_X12_rests_0, k_X12_rests_1, k_X12_rests_2, k_X12_rests_5, k_X12_rests_6, k_X12_rests_7, k_X12_rests_8, k_X12_rests_9, k_X12_rests_12, k_X12_rests_15, k_X12_rests_17, k_X12_rests_18, k_X12_rests_21, k_X12_rests_22, k_X12_rests_23, k_X12_rests_24, k_X12_rests_27, k_X12_rests_29, k_X12_rests_30, k_X12_rests_32, k_X12_rests_34, k_X12_rests_35, k_X12_rests_37, k_X12_rests_38, k_X12_rests_40, k_X12_rests_41, k_X12_rests_44, k_X12_rests_45, k_X12_rests_48, k_X12_rests_50, k_X12_rests_51, k_X12_rests_52, k_X12_rests_53, k_X12_rests_54, k_X12_rests_56, k_X12_rests_57, k_X12_rests_58, k_X12_rests_60, k_X12_rests_61, k_X12_rests_63, k_X12_rests_64, k_X12_rests_65, k_X12_rests_67, k_X12_rests_68, k_X12_rests_70, k_X12_rests_71, k_X12_rests_72, k_X12_rests_75, k_X12_rests_76, k_X12_rests_79, k_X12_rests_82, k_X12_rests_83, k_X12_rests_85, k_X12_rests_86, k_X12_rests_88, k_X12_rests_90, k_X12_rests_92, k_X12_rests_95, k_X12_rests_96, k_X12_rests_98, k_X12_rests_100, k_X12_rests_102, k_X12_rests_105, k_X12_rests_106, k_X12_rests_108, k_X12_rests_109, k_X12_rests_111, k_X12_rests_113, k_X12_rests_115, k_X12_rests_118, k_X12_rests_120, k_X12_rests_123, k_X12_rests_124, k_X12_rests_127, k_X12_rests_128, k_X12_rests_130, k_X12_rests_132, k_X12_rests_133, k_X12_rests_135, k_X12_rests_136, k_X12_rests_137, k_X12_rests_138, k_X12_rests_139, k_X12_rests_142, k_X12_rests_143, k_X12_rests_145, k_X12_rests_147, k_X12_rests_148, k_X12_rests_150, k_X12_rests_151, k_X12_rests_152, k_X12_rests_153, k_X12_rests_156, k_X12_rests_157, k_X12_rests_160, k_X12_rests_161, k_X12_rests_163, k_X12_rests_165, k_X12_rests_166, k_X12_rests_168, k_X12_rests_169, k_X12_rests_170, k_X12_rests_171, k_X12_rests_172, k_X12_rests_173, k_X12_rests_174, k_X12_rests_177, k_X12_rests_178, k_X12_rests_180, k_X12_rests_182, k_X12_rests_183, k_X12_rests_185, k_X12_rests_186, k_X12_rests_187, k_X12_rests_188, k_X12_rests_189, k_X12_rests_190, k_X12_rests_193, k_X12_rests_194, k_X12_rests_197, k_X12_rests_198, k_X12_rests_200, k_X12_rests_203, k_X12_rests_206, k_X12_rests_208, k_X12_rests_211, k_X12_rests_214, k_X12_rests_216, k_X12_rests_218, k_X12_rests_221, k_X12_rests_223, k_X12_rests_225, k_X12_rests_226, k_X12_rests_228, k_X12_rests_229, k_X12_rests_230, k_X12_rests_233, k_X12_rests_236, k_X12_rests_239, k_X12_rests_242, k_X12_rests_245, k_X12_rests_247, k_X12_rests_248, k_X12_rests_251, k_X12_rests_253, k_X12_rests_256, k_X12_rests_257]
          repeat' (first | apply And.intro | intro _)
          all_goals first | omega | exact absurd trivial (by assumption) | exact i9
  · change vcs _ _ _ _ 60 0 [(28, 5000), (0, o), (0, r), (0, p), (0, i), (6, 0), (6, 0), (6, 0), (6, 0), (6, 0), (6, 0)] [] σ
    have i9 : gmP σ o r p → -1 ≤ i → ∃ k', inv_mrs σ G0 G1 o r p i S k' 32 [(28, 5000), (0, o), (0, r), (0, p), (0, i), (0, S), (0, 0), (6, 0), (6, 0), (6, 0), (6, 0)] [] (th0 σ) := fun a b =>
      ⟨(100000 + 2 * S * S).toNat, rfl, a, b, QF_th σ, hmt, Or.inl ⟨0, rfl, rfl, by omega, by omega, fun j j0 j1 => by omega⟩⟩
    have q8 : ¬ (gmP σ o r p ∧ -1 ≤ i) → Q (0, -1) (th0 σ) := h1
    simp only [↓reduceIte, inR_0, inR_1, inR_m, vSw2_e, swP_n, swP_c, vI_e, vL_e, vNull_e, vIload_e, vLload_e, vAload_e, vIstore_e, vLstore_e, vAstore_e, vIinc_e, vIadd_e, vIsub_e, vImul_e, vIand_e, vIor_e, vIxor_e, vIshl_e, vIshr_e, vIushr_e, vIdiv_e, vIrem_e, vLadd_e, vLsub_e, vLmul_e, vLand_e, vLor_e, vLxor_e, vLdiv_e, vLrem_e, vLushr_e, vLshl_e, vLcmp_e, vIneg_e, vI2l_e, vL2i_e, vI2b_e, vI2c_e, vDup_e, vPop_e, vDup2_e, vGoto_e, vIcEq_e, vIfEq_e, vIcNe_e, vIfNe_e, vIcLt_e, vIfLt_e, vIcGe_e, vIfGe_e, vIcGt_e, vIfGt_e, vIcLe_e, vIfLe_e, vNonnull_e, vSw_e, vGetI_e, vGetL_e, vGetR_e, vPutI_e, vPutZ_e, vPutL_e, vPutR_e, vIald_e, vIald_s, vLald_e, vBald_e, vBald_s, vAald_e, vIast_e, vLast_e, vBast_e, vAast_e, vAlen_e8, vAlen_e9, vAlen_e10, vAlen_e11, vAlen_e5, vAlen_e3, vGets_e, vCompact_e, vLdcS_e, vIret_e, vZret_e, vCret_e, vBret_e, vLret_e, vVret_e, vAret_e, vCallM_e0, vCallMV_e0, vCallS_e0, vCallSV_e0, vCallM_e1, vCallMV_e1, vCallS_e1, vCallSV_e1, vCallM_e2, vCallMV_e2, vCallS_e2, vCallSV_e2, vCallM_e3, vCallMV_e3, vCallS_e3, vCallSV_e3, vCallM_e4, vCallMV_e4, vCallS_e4, vCallSV_e4, vCallM_e5, vCallMV_e5, vCallS_e5, vCallSV_e5, vCallM_e6, vCallMV_e6, vCallS_e6, vCallSV_e6, vCallM_e7, vCallMV_e7, vCallS_e7, vCallSV_e7, vBad_e, vStrVal_e, vStrCod_e, vForm_e, vCallT_e0, vCallT_e1, vCallT_e2, vCopy_e, rf_0_0, rf_0_1, rf_0_2, rf_0_3, rf_0_4, rf_0_7, rf_0_10, rf_0_11, rf_0_12, rf_0_13, rf_0_14, rf_0_15, rf_0_16, rf_1_0, rf_3_0, rf_3_1, rf_6_0, rf_6_1, rf_9_0, rf_9_1, rf_9_3, rf_13_0, rf_13_1, rf_13_2, rf_16_0, rf_16_1, rf_16_2, rf_16_3, rf_21_0, rf_21_1, rf_21_2, rf_21_3, rf_26_0, rf_26_1, rf_26_2, rf_26_3, rf_26_4, rf_26_5, rf_26_6, rf_31_0, rf_31_2, rf_31_5, rf_31_6, rf_36_0, rf_36_1, rf_36_2, rf_36_3, rf_39_0, rf_39_1, rf_39_2, rf_41_0, rf_41_1, rf_41_2, rf_41_3, rf_5000_1, rf_5000_2, rf_5000_3, rf_5000_4, rf_5000_5, rf_5000_15, rf_5000_16, rf_5000_18, rf_5000_19, rf_5000_20, rf_5000_21, rf_5000_22, rf_5000_23, rf_5000_24, rf_5000_25, rf_5000_26, rf_5000_27, rf_5000_36, rf_5000_37, rf_5000_40, rf_5000_41, rf_5000_42, rf_5000_43, rf_5000_44, rf_5000_45, rf_5000_47, rf_5000_52, rf_5000_54, rf_5000_55, rf_100_0, rf_100_1, rf_103_0, rf_103_1, rf_106_0, rf_106_1, rf_109_0, rf_109_1, al_2, al_4, al_5, al_7, al_8, al_10, al_11, al_12, al_14, al_15, al_17, al_18, al_19, al_20, al_22, al_23, al_24, al_25, al_27, al_28, al_29, al_30, al_32, al_33, al_34, al_35, al_37, al_38, al_40, al_42, al_5001, al_5002, al_5003, al_5004, al_5005, al_5006, al_5007, al_5008, al_5009, al_5010, al_5011, al_5012, al_5013, al_5014, al_5015, al_5016, al_5017, al_5018, al_5019, al_5020, al_5021, al_5022, al_5023, al_5024, al_5025, al_5026, al_9000, al_101, al_102, al_104, al_105, al_107, al_108, al_110, al_111, vcs_e, lg_c0, lg_cs, lg_nil, set_c0, set_cs, okst_0, okst_s, acok_n, acok_c, List.contains_nil, List.contains_cons, Bool.or_false, Bool.false_or, Bool.false_eq_true, if_false, if_true, ite_self, ne_eq, true_and, and_true, not_false_eq_true, not_true_eq_false, false_imp_iff, true_imp_iff, Nat.ble_eq, Bool.and_eq_true, reduceCtorEq, or_false, false_or, or_true, true_or, false_and, and_false, and_self, Int.reduceLE, Int.reduceAdd, Int.reduceSub, Int.reduceMul, Int.reduceNeg, Int.reduceLT, Int.reduceEq, Int.reduceNe, Nat.reduceBEq, Nat.reduceBNe, Nat.reduceEqDiff, amCmp_in, amCmp_lt, amCmp_le, amCmp_gt, amCmp_ge, amCmp_eq, amCmp_ne, Nat.reduceLeDiff, Nat.reduceSub, Bool.and_true, Bool.true_and, Bool.and_self, Bool.or_true, Bool.true_or, isRf_3, isRf_4, isRf_5, isRf_8, isRf_9, isRf_10, isRf_11, isRf_15, isRf_16, isRf_17, isRf_18, isRf_19, isRf_20, isRf_21, isRf_22, isRf_23, isRf_24, isRf_25, isRf_26, isRf_27, isRf_28, k_X12_rests_0, k_X12_rests_1, k_X12_rests_2, k_X12_rests_5, k_X12_rests_6, k_X12_rests_7, k_X12_rests_8, k_X12_rests_9, k_X12_rests_12, k_X12_rests_15, k_X12_rests_17, k_X12_rests_18, k_X12_rests_21, k_X12_rests_22, k_X12_rests_23, k_X12_rests_24, k_X12_rests_27, k_X12_rests_29, k_X12_rests_30, k_X12_rests_32, k_X12_rests_34, k_X12_rests_35, k_X12_rests_37, k_X12_rests_38, k_X12_rests_40, k_X12_rests_41, k_X12_rests_44, k_X12_rests_45, k_X12_rests_48, k_X12_rests_50, k_X12_rests_51, k_X12_rests_52, k_X12_rests_53, k_X12_rests_54, k_X12_rests_56, k_X12_rests_57, k_X12_rests_58, k_X12_rests_60, k_X12_rests_61, k_X12_rests_63, k_X12_rests_64, k_X12_rests_65, k_X12_rests_67, k_X12_rests_68, k_X12_rests_70, k_X12_rests_71, k_X12_rests_72, k_X12_rests_75, k_X12_rests_76, k_X12_rests_79, k_X12_rests_82, k_X12_rests_83, k_X12_rests_85, k_X12_rests_86, k_X12_rests_88, k_X12_rests_90, k_X12_rests_92, k_X12_rests_95, k_X12_rests_96, k_X12_rests_98, k_X12_rests_100, k_X12_rests_102, k_X12_rests_105, k_X12_rests_106, k_X12_rests_108, k_X12_rests_109, k_X12_rests_111, k_X12_rests_113, k_X12_rests_115, k_X12_rests_118, k_X12_rests_120, k_X12_rests_123, k_X12_rests_124, k_X12_rests_127, k_X12_rests_128, k_X12_rests_130, k_X12_rests_132, k_X12_rests_133, k_X12_rests_135, k_X12_rests_136, k_X12_rests_137, k_X12_rests_138, k_X12_rests_139, k_X12_rests_142, k_X12_rests_143, k_X12_rests_145, k_X12_rests_147, k_X12_rests_148, k_X12_rests_150, k_X12_rests_151, k_X12_rests_152, k_X12_rests_153, k_X12_rests_156, k_X12_rests_157, k_X12_rests_160, k_X12_rests_161, k_X12_rests_163, k_X12_rests_165, k_X12_rests_166, k_X12_rests_168, k_X12_rests_169, k_X12_rests_170, k_X12_rests_171, k_X12_rests_172, k_X12_rests_173, k_X12_rests_174, k_X12_rests_177, k_X12_rests_178, k_X12_rests_180, k_X12_rests_182, k_X12_rests_183, k_X12_rests_185, k_X12_rests_186, k_X12_rests_187, k_X12_rests_188, k_X12_rests_189, k_X12_rests_190, k_X12_rests_193, k_X12_rests_194, k_X12_rests_197, k_X12_rests_198, k_X12_rests_200, k_X12_rests_203, k_X12_rests_206, k_X12_rests_208, k_X12_rests_211, k_X12_rests_214, k_X12_rests_216, k_X12_rests_218, k_X12_rests_221, k_X12_rests_223, k_X12_rests_225, k_X12_rests_226, k_X12_rests_228, k_X12_rests_229, k_X12_rests_230, k_X12_rests_233, k_X12_rests_236, k_X12_rests_239, k_X12_rests_242, k_X12_rests_245, k_X12_rests_247, k_X12_rests_248, k_X12_rests_251, k_X12_rests_253, k_X12_rests_256, k_X12_rests_257, w_X12_gameOf_e, w_X12_isGame_e, e28, e29, e30, eg]
    repeat' (first | apply And.intro | intro _)
    all_goals first | omega | exact absurd trivial (by assumption) | exact q8 (fun z => absurd z.1 (by assumption)) | exact q8 (fun z => by omega) | exact i9 (by assumption) (by omega) | exact ⟨by omega, by omega⟩
