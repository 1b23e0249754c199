theorem A : True := True.intro
theorem B : True := True.intro
theorem G : True := True.intro
theorem K : True := True.intro
theorem M : True := True.intro
theorem N : True := True.intro
theorem N4 : True := True.intro
theorem P : True := True.intro
theorem R : True := True.intro
theorem S : True := True.intro
theorem S0 : True := True.intro
theorem X : True := True.intro
theorem a : True := True.intro
theorem a0 : True := True.intro
theorem a1 : True := True.intro
theorem b : True := True.intro
theorem c : True := True.intro
theorem c0 : True := True.intro
theorem c1 : True := True.intro
theorem c2 : True := True.intro
theorem c3 : True := True.intro
theorem c4 : True := True.intro
theorem cN : True := True.intro
theorem cost : True := True.intro
theorem d : True := True.intro
theorem d0 : True := True.intro
theorem d1 : True := True.intro
theorem d9 : True := True.intro
theorem e : True := True.intro
theorem e0 : True := True.intro
theorem e1 : True := True.intro
theorem e2 : True := True.intro
theorem e22 : True := True.intro
theorem e23 : True := True.intro
theorem e3 : True := True.intro
theorem e4 : True := True.intro
theorem e5 : True := True.intro
theorem e9 : True := True.intro
theorem ex : True := True.intro
theorem f0 : True := True.intro
theorem f1 : True := True.intro
theorem f2 : True := True.intro
theorem f3 : True := True.intro
theorem f6 : True := True.intro
theorem f9 : True := True.intro
theorem ff : True := True.intro
theorem found : True := True.intro
theorem g3 : True := True.intro
theorem g5 : True := True.intro
theorem gm : True := True.intro
theorem hB : True := True.intro
theorem hN : True := True.intro
theorem hS : True := True.intro
theorem hT : True := True.intro
theorem ha : True := True.intro
theorem hb : True := True.intro
theorem hc : True := True.intro
theorem hd : True := True.intro
theorem hi : True := True.intro
theorem hid : True := True.intro
theorem hm : True := True.intro
theorem i : True := True.intro
theorem i0 : True := True.intro
theorem i1 : True := True.intro
theorem i8 : True := True.intro
theorem i9 : True := True.intro
theorem ih : True := True.intro
theorem j : True := True.intro
theorem k : True := True.intro
theorem k0 : True := True.intro
theorem k1 : True := True.intro
theorem k2 : True := True.intro
theorem k3 : True := True.intro
theorem key : True := True.intro
theorem lo : True := True.intro
theorem m : True := True.intro
theorem m9 : True := True.intro
theorem mv : True := True.intro
theorem n : True := True.intro
theorem n0 : True := True.intro
theorem n1 : True := True.intro
theorem n28 : True := True.intro
theorem n30 : True := True.intro
theorem n6 : True := True.intro
theorem ob : True := True.intro
theorem only : True := True.intro
theorem own : True := True.intro
theorem p : True := True.intro
theorem p0 : True := True.intro
theorem p1 : True := True.intro
theorem p5 : True := True.intro
theorem p6 : True := True.intro
theorem q : True := True.intro
theorem q1 : True := True.intro
theorem q2 : True := True.intro
theorem q3 : True := True.intro
theorem q7 : True := True.intro
theorem q8 : True := True.intro
theorem r1 : True := True.intro
theorem rd : True := True.intro
theorem s : True := True.intro
theorem s0 : True := True.intro
theorem s1 : True := True.intro
theorem s2 : True := True.intro
theorem s3 : True := True.intro
theorem s4 : True := True.intro
theorem same : True := True.intro
theorem sb : True := True.intro
theorem st : True := True.intro
theorem t : True := True.intro
theorem t0 : True := True.intro
theorem t1 : True := True.intro
theorem t2 : True := True.intro
theorem t3 : True := True.intro
theorem tb : True := True.intro
theorem toN : True := True.intro
theorem u : True := True.intro
theorem v : True := True.intro
theorem v0 : True := True.intro
theorem w : True := True.intro
theorem w0 : True := True.intro
theorem w1 : True := True.intro
theorem w2 : True := True.intro
theorem x0 : True := True.intro
theorem x1 : True := True.intro
theorem xi : True := True.intro
theorem y : True := True.intro
theorem z : True := True.intro
/-! the reference reads SEASONS: season 5013 (the one read: from 192 on), seasonLong 5014 (4) -/
theorem u10_rd (σ : Mem) (v : Int) : up σ 5000 10 v = rdM σ v (σ 5000 11) (σ 5000 12) := by
  have := rd_u10 σ (σ 5000 10) (σ 5000 11) (σ 5000 12) v
  rw [rd_id] at this; exact this
theorem mtx_u10 {σ : Mem} (h : txOk σ) (v : Int) : mtx (up σ 5000 10 v) = mtx σ := by rw [u10_rd, mtx_rd h]
theorem txOk_u10 {σ : Mem} (h : txOk σ) (v : Int) : txOk (up σ 5000 10 v) := by rw [u10_rd]; exact txOk_rd h _ _ _

def a_X12_digit : AC := [(0, vAload 0 1), (1, vCallM w_X12_look 28 0 4), (4, vIstore 1 5), (5, vAload 0 6), (6, vCallM w_X12_isDigit 28 0 9), (9, vIfNe 19 12), (12, vAload 0 13), (13, vCallM w_X12_fails 28 0 16), (16, vPop 17), (17, vI 0 18), (18, vIret), (19, vAload 0 20), (20, vDup 21), (21, vGetI 28 10 24), (24, vI 1 25), (25, vIadd 26), (26, vPutI 28 10 29), (29, vIload 1 30), (30, vI 48 32), (32, vIsub 33), (33, vIret)]
theorem k_X12_digit_0 : look a_X12_digit 0 = vAload 0 1 := rfl
theorem k_X12_digit_1 : look a_X12_digit 1 = vCallM w_X12_look 28 0 4 := rfl
theorem k_X12_digit_4 : look a_X12_digit 4 = vIstore 1 5 := rfl
theorem k_X12_digit_5 : look a_X12_digit 5 = vAload 0 6 := rfl
theorem k_X12_digit_6 : look a_X12_digit 6 = vCallM w_X12_isDigit 28 0 9 := rfl
theorem k_X12_digit_9 : look a_X12_digit 9 = vIfNe 19 12 := rfl
theorem k_X12_digit_12 : look a_X12_digit 12 = vAload 0 13 := rfl
theorem k_X12_digit_13 : look a_X12_digit 13 = vCallM w_X12_fails 28 0 16 := rfl
theorem k_X12_digit_16 : look a_X12_digit 16 = vPop 17 := rfl
theorem k_X12_digit_17 : look a_X12_digit 17 = vI 0 18 := rfl
theorem k_X12_digit_18 : look a_X12_digit 18 = vIret := rfl
theorem k_X12_digit_19 : look a_X12_digit 19 = vAload 0 20 := rfl
theorem k_X12_digit_20 : look a_X12_digit 20 = vDup 21 := rfl
theorem k_X12_digit_21 : look a_X12_digit 21 = vGetI 28 10 24 := rfl
theorem k_X12_digit_24 : look a_X12_digit 24 = vI 1 25 := rfl
theorem k_X12_digit_25 : look a_X12_digit 25 = vIadd 26 := rfl
theorem k_X12_digit_26 : look a_X12_digit 26 = vPutI 28 10 29 := rfl
theorem k_X12_digit_29 : look a_X12_digit 29 = vIload 1 30 := rfl
theorem k_X12_digit_30 : look a_X12_digit 30 = vI 48 32 := rfl
theorem k_X12_digit_32 : look a_X12_digit 32 = vIsub 33 := rfl
theorem k_X12_digit_33 : look a_X12_digit 33 = vIret := rfl
theorem o_X12_digit {X : amX} (e1 : XT X = TT) (e2 : XD X = 1) (hB : amB X RX12 cX12_digit (some .int) 2) : ∀ pc, amOK X pc (look a_X12_digit pc) := by
  have hT : amTok (XT X) := e1 ▸ TT_ok
  refine look_ok ?_
  unfold a_X12_digit
  refine fc (ok_aload_n hB dX12_digit_0) ?_
  refine fc (ok_callM hB hT (e1 ▸ s_X12_look) lk_X12_153 (by rw [e2]; decide) (c := 12) rfl rfl rfl wd_1521 sl_X12_look dX12_digit_1) ?_
  refine fc (ok_istore_n hB (by decide) dX12_digit_4) ?_
  refine fc (ok_aload_n hB dX12_digit_5) ?_
  refine fc (ok_callM hB hT (e1 ▸ s_X12_isDigit) lk_X12_183 (by rw [e2]; decide) (c := 12) rfl rfl rfl wd_1552 sl_X12_isDigit dX12_digit_6) ?_
  refine fc (ok_if_ne hB (t := 19) (by decide) dX12_digit_9) ?_
  refine fc (ok_aload_n hB dX12_digit_12) ?_
  refine fc (ok_callM hB hT (e1 ▸ s_X12_fails) lk_X12_149 (by rw [e2]; decide) (c := 12) rfl rfl rfl wd_1525 sl_X12_fails dX12_digit_13) ?_
  refine fc (ok_pop hB dX12_digit_16) ?_
  refine fc (ok_iconst hB dX12_digit_17) ?_
  refine fc (ok_iret hB dX12_digit_18) ?_
  refine fc (ok_aload_n hB dX12_digit_19) ?_
  refine fc (ok_dup hB dX12_digit_20) ?_
  refine fc (ok_getI hB hT fl_X12_134 rfl rfl (Or.inl af_12_10) dX12_digit_21) ?_
  refine fc (ok_iconst hB dX12_digit_24) ?_
  refine fc (ok_iadd hB dX12_digit_25) ?_
  refine fc (ok_putI hB hT fp_X12_134 rfl rfl rfl af_12_10 dX12_digit_26) ?_
  refine fc (ok_iload_n hB dX12_digit_29) ?_
  refine fc (ok_bipush hB dX12_digit_30 (by decide)) ?_
  refine fc (ok_isub hB dX12_digit_32) ?_
  refine fc (ok_iret hB dX12_digit_33) ?_
  exact fn

def w_X12_digit : WP := fun av σ Q => av = [(28, 5000)] ∧ (txOk σ ∧ 0 ≤ σ 5000 10 ∧ σ 5000 10 ≤ σ 5000 9 ∧ InR (σ 5000 11) ∧ (48 ≤ mtx σ (msk σ) ∧ mtx σ (msk σ) ≤ 57 → Q (0, mtx σ (msk σ) - 48) (up σ 5000 10 (msk σ + 1))) ∧ (¬ (48 ≤ mtx σ (msk σ) ∧ mtx σ (msk σ) ≤ 57) → Q (0, 0) (faM (up σ 5000 10 (msk σ)))))
theorem w_X12_digit_e  (σ : Mem) (Q : AV → Mem → Prop) : w_X12_digit [(28, 5000)] σ Q = (txOk σ ∧ 0 ≤ σ 5000 10 ∧ σ 5000 10 ≤ σ 5000 9 ∧ InR (σ 5000 11) ∧ (48 ≤ mtx σ (msk σ) ∧ mtx σ (msk σ) ≤ 57 → Q (0, mtx σ (msk σ) - 48) (up σ 5000 10 (msk σ + 1))) ∧ (¬ (48 ≤ mtx σ (msk σ) ∧ mtx σ (msk σ) ≤ 57) → Q (0, 0) (faM (up σ 5000 10 (msk σ))))) := by
  apply propext; constructor
  · rintro ⟨h9, hb9⟩; cases h9; exact hb9
  · intro hb9; exact ⟨rfl, hb9⟩

set_option maxRecDepth 100000 in
set_option maxHeartbeats 4000000 in
theorem s_X12_digit : ∀ av σ Q, w_X12_digit av σ Q → amCall 1 0 0 TT yX12_digit cX12_digit 2 (some .int) av σ Q := by
  rintro av σ Q ⟨rfl, ht, h0, h1, hf, hq1, hq2⟩
  have hsb : σ 5000 10 ≤ msk σ ∧ msk σ ≤ σ 5000 9 := sk_b (mtx σ) h1
  have tb := mtx_b ht (msk σ)
  have n1 := ht.2.1
  have et : ∀ v, mtx (up σ 5000 10 v) = mtx σ := fun v => mtx_u10 ht v
  have hto := txOk_u10 ht (msk σ)
  have u9 : ∀ v, up σ 5000 10 v 5000 9 = σ 5000 9 := fun v => up_nj _ (by decide)
  have u11 : ∀ v, up σ 5000 10 v 5000 11 = σ 5000 11 := fun v => up_nj _ (by decide)
  generalize hg : msk σ = p at *
  by_cases c : 48 ≤ mtx σ p ∧ mtx σ p ≤ 57
  · have q8 := hq1 c
    refine am_m0 (own := RX12) (A := look a_X12_digit) (fun X e1 e2 hB => o_X12_digit e1 e2 hB) rfl (by decide +kernel) rfl rfl 190 (w := 2) ?_
    change vcs _ _ _ _ 190 0 [(28, 5000), (6, 0)] [] σ
    simp only [↓reduceIte, inR_0, inR_1, inR_m, vSw2_e, swP_n, swP_c, vI_e, vL_e, vNull_e, vIload_e, vLload_e, vAload_e, vIstore_e, vLstore_e, vAstore_e, vIinc_e, vIadd_e, vIsub_e, vImul_e, vIand_e, vIor_e, vIxor_e, vIshl_e, vIshr_e, vIushr_e, vIdiv_e, vIrem_e, vLadd_e, vLsub_e, vLmul_e, vLand_e, vLor_e, vLxor_e, vLdiv_e, vLrem_e, vLushr_e, vLshl_e, vLcmp_e, vIneg_e, vI2l_e, vL2i_e, vI2b_e, vI2c_e, vDup_e, vPop_e, vDup2_e, vGoto_e, vIcEq_e, vIfEq_e, vIcNe_e, vIfNe_e, vIcLt_e, vIfLt_e, vIcGe_e, vIfGe_e, vIcGt_e, vIfGt_e, vIcLe_e, vIfLe_e, vNonnull_e, vSw_e, vGetI_e, vGetL_e, vGetR_e, vPutI_e, vPutZ_e, vPutL_e, vPutR_e, vIald_e, vIald_s, vLald_e, vBald_e, vBald_s, vAald_e, vIast_e, vLast_e, vBast_e, vAast_e, vAlen_e8, vAlen_e9, vAlen_e10, vAlen_e11, vAlen_e5, vAlen_e3, vGets_e, vCompact_e, vLdcS_e, vIret_e, vZret_e, vCret_e, vBret_e, vLret_e, vVret_e, vAret_e, vCallM_e0, vCallMV_e0, vCallS_e0, vCallSV_e0, vCallM_e1, vCallMV_e1, vCallS_e1, vCallSV_e1, vCallM_e2, vCallMV_e2, vCallS_e2, vCallSV_e2, vCallM_e3, vCallMV_e3, vCallS_e3, vCallSV_e3, vCallM_e4, vCallMV_e4, vCallS_e4, vCallSV_e4, vCallM_e5, vCallMV_e5, vCallS_e5, vCallSV_e5, vCallM_e6, vCallMV_e6, vCallS_e6, vCallSV_e6, vCallM_e7, vCallMV_e7, vCallS_e7, vCallSV_e7, vBad_e, vStrVal_e, vStrCod_e, vForm_e, vCallT_e0, vCallT_e1, vCallT_e2, vCopy_e, rf_0_0, rf_0_1, rf_0_2, rf_0_3, rf_0_4, rf_0_7, rf_0_10, rf_0_11, rf_0_12, rf_0_13, rf_0_14, rf_0_15, rf_0_16, rf_1_0, rf_3_0, rf_3_1, rf_6_0, rf_6_1, rf_9_0, rf_9_1, rf_9_3, rf_13_0, rf_13_1, rf_13_2, rf_16_0, rf_16_1, rf_16_2, rf_16_3, rf_21_0, rf_21_1, rf_21_2, rf_21_3, rf_26_0, rf_26_1, rf_26_2, rf_26_3, rf_26_4, rf_26_5, rf_26_6, rf_31_0, rf_31_2, rf_31_5, rf_31_6, rf_36_0, rf_36_1, rf_36_2, rf_36_3, rf_39_0, rf_39_1, rf_39_2, rf_41_0, rf_41_1, rf_41_2, rf_41_3, rf_5000_1, rf_5000_2, rf_5000_3, rf_5000_4, rf_5000_5, rf_5000_15, rf_5000_16, rf_5000_18, rf_5000_19, rf_5000_20, rf_5000_21, rf_5000_22, rf_5000_23, rf_5000_24, rf_5000_25, rf_5000_26, rf_5000_27, rf_5000_36, rf_5000_37, rf_5000_40, rf_5000_41, rf_5000_42, rf_5000_43, rf_5000_44, rf_5000_45, rf_5000_47, rf_5000_52, rf_5000_54, rf_5000_55, rf_100_0, rf_100_1, rf_103_0, rf_103_1, rf_106_0, rf_106_1, rf_109_0, rf_109_1, al_2, al_4, al_5, al_7, al_8, al_10, al_11, al_12, al_14, al_15, al_17, al_18, al_19, al_20, al_22, al_23, al_24, al_25, al_27, al_28, al_29, al_30, al_32, al_33, al_34, al_35, al_37, al_38, al_40, al_42, al_5001, al_5002, al_5003, al_5004, al_5005, al_5006, al_5007, al_5008, al_5009, al_5010, al_5011, al_5012, al_5013, al_5014, al_5015, al_5016, al_5017, al_5018, al_5019, al_5020, al_5021, al_5022, al_5023, al_5024, al_5025, al_5026, al_9000, al_101, al_102, al_104, al_105, al_107, al_108, al_110, al_111, vcs_e, lg_c0, lg_cs, lg_nil, set_c0, set_cs, okst_0, okst_s, acok_n, acok_c, List.contains_nil, List.contains_cons, Bool.or_false, Bool.false_or, Bool.false_eq_true, if_false, if_true, ite_self, ne_eq, true_and, and_true, not_false_eq_true, not_true_eq_false, false_imp_iff, true_imp_iff, Nat.ble_eq, Bool.and_eq_true, reduceCtorEq, or_false, false_or, or_true, true_or, false_and, and_false, and_self, Int.reduceLE, Int.reduceAdd, Int.reduceSub, Int.reduceMul, Int.reduceNeg, Int.reduceLT, Int.reduceEq, Int.reduceNe, Nat.reduceBEq, Nat.reduceBNe, Nat.reduceEqDiff, amCmp_in, amCmp_lt, amCmp_le, amCmp_gt, amCmp_ge, amCmp_eq, amCmp_ne, Nat.reduceLeDiff, Nat.reduceSub, Bool.and_true, Bool.true_and, Bool.and_self, Bool.or_true, Bool.true_or, isRf_3, isRf_4, isRf_5, isRf_8, isRf_9, isRf_10, isRf_11, isRf_15, isRf_16, isRf_17, isRf_18, isRf_19, isRf_20, isRf_21, isRf_22, isRf_23, isRf_24, isRf_25, isRf_26, isRf_27, isRf_28, k_X12_digit_0, k_X12_digit_1, k_X12_digit_4, k_X12_digit_5, k_X12_digit_6, k_X12_digit_9, k_X12_digit_12, k_X12_digit_13, k_X12_digit_16, k_X12_digit_17, k_X12_digit_18, k_X12_digit_19, k_X12_digit_20, k_X12_digit_21, k_X12_digit_24, k_X12_digit_25, k_X12_digit_26, k_X12_digit_29, k_X12_digit_30, k_X12_digit_32, k_X12_digit_33, w_X12_fails_e, w_X12_isDigit_e, w_X12_look_e, up_s, up_nj, up_na, up_up, savR_o, cpy_o, fillm_o, setAud_o, setv_o, setv_s, Int.reduceNe, Int.reduceEq, Int.reduceLT, Int.reduceAdd, not_false_eq_true, ne_eq, or_true, true_or, hg, et, u9, u11, up_s, up_up, if_pos c]
    repeat' (first | assumption | exact ht | exact hto | apply And.intro | intro _)
    all_goals first | omega | exact absurd trivial (by assumption) | exact q8 | skip
  · have q8 := hq2 c
    refine am_m0 (own := RX12) (A := look a_X12_digit) (fun X e1 e2 hB => o_X12_digit e1 e2 hB) rfl (by decide +kernel) rfl rfl 190 (w := 2) ?_
    change vcs _ _ _ _ 190 0 [(28, 5000), (6, 0)] [] σ
    simp only [↓reduceIte, inR_0, inR_1, inR_m, vSw2_e, swP_n, swP_c, vI_e, vL_e, vNull_e, vIload_e, vLload_e, vAload_e, vIstore_e, vLstore_e, vAstore_e, vIinc_e, vIadd_e, vIsub_e, vImul_e, vIand_e, vIor_e, vIxor_e, vIshl_e, vIshr_e, vIushr_e, vIdiv_e, vIrem_e, vLadd_e, vLsub_e, vLmul_e, vLand_e, vLor_e, vLxor_e, vLdiv_e, vLrem_e, vLushr_e, vLshl_e, vLcmp_e, vIneg_e, vI2l_e, vL2i_e, vI2b_e, vI2c_e, vDup_e, vPop_e, vDup2_e, vGoto_e, vIcEq_e, vIfEq_e, vIcNe_e, vIfNe_e, vIcLt_e, vIfLt_e, vIcGe_e, vIfGe_e, vIcGt_e, vIfGt_e, vIcLe_e, vIfLe_e, vNonnull_e, vSw_e, vGetI_e, vGetL_e, vGetR_e, vPutI_e, vPutZ_e, vPutL_e, vPutR_e, vIald_e, vIald_s, vLald_e, vBald_e, vBald_s, vAald_e, vIast_e, vLast_e, vBast_e, vAast_e, vAlen_e8, vAlen_e9, vAlen_e10, vAlen_e11, vAlen_e5, vAlen_e3, vGets_e, vCompact_e, vLdcS_e, vIret_e, vZret_e, vCret_e, vBret_e, vLret_e, vVret_e, vAret_e, vCallM_e0, vCallMV_e0, vCallS_e0, vCallSV_e0, vCallM_e1, vCallMV_e1, vCallS_e1, vCallSV_e1, vCallM_e2, vCallMV_e2, vCallS_e2, vCallSV_e2, vCallM_e3, vCallMV_e3, vCallS_e3, vCallSV_e3, vCallM_e4, vCallMV_e4, vCallS_e4, vCallSV_e4, vCallM_e5, vCallMV_e5, vCallS_e5, vCallSV_e5, vCallM_e6, vCallMV_e6, vCallS_e6, vCallSV_e6, vCallM_e7, vCallMV_e7, vCallS_e7, vCallSV_e7, vBad_e, vStrVal_e, vStrCod_e, vForm_e, vCallT_e0, vCallT_e1, vCallT_e2, vCopy_e, rf_0_0, rf_0_1, rf_0_2, rf_0_3, rf_0_4, rf_0_7, rf_0_10, rf_0_11, rf_0_12, rf_0_13, rf_0_14, rf_0_15, rf_0_16, rf_1_0, rf_3_0, rf_3_1, rf_6_0, rf_6_1, rf_9_0, rf_9_1, rf_9_3, rf_13_0, rf_13_1, rf_13_2, rf_16_0, rf_16_1, rf_16_2, rf_16_3, rf_21_0, rf_21_1, rf_21_2, rf_21_3, rf_26_0, rf_26_1, rf_26_2, rf_26_3, rf_26_4, rf_26_5, rf_26_6, rf_31_0, rf_31_2, rf_31_5, rf_31_6, rf_36_0, rf_36_1, rf_36_2, rf_36_3, rf_39_0, rf_39_1, rf_39_2, rf_41_0, rf_41_1, rf_41_2, rf_41_3, rf_5000_1, rf_5000_2, rf_5000_3, rf_5000_4, rf_5000_5, rf_5000_15, rf_5000_16, rf_5000_18, rf_5000_19, rf_5000_20, rf_5000_21, rf_5000_22, rf_5000_23, rf_5000_24, rf_5000_25, rf_5000_26, rf_5000_27, rf_5000_36, rf_5000_37, rf_5000_40, rf_5000_41, rf_5000_42, rf_5000_43, rf_5000_44, rf_5000_45, rf_5000_47, rf_5000_52, rf_5000_54, rf_5000_55, rf_100_0, rf_100_1, rf_103_0, rf_103_1, rf_106_0, rf_106_1, rf_109_0, rf_109_1, al_2, al_4, al_5, al_7, al_8, al_10, al_11, al_12, al_14, al_15, al_17, al_18, al_19, al_20, al_22, al_23, al_24, al_25, al_27, al_28, al_29, al_30, al_32, al_33, al_34, al_35, al_37, al_38, al_40, al_42, al_5001, al_5002, al_5003, al_5004, al_5005, al_5006, al_5007, al_5008, al_5009, al_5010, al_5011, al_5012, al_5013, al_5014, al_5015, al_5016, al_5017, al_5018, al_5019, al_5020, al_5021, al_5022, al_5023, al_5024, al_5025, al_5026, al_9000, al_101, al_102, al_104, al_105, al_107, al_108, al_110, al_111, vcs_e, lg_c0, lg_cs, lg_nil, set_c0, set_cs, okst_0, okst_s, acok_n, acok_c, List.contains_nil, List.contains_cons, Bool.or_false, Bool.false_or, Bool.false_eq_true, if_false, if_true, ite_self, ne_eq, true_and, and_true, not_false_eq_true, not_true_eq_false, false_imp_iff, true_imp_iff, Nat.ble_eq, Bool.and_eq_true, reduceCtorEq, or_false, false_or, or_true, true_or, false_and, and_false, and_self, Int.reduceLE, Int.reduceAdd, Int.reduceSub, Int.reduceMul, Int.reduceNeg, Int.reduceLT, Int.reduceEq, Int.reduceNe, Nat.reduceBEq, Nat.reduceBNe, Nat.reduceEqDiff, amCmp_in, amCmp_lt, amCmp_le, amCmp_gt, amCmp_ge, amCmp_eq, amCmp_ne, Nat.reduceLeDiff, Nat.reduceSub, Bool.and_true, Bool.true_and, Bool.and_self, Bool.or_true, Bool.true_or, isRf_3, isRf_4, isRf_5, isRf_8, isRf_9, isRf_10, isRf_11, isRf_15, isRf_16, isRf_17, isRf_18, isRf_19, isRf_20, isRf_21, isRf_22, isRf_23, isRf_24, isRf_25, isRf_26, isRf_27, isRf_28, k_X12_digit_0, k_X12_digit_1, k_X12_digit_4, k_X12_digit_5, k_X12_digit_6, k_X12_digit_9, k_X12_digit_12, k_X12_digit_13, k_X12_digit_16, k_X12_digit_17, k_X12_digit_18, k_X12_digit_19, k_X12_digit_20, k_X12_digit_21, k_X12_digit_24, k_X12_digit_25, k_X12_digit_26, k_X12_digit_29, k_X12_digit_30, k_X12_digit_32, k_X12_digit_33, w_X12_fails_e, w_X12_isDigit_e, w_X12_look_e, up_s, up_nj, up_na, up_up, savR_o, cpy_o, fillm_o, setAud_o, setv_o, setv_s, Int.reduceNe, Int.reduceEq, Int.reduceLT, Int.reduceAdd, not_false_eq_true, ne_eq, or_true, true_or, hg, et, u9, u11, up_s, up_up, if_neg c]
    repeat' (first | assumption | exact ht | exact hto | apply And.intro | intro _)
    all_goals first | omega | exact absurd trivial (by assumption) | exact q8
/-- while a SEASON is read -/
def seM (m : Mem) (p f : Int) (v : Int → Int) : Mem := fun b j => if b = 5013 ∧ 192 ≤ j ∧ j < 240 then v (j - 192) else rdM m p f (m 5000 12) b j
theorem se_5 (m : Mem) (p f : Int) (v : Int → Int) : seM m p f v 5000 = rdM m p f (m 5000 12) 5000 := by
  funext j; unfold seM; rw [if_neg (by omega)]
theorem se_10 (m : Mem) (p f : Int) (v : Int → Int) : seM m p f v 5000 10 = p := by rw [se_5]; exact rd_10 _ _ _ _
theorem se_11 (m : Mem) (p f : Int) (v : Int → Int) : seM m p f v 5000 11 = f := by rw [se_5]; exact rd_11 _ _ _ _
theorem se_9 (m : Mem) (p f : Int) (v : Int → Int) : seM m p f v 5000 9 = m 5000 9 := by rw [se_5]; exact rd_9 _ _ _ _
theorem se_k (m : Mem) (p f : Int) (v : Int → Int) {k : Int} (h : k < 10 ∨ 12 < k) : seM m p f v 5000 k = m 5000 k := by rw [se_5]; exact rd_o _ _ _ _ h
theorem se_o (m : Mem) (p f : Int) (v : Int → Int) {b : Int} (h : b ≠ 5000) (h' : b ≠ 5013) : seM m p f v b = m b := by
  funext j; unfold seM; rw [if_neg (fun q => h' q.1), rd_r m p f _ h]
theorem se_13 (m : Mem) (p f : Int) (v : Int → Int) {k : Int} (h0 : 0 ≤ k) (h1 : k < 48) : seM m p f v 5013 (192 + k) = v k := by
  unfold seM; rw [if_pos ⟨rfl, by omega, by omega⟩]; congr 1; omega
theorem se_13o (m : Mem) (p f : Int) (v : Int → Int) {j : Int} (h : j < 192) : seM m p f v 5013 j = m 5013 j := by
  unfold seM; rw [if_neg (by omega), rd_r m p f _ (by decide)]
theorem se_u10 (m : Mem) (p f x : Int) (v : Int → Int) : up (seM m p f v) 5000 10 x = seM m x f v := by
  funext b j; unfold up seM rdM; (repeat' split) <;> first | rfl | omega
theorem se_u11 (m : Mem) (p f x : Int) (v : Int → Int) : up (seM m p f v) 5000 11 x = seM m p x v := by
  funext b j; unfold up seM rdM; (repeat' split) <;> first | rfl | omega
theorem se_w (m : Mem) (p f x : Int) (v : Int → Int) {k : Int} (h0 : 192 ≤ k) (h1 : k < 240) : up (seM m p f v) 5013 k x = seM m p f (upf v (k - 192) x) := by
  funext b j; unfold up seM upf
  by_cases h : b = 5013 ∧ j = k
  · rw [if_pos h, if_pos ⟨h.1, by omega, by omega⟩, if_pos (by omega)]
  · rw [if_neg h]
    by_cases h2 : b = 5013 ∧ 192 ≤ j ∧ j < 240
    · rw [if_pos h2, if_pos h2, if_neg (by omega)]
    · rw [if_neg h2, if_neg h2]
theorem se_fa (m : Mem) (p : Int) (v : Int → Int) : faM (seM m p (-1) v) = seM m p p v := by
  unfold faM; rw [if_pos (se_11 _ _ _ _), se_10, se_u11]
theorem se_tx {m : Mem} (h : txOk m) (p f : Int) (v : Int → Int) : mtx (seM m p f v) = mtx m ∧ txOk (seM m p f v) := by
  have hT := tx_T h
  have e5 := se_k m p f v (k := 5) (by decide)
  have e8 := se_k m p f v (k := 8) (by decide)
  constructor
  · funext i; unfold mtx; rw [se_9, e5, e8, se_o m p f v (by omega) (by omega)]
  · unfold txOk; rw [se_9, e5, e8, se_o m p f v (by omega) (by omega)]; exact h
theorem upf_upf (v : Int → Int) (k x y : Int) : upf (upf v k x) k y = upf v k y := by
  funext j; unfold upf; split <;> rfl
theorem fidx_m1 : fidx (stv 20103) (-1) 0 3 = -1 := by decide
theorem stv_exi : stv 20110 = stv 20103 := rfl
theorem stl_exi : stl 20110 = 3 := rfl
theorem wd_1533 : Cond.methodLink RX12 240 yX12_spotOf ∈ TBL := tb_tab (List.mem_of_getElem? (i := 1533) (by decide +kernel)) rfl
theorem wd_1535 : Cond.code yX12_spotOf cX12_spotOf 3 (some .int) ∈ TBL := tb_tab (List.mem_of_getElem? (i := 1535) (by decide +kernel)) rfl
theorem lk_X12_240 : amLk RX12 240 yX12_spotOf cX12_spotOf 3 (some .int) 2 := ⟨wd_1533, wd_12, wd_1535, by decide +kernel, by decide +kernel, by decide⟩
theorem wd_1534 : Cond.static yX12_spotOf ∈ TBL := tb_tab (List.mem_of_getElem? (i := 1534) (by decide +kernel)) rfl
theorem wd_1633 : Cond.methodLink RX12 289 yX12_digit ∈ TBL := tb_tab (List.mem_of_getElem? (i := 1633) (by decide +kernel)) rfl
theorem wd_1636 : Cond.code yX12_digit cX12_digit 2 (some .int) ∈ TBL := tb_tab (List.mem_of_getElem? (i := 1636) (by decide +kernel)) rfl
theorem lk_X12_289 : amLk RX12 289 yX12_digit cX12_digit 2 (some .int) 0 := ⟨wd_1633, wd_12, wd_1636, by decide +kernel, by decide +kernel, by decide⟩
theorem wd_1635 : Cond.instanceMethod yX12_digit ∈ TBL := tb_tab (List.mem_of_getElem? (i := 1635) (by decide +kernel)) rfl
theorem sl_X12_digit : Cond.selects RX12 yX12_digit yX12_digit ∈ TBL := tb_sel (List.mem_of_getElem? (i := 71) (by decide +kernel)) rfl
def a_X12_readStep : AC := [(0, vLdcS 20010 3), (3, vAload 0 4), (4, vCallM w_X12_look 28 0 7), (7, vCallS w_X12_spotOf 2 10), (10, vIstore 2 11), (11, vIload 2 12), (12, vI (-1) 13), (13, vIcNe 22 16), (16, vAload 0 17), (17, vCallM w_X12_fails 28 0 20), (20, vPop 21), (21, vVret), (22, vAload 0 23), (23, vDup 24), (24, vGetI 28 10 27), (27, vI 1 28), (28, vIadd 29), (29, vPutI 28 10 32), (32, vAload 0 33), (33, vGetR TT 28 26 8 36), (36, vIload 1 37), (37, vIload 2 38), (38, vIast TT 39), (39, vAload 0 40), (40, vGetR TT 28 26 8 43), (43, vIload 1 44), (44, vI 1 45), (45, vIadd 46), (46, vAload 0 47), (47, vCallM w_X12_digit 28 0 50), (50, vIast TT 51), (51, vAload 0 52), (52, vGetR TT 28 26 8 55), (55, vIload 1 56), (56, vI 2 57), (57, vIadd 58), (58, vI (-1) 59), (59, vIast TT 60), (60, vAload 0 61), (61, vGetI 28 11 64), (64, vI (-1) 65), (65, vIcNe 85 68), (68, vIload 2 69), (69, vI 1 70), (70, vIcNe 85 73), (73, vAload 0 74), (74, vGetR TT 28 26 8 77), (77, vIload 1 78), (78, vI 2 79), (79, vIadd 80), (80, vAload 0 81), (81, vCallM w_X12_digit 28 0 84), (84, vIast TT 85), (85, vVret)]
theorem k_X12_readStep_0 : look a_X12_readStep 0 = vLdcS 20010 3 := rfl
theorem k_X12_readStep_3 : look a_X12_readStep 3 = vAload 0 4 := rfl
theorem k_X12_readStep_4 : look a_X12_readStep 4 = vCallM w_X12_look 28 0 7 := rfl
theorem k_X12_readStep_7 : look a_X12_readStep 7 = vCallS w_X12_spotOf 2 10 := rfl
theorem k_X12_readStep_10 : look a_X12_readStep 10 = vIstore 2 11 := rfl
theorem k_X12_readStep_11 : look a_X12_readStep 11 = vIload 2 12 := rfl
theorem k_X12_readStep_12 : look a_X12_readStep 12 = vI (-1) 13 := rfl
theorem k_X12_readStep_13 : look a_X12_readStep 13 = vIcNe 22 16 := rfl
theorem k_X12_readStep_16 : look a_X12_readStep 16 = vAload 0 17 := rfl
theorem k_X12_readStep_17 : look a_X12_readStep 17 = vCallM w_X12_fails 28 0 20 := rfl
theorem k_X12_readStep_20 : look a_X12_readStep 20 = vPop 21 := rfl
theorem k_X12_readStep_21 : look a_X12_readStep 21 = vVret := rfl
theorem k_X12_readStep_22 : look a_X12_readStep 22 = vAload 0 23 := rfl
theorem k_X12_readStep_23 : look a_X12_readStep 23 = vDup 24 := rfl
theorem k_X12_readStep_24 : look a_X12_readStep 24 = vGetI 28 10 27 := rfl
theorem k_X12_readStep_27 : look a_X12_readStep 27 = vI 1 28 := rfl
theorem k_X12_readStep_28 : look a_X12_readStep 28 = vIadd 29 := rfl
theorem k_X12_readStep_29 : look a_X12_readStep 29 = vPutI 28 10 32 := rfl
theorem k_X12_readStep_32 : look a_X12_readStep 32 = vAload 0 33 := rfl
theorem k_X12_readStep_33 : look a_X12_readStep 33 = vGetR TT 28 26 8 36 := rfl
theorem k_X12_readStep_36 : look a_X12_readStep 36 = vIload 1 37 := rfl
theorem k_X12_readStep_37 : look a_X12_readStep 37 = vIload 2 38 := rfl
theorem k_X12_readStep_38 : look a_X12_readStep 38 = vIast TT 39 := rfl
theorem k_X12_readStep_39 : look a_X12_readStep 39 = vAload 0 40 := rfl
theorem k_X12_readStep_40 : look a_X12_readStep 40 = vGetR TT 28 26 8 43 := rfl
theorem k_X12_readStep_43 : look a_X12_readStep 43 = vIload 1 44 := rfl
theorem k_X12_readStep_44 : look a_X12_readStep 44 = vI 1 45 := rfl
theorem k_X12_readStep_45 : look a_X12_readStep 45 = vIadd 46 := rfl
theorem k_X12_readStep_46 : look a_X12_readStep 46 = vAload 0 47 := rfl
theorem k_X12_readStep_47 : look a_X12_readStep 47 = vCallM w_X12_digit 28 0 50 := rfl
theorem k_X12_readStep_50 : look a_X12_readStep 50 = vIast TT 51 := rfl
theorem k_X12_readStep_51 : look a_X12_readStep 51 = vAload 0 52 := rfl
theorem k_X12_readStep_52 : look a_X12_readStep 52 = vGetR TT 28 26 8 55 := rfl
theorem k_X12_readStep_55 : look a_X12_readStep 55 = vIload 1 56 := rfl
theorem k_X12_readStep_56 : look a_X12_readStep 56 = vI 2 57 := rfl
theorem k_X12_readStep_57 : look a_X12_readStep 57 = vIadd 58 := rfl
theorem k_X12_readStep_58 : look a_X12_readStep 58 = vI (-1) 59 := rfl
theorem k_X12_readStep_59 : look a_X12_readStep 59 = vIast TT 60 := rfl
theorem k_X12_readStep_60 : look a_X12_readStep 60 = vAload 0 61 := rfl
theorem k_X12_readStep_61 : look a_X12_readStep 61 = vGetI 28 11 64 := rfl
theorem k_X12_readStep_64 : look a_X12_readStep 64 = vI (-1) 65 := rfl
theorem k_X12_readStep_65 : look a_X12_readStep 65 = vIcNe 85 68 := rfl
theorem k_X12_readStep_68 : look a_X12_readStep 68 = vIload 2 69 := rfl
theorem k_X12_readStep_69 : look a_X12_readStep 69 = vI 1 70 := rfl
theorem k_X12_readStep_70 : look a_X12_readStep 70 = vIcNe 85 73 := rfl
theorem k_X12_readStep_73 : look a_X12_readStep 73 = vAload 0 74 := rfl
theorem k_X12_readStep_74 : look a_X12_readStep 74 = vGetR TT 28 26 8 77 := rfl
theorem k_X12_readStep_77 : look a_X12_readStep 77 = vIload 1 78 := rfl
theorem k_X12_readStep_78 : look a_X12_readStep 78 = vI 2 79 := rfl
theorem k_X12_readStep_79 : look a_X12_readStep 79 = vIadd 80 := rfl
theorem k_X12_readStep_80 : look a_X12_readStep 80 = vAload 0 81 := rfl
theorem k_X12_readStep_81 : look a_X12_readStep 81 = vCallM w_X12_digit 28 0 84 := rfl
theorem k_X12_readStep_84 : look a_X12_readStep 84 = vIast TT 85 := rfl
theorem k_X12_readStep_85 : look a_X12_readStep 85 = vVret := rfl
theorem o_X12_readStep {X : amX} (e1 : XT X = TT) (e2 : XD X = 5) (hB : amB X RX12 cX12_readStep (none) 3) : ∀ pc, amOK X pc (look a_X12_readStep pc) := by
  have hT : amTok (XT X) := e1 ▸ TT_ok
  refine look_ok ?_
  unfold a_X12_readStep
  refine fc (ok_ldcwS hB (k := 10) rfl rfl rfl rfl dX12_readStep_0) ?_
  refine fc (ok_aload_n hB dX12_readStep_3) ?_
  refine fc (ok_callM hB hT (e1 ▸ s_X12_look) lk_X12_153 (by rw [e2]; decide) (c := 12) rfl rfl rfl wd_1521 sl_X12_look dX12_readStep_4) ?_
  refine fc (ok_callS hB (e1 ▸ s_X12_spotOf) lk_X12_240 (by rw [e2]; decide) wd_1534 dX12_readStep_7) ?_
  refine fc (ok_istore_n hB (by decide) dX12_readStep_10) ?_
  refine fc (ok_iload_n hB dX12_readStep_11) ?_
  refine fc (ok_iconst hB dX12_readStep_12) ?_
  refine fc (ok_icmp_ne hB (t := 22) (by decide) dX12_readStep_13) ?_
  refine fc (ok_aload_n hB dX12_readStep_16) ?_
  refine fc (ok_callM hB hT (e1 ▸ s_X12_fails) lk_X12_149 (by rw [e2]; decide) (c := 12) rfl rfl rfl wd_1525 sl_X12_fails dX12_readStep_17) ?_
  refine fc (ok_pop hB dX12_readStep_20) ?_
  refine fc (ok_vret hB dX12_readStep_21) ?_
  refine fc (ok_aload_n hB dX12_readStep_22) ?_
  refine fc (ok_dup hB dX12_readStep_23) ?_
  refine fc (ok_getI hB hT fl_X12_134 rfl rfl (Or.inl af_12_10) dX12_readStep_24) ?_
  refine fc (ok_iconst hB dX12_readStep_27) ?_
  refine fc (ok_iadd hB dX12_readStep_28) ?_
  refine fc (ok_putI hB hT fp_X12_134 rfl rfl rfl af_12_10 dX12_readStep_29) ?_
  refine fc (ok_aload_n hB dX12_readStep_32) ?_
  refine fc (okt_getR e1 hB hT fl_X12_61 rfl af_12_26 at_12_26 (by decide) dX12_readStep_33) ?_
  refine fc (ok_iload_n hB dX12_readStep_36) ?_
  refine fc (ok_iload_n hB dX12_readStep_37) ?_
  refine fc (okt_iastore e1 hB dX12_readStep_38) ?_
  refine fc (ok_aload_n hB dX12_readStep_39) ?_
  refine fc (okt_getR e1 hB hT fl_X12_61 rfl af_12_26 at_12_26 (by decide) dX12_readStep_40) ?_
  refine fc (ok_iload_n hB dX12_readStep_43) ?_
  refine fc (ok_iconst hB dX12_readStep_44) ?_
  refine fc (ok_iadd hB dX12_readStep_45) ?_
  refine fc (ok_aload_n hB dX12_readStep_46) ?_
  refine fc (ok_callM hB hT (e1 ▸ s_X12_digit) lk_X12_289 (by rw [e2]; decide) (c := 12) rfl rfl rfl wd_1635 sl_X12_digit dX12_readStep_47) ?_
  refine fc (okt_iastore e1 hB dX12_readStep_50) ?_
  refine fc (ok_aload_n hB dX12_readStep_51) ?_
  refine fc (okt_getR e1 hB hT fl_X12_61 rfl af_12_26 at_12_26 (by decide) dX12_readStep_52) ?_
  refine fc (ok_iload_n hB dX12_readStep_55) ?_
  refine fc (ok_iconst hB dX12_readStep_56) ?_
  refine fc (ok_iadd hB dX12_readStep_57) ?_
  refine fc (ok_iconst hB dX12_readStep_58) ?_
  refine fc (okt_iastore e1 hB dX12_readStep_59) ?_
  refine fc (ok_aload_n hB dX12_readStep_60) ?_
  refine fc (ok_getI hB hT fl_X12_143 rfl rfl (Or.inl af_12_11) dX12_readStep_61) ?_
  refine fc (ok_iconst hB dX12_readStep_64) ?_
  refine fc (ok_icmp_ne hB (t := 85) (by decide) dX12_readStep_65) ?_
  refine fc (ok_iload_n hB dX12_readStep_68) ?_
  refine fc (ok_iconst hB dX12_readStep_69) ?_
  refine fc (ok_icmp_ne hB (t := 85) (by decide) dX12_readStep_70) ?_
  refine fc (ok_aload_n hB dX12_readStep_73) ?_
  refine fc (okt_getR e1 hB hT fl_X12_61 rfl af_12_26 at_12_26 (by decide) dX12_readStep_74) ?_
  refine fc (ok_iload_n hB dX12_readStep_77) ?_
  refine fc (ok_iconst hB dX12_readStep_78) ?_
  refine fc (ok_iadd hB dX12_readStep_79) ?_
  refine fc (ok_aload_n hB dX12_readStep_80) ?_
  refine fc (ok_callM hB hT (e1 ▸ s_X12_digit) lk_X12_289 (by rw [e2]; decide) (c := 12) rfl rfl rfl wd_1635 sl_X12_digit dX12_readStep_81) ?_
  refine fc (okt_iastore e1 hB dX12_readStep_84) ?_
  refine fc (ok_vret hB dX12_readStep_85) ?_
  exact fn

def w_X12_readStep : WP := fun av σ Q => ∃ (to : Int), av = [(28, 5000), (0, to)] ∧ (∃ (m : Mem) (p : Int) (v : Int → Int), σ = seM m p (-1) v ∧ txOk m ∧ 0 ≤ p ∧ p ≤ m 5000 9 ∧ 192 ≤ to ∧ to ≤ 237 ∧ ((stepF (mtx m) (m 5000 9) p).1 = -1 → ∀ v' q, Q (6, 0) (seM m q (stepF (mtx m) (m 5000 9) p).2.1 v')) ∧ ((stepF (mtx m) (m 5000 9) p).1 ≠ -1 → Q (6, 0) (seM m (stepF (mtx m) (m 5000 9) p).2.1 (-1) (upf (upf (upf v (to - 192) (stepF (mtx m) (m 5000 9) p).1) (to + 1 - 192) (stepF (mtx m) (m 5000 9) p).2.2.1) (to + 2 - 192) (stepF (mtx m) (m 5000 9) p).2.2.2))))
theorem w_X12_readStep_e (to : Int) (σ : Mem) (Q : AV → Mem → Prop) : w_X12_readStep [(28, 5000), (0, to)] σ Q = (∃ (m : Mem) (p : Int) (v : Int → Int), σ = seM m p (-1) v ∧ txOk m ∧ 0 ≤ p ∧ p ≤ m 5000 9 ∧ 192 ≤ to ∧ to ≤ 237 ∧ ((stepF (mtx m) (m 5000 9) p).1 = -1 → ∀ v' q, Q (6, 0) (seM m q (stepF (mtx m) (m 5000 9) p).2.1 v')) ∧ ((stepF (mtx m) (m 5000 9) p).1 ≠ -1 → Q (6, 0) (seM m (stepF (mtx m) (m 5000 9) p).2.1 (-1) (upf (upf (upf v (to - 192) (stepF (mtx m) (m 5000 9) p).1) (to + 1 - 192) (stepF (mtx m) (m 5000 9) p).2.2.1) (to + 2 - 192) (stepF (mtx m) (m 5000 9) p).2.2.2)))) := by
  apply propext; constructor
  · rintro ⟨to', h9, hb9⟩; cases h9; exact hb9
  · intro hb9; exact ⟨to, rfl, hb9⟩

set_option maxRecDepth 100000 in
set_option maxHeartbeats 4000000 in
theorem s_X12_readStep : ∀ av σ Q, w_X12_readStep av σ Q → amCall 5 0 0 TT yX12_readStep cX12_readStep 3 (none) av σ Q := by
  rintro av σ Q ⟨to, rfl, m, p, v, rfl, ht, h0, h1, h2, h3, hq1, hq2⟩
  have n0 := ht.1
  have n1 := ht.2.1
  have hte := mtx_n ht
  have Mt : ∀ p f v, mtx (seM m p f v) = mtx m := fun p f v => (se_tx ht p f v).1
  have MtO : ∀ p f v, txOk (seM m p f v) = True := fun p f v => eq_true (se_tx ht p f v).2
  have w0 : ∀ p f v x, up (seM m p f v) 5013 to x = seM m p f (upf v (to - 192) x) := fun p f v x => se_w m p f x v (by omega) (by omega)
  have w1 : ∀ p f v x, up (seM m p f v) 5013 (to + 1) x = seM m p f (upf v (to + 1 - 192) x) := fun p f v x => se_w m p f x v (by omega) (by omega)
  have w2 : ∀ p f v x, up (seM m p f v) 5013 (to + 2) x = seM m p f (upf v (to + 2 - 192) x) := fun p f v x => se_w m p f x v (by omega) (by omega)
  have t3 : (3 : Int).toNat = 3 := rfl
  have s1 := sk_b (mtx m) h1
  have b1 := mtx_b ht (sk (mtx m) (m 5000 9) p)
  have fb := fidx_b (stv 20103) (mtx m (sk (mtx m) (m 5000 9) p)) 3 0 (by omega)
  have z1 : mtx m (sk (mtx m) (m 5000 9) p) = -1 → fidx (stv 20103) (mtx m (sk (mtx m) (m 5000 9) p)) 0 3 = -1 := fun e => by rw [e]; exact fidx_m1
  refine am_m0 (own := RX12) (A := look a_X12_readStep) (fun X e1 e2 hB => o_X12_readStep e1 e2 hB) rfl (by decide +kernel) rfl rfl 120 (w := 3) ?_
  change vcs _ _ _ _ 120 0 [(28, 5000), (0, to), (6, 0)] [] (seM m p (-1) v)
  simp only [↓reduceIte, inR_0, inR_1, inR_m, vSw2_e, swP_n, swP_c, vI_e, vL_e, vNull_e, vIload_e, vLload_e, vAload_e, vIstore_e, vLstore_e, vAstore_e, vIinc_e, vIadd_e, vIsub_e, vImul_e, vIand_e, vIor_e, vIxor_e, vIshl_e, vIshr_e, vIushr_e, vIdiv_e, vIrem_e, vLadd_e, vLsub_e, vLmul_e, vLand_e, vLor_e, vLxor_e, vLdiv_e, vLrem_e, vLushr_e, vLshl_e, vLcmp_e, vIneg_e, vI2l_e, vL2i_e, vI2b_e, vI2c_e, vDup_e, vPop_e, vDup2_e, vGoto_e, vIcEq_e, vIfEq_e, vIcNe_e, vIfNe_e, vIcLt_e, vIfLt_e, vIcGe_e, vIfGe_e, vIcGt_e, vIfGt_e, vIcLe_e, vIfLe_e, vNonnull_e, vSw_e, vGetI_e, vGetL_e, vGetR_e, vPutI_e, vPutZ_e, vPutL_e, vPutR_e, vIald_e, vIald_s, vLald_e, vBald_e, vBald_s, vAald_e, vIast_e, vLast_e, vBast_e, vAast_e, vAlen_e8, vAlen_e9, vAlen_e10, vAlen_e11, vAlen_e5, vAlen_e3, vGets_e, vCompact_e, vLdcS_e, vIret_e, vZret_e, vCret_e, vBret_e, vLret_e, vVret_e, vAret_e, vCallM_e0, vCallMV_e0, vCallS_e0, vCallSV_e0, vCallM_e1, vCallMV_e1, vCallS_e1, vCallSV_e1, vCallM_e2, vCallMV_e2, vCallS_e2, vCallSV_e2, vCallM_e3, vCallMV_e3, vCallS_e3, vCallSV_e3, vCallM_e4, vCallMV_e4, vCallS_e4, vCallSV_e4, vCallM_e5, vCallMV_e5, vCallS_e5, vCallSV_e5, vCallM_e6, vCallMV_e6, vCallS_e6, vCallSV_e6, vCallM_e7, vCallMV_e7, vCallS_e7, vCallSV_e7, vBad_e, vStrVal_e, vStrCod_e, vForm_e, vCallT_e0, vCallT_e1, vCallT_e2, vCopy_e, rf_0_0, rf_0_1, rf_0_2, rf_0_3, rf_0_4, rf_0_7, rf_0_10, rf_0_11, rf_0_12, rf_0_13, rf_0_14, rf_0_15, rf_0_16, rf_1_0, rf_3_0, rf_3_1, rf_6_0, rf_6_1, rf_9_0, rf_9_1, rf_9_3, rf_13_0, rf_13_1, rf_13_2, rf_16_0, rf_16_1, rf_16_2, rf_16_3, rf_21_0, rf_21_1, rf_21_2, rf_21_3, rf_26_0, rf_26_1, rf_26_2, rf_26_3, rf_26_4, rf_26_5, rf_26_6, rf_31_0, rf_31_2, rf_31_5, rf_31_6, rf_36_0, rf_36_1, rf_36_2, rf_36_3, rf_39_0, rf_39_1, rf_39_2, rf_41_0, rf_41_1, rf_41_2, rf_41_3, rf_5000_1, rf_5000_2, rf_5000_3, rf_5000_4, rf_5000_5, rf_5000_15, rf_5000_16, rf_5000_18, rf_5000_19, rf_5000_20, rf_5000_21, rf_5000_22, rf_5000_23, rf_5000_24, rf_5000_25, rf_5000_26, rf_5000_27, rf_5000_36, rf_5000_37, rf_5000_40, rf_5000_41, rf_5000_42, rf_5000_43, rf_5000_44, rf_5000_45, rf_5000_47, rf_5000_52, rf_5000_54, rf_5000_55, rf_100_0, rf_100_1, rf_103_0, rf_103_1, rf_106_0, rf_106_1, rf_109_0, rf_109_1, al_2, al_4, al_5, al_7, al_8, al_10, al_11, al_12, al_14, al_15, al_17, al_18, al_19, al_20, al_22, al_23, al_24, al_25, al_27, al_28, al_29, al_30, al_32, al_33, al_34, al_35, al_37, al_38, al_40, al_42, al_5001, al_5002, al_5003, al_5004, al_5005, al_5006, al_5007, al_5008, al_5009, al_5010, al_5011, al_5012, al_5013, al_5014, al_5015, al_5016, al_5017, al_5018, al_5019, al_5020, al_5021, al_5022, al_5023, al_5024, al_5025, al_5026, al_9000, al_101, al_102, al_104, al_105, al_107, al_108, al_110, al_111, vcs_e, lg_c0, lg_cs, lg_nil, set_c0, set_cs, okst_0, okst_s, acok_n, acok_c, List.contains_nil, List.contains_cons, Bool.or_false, Bool.false_or, Bool.false_eq_true, if_false, if_true, ite_self, ne_eq, true_and, and_true, not_false_eq_true, not_true_eq_false, false_imp_iff, true_imp_iff, Nat.ble_eq, Bool.and_eq_true, reduceCtorEq, or_false, false_or, or_true, true_or, false_and, and_false, and_self, Int.reduceLE, Int.reduceAdd, Int.reduceSub, Int.reduceMul, Int.reduceNeg, Int.reduceLT, Int.reduceEq, Int.reduceNe, Nat.reduceBEq, Nat.reduceBNe, Nat.reduceEqDiff, amCmp_in, amCmp_lt, amCmp_le, amCmp_gt, amCmp_ge, amCmp_eq, amCmp_ne, Nat.reduceLeDiff, Nat.reduceSub, Bool.and_true, Bool.true_and, Bool.and_self, Bool.or_true, Bool.true_or, isRf_3, isRf_4, isRf_5, isRf_8, isRf_9, isRf_10, isRf_11, isRf_15, isRf_16, isRf_17, isRf_18, isRf_19, isRf_20, isRf_21, isRf_22, isRf_23, isRf_24, isRf_25, isRf_26, isRf_27, isRf_28, k_X12_readStep_0, k_X12_readStep_3, k_X12_readStep_4, k_X12_readStep_7, k_X12_readStep_10, k_X12_readStep_11, k_X12_readStep_12, k_X12_readStep_13, k_X12_readStep_16, k_X12_readStep_17, k_X12_readStep_20, k_X12_readStep_21, k_X12_readStep_22, k_X12_readStep_23, k_X12_readStep_24, k_X12_readStep_27, k_X12_readStep_28, k_X12_readStep_29, k_X12_readStep_32, k_X12_readStep_33, k_X12_readStep_36, k_X12_readStep_37, k_X12_readStep_38, k_X12_readStep_39, k_X12_readStep_40, k_X12_readStep_43, k_X12_readStep_44, k_X12_readStep_45, k_X12_readStep_46, k_X12_readStep_47, k_X12_readStep_50, k_X12_readStep_51, k_X12_readStep_52, k_X12_readStep_55, k_X12_readStep_56, k_X12_readStep_57, k_X12_readStep_58, k_X12_readStep_59, k_X12_readStep_60, k_X12_readStep_61, k_X12_readStep_64, k_X12_readStep_65, k_X12_readStep_68, k_X12_readStep_69, k_X12_readStep_70, k_X12_readStep_73, k_X12_readStep_74, k_X12_readStep_77, k_X12_readStep_78, k_X12_readStep_79, k_X12_readStep_80, k_X12_readStep_81, k_X12_readStep_84, k_X12_readStep_85, w_X12_digit_e, w_X12_fails_e, w_X12_look_e, w_X12_spotOf_e, msk, Mt, MtO, se_10, se_11, se_9, se_u10, se_u11, se_fa, w0, w1, w2, Int.reduceAdd, stv_exi, stl_exi, t3]
  unfold stepF at hq1 hq2
  generalize hk : fidx (stv 20103) (mtx m (sk (mtx m) (m 5000 9) p)) 0 3 = kd at *
  by_cases c1 : kd = -1
  · rw [if_pos (Or.inr c1)] at hq1
    have h9 := hq1 rfl
    subst c1
    repeat' (first | apply And.intro | intro _)
    all_goals first | omega | exact absurd trivial (by assumption) | exact h9 _ _ | skip
  · have c0 : ¬ (mtx m (sk (mtx m) (m 5000 9) p) = -1 ∨ kd = -1) := by omega
    rw [if_neg c0] at hq1 hq2
    have s2 := sk_lt hte (q := sk (mtx m) (m 5000 9) p) (by omega)
    have s3 := sk_b (mtx m) (n := m 5000 9) (p := sk (mtx m) (m 5000 9) p + 1) (by omega)
    have b2 := mtx_b ht (sk (mtx m) (m 5000 9) (sk (mtx m) (m 5000 9) p + 1))
    by_cases c2 : 48 ≤ mtx m (sk (mtx m) (m 5000 9) (sk (mtx m) (m 5000 9) p + 1)) ∧ mtx m (sk (mtx m) (m 5000 9) (sk (mtx m) (m 5000 9) p + 1)) ≤ 57
    · rw [if_neg (fun g => g c2)] at hq1 hq2
      have s4 := sk_lt hte (q := sk (mtx m) (m 5000 9) (sk (mtx m) (m 5000 9) p + 1)) (by omega)
      by_cases c3 : kd = 1
      · rw [if_neg (fun g => g c3)] at hq1 hq2
        have s5 := sk_b (mtx m) (n := m 5000 9) (p := sk (mtx m) (m 5000 9) (sk (mtx m) (m 5000 9) p + 1) + 1) (by omega)
        have b3 := mtx_b ht (sk (mtx m) (m 5000 9) (sk (mtx m) (m 5000 9) (sk (mtx m) (m 5000 9) p + 1) + 1))
        by_cases c4 : 48 ≤ mtx m (sk (mtx m) (m 5000 9) (sk (mtx m) (m 5000 9) (sk (mtx m) (m 5000 9) p + 1) + 1)) ∧ mtx m (sk (mtx m) (m 5000 9) (sk (mtx m) (m 5000 9) (sk (mtx m) (m 5000 9) p + 1) + 1)) ≤ 57
        · rw [if_neg (fun g => g c4)] at hq2
          have h9 := hq2 (show (1 : Int) ≠ -1 by decide)
          dsimp only at h9
          subst c3
          simp only [upf_upf]
          repeat' (first | apply And.intro | intro _)
          all_goals first | omega | exact absurd trivial (by assumption) | exact h9 | skip
        · rw [if_pos c4] at hq1
          have h9 := hq1 rfl
          dsimp only at h9
          subst c3
          simp only [upf_upf]
          repeat' (first | apply And.intro | intro _)
          all_goals first | omega | exact absurd trivial (by assumption) | exact h9 _ _ | skip
      · rw [if_pos c3] at hq2
        have h9 := hq2 c1
        dsimp only at h9
        repeat' (first | apply And.intro | intro _)
        all_goals first | omega | exact absurd trivial (by assumption) | exact h9 | skip
    · rw [if_pos c2] at hq1
      have h9 := hq1 rfl
      dsimp only at h9
      repeat' (first | apply And.intro | intro _)
      all_goals first | omega | exact absurd trivial (by assumption) | exact h9 _ _ | skip
theorem sts_tx {σ : Mem} {a b n : Int} (h : txtOk σ a b n) : txOk (stsM σ a b n) ∧ mtx (stsM σ a b n) = txt σ a b n ∧ stsM σ a b n 5000 9 = n := by
  obtain ⟨h0, h1, h2, h3⟩ := h
  have e9 : stsM σ a b n 5000 9 = n := rfl
  have e5 : stsM σ a b n 5000 5 = a := rfl
  have e8 : stsM σ a b n 5000 8 = b := rfl
  have eo : ∀ c, c ≠ 5000 → stsM σ a b n c = σ c := fun c hc => by unfold stsM; simp only [up_na _ hc]
  refine ⟨?_, ?_, e9⟩
  · unfold txOk
    rw [e9, e5, e8, eo a (by omega)]
    exact ⟨h0, h1, h2, h3⟩
  · funext i; unfold mtx txt
    rw [e9, e5, e8, eo a (by omega)]
theorem se_id {m : Mem} {p f : Int} (h1 : m 5000 10 = p) (h2 : m 5000 11 = f) : seM m p f (fun k => m 5013 (192 + k)) = m := by
  funext b j; unfold seM
  by_cases h : b = 5013 ∧ 192 ≤ j ∧ j < 240
  · rw [if_pos h, h.1]; show m 5013 (192 + (j - 192)) = _; congr 1; omega
  · rw [if_neg h, ← h1, ← h2, rd_id]
/-- what reading a SEASON may change -/
def SEF (σ τ : Mem) : Prop := (∀ b, b ≠ 5000 → b ≠ 5013 → b ≠ 5014 → τ b = σ b) ∧ (∀ j, j < 192 → τ 5013 j = σ 5013 j) ∧ (∀ j, j ≠ 4 → τ 5014 j = σ 5014 j) ∧ ∀ k, k ≠ 5 → (k < 8 ∨ 12 < k) → τ 5000 k = σ 5000 k
theorem SEF_se (σ : Mem) (a b n p f : Int) (v : Int → Int) : SEF σ (seM (stsM σ a b n) p f v) := by
  have eo : ∀ c, c ≠ 5000 → stsM σ a b n c = σ c := fun c hc => by unfold stsM; simp only [up_na _ hc]
  refine ⟨fun c h1 h2 h3 => ?_, fun j hj => ?_, fun j hj => ?_, fun k h1 h2 => ?_⟩
  · rw [se_o _ _ _ _ h1 h2, eo c h1]
  · rw [se_13o _ _ _ _ hj, eo _ (by decide)]
  · rw [se_o _ _ _ _ (by decide) (by decide), eo _ (by decide)]
  · rw [se_k _ _ _ _ (by omega)]
    unfold stsM
    rw [up_nj _ (by omega), up_nj _ (by omega), up_nj _ (by omega), up_nj _ (by omega), up_nj _ (by omega)]
theorem SEF_14 {σ τ : Mem} (h : SEF σ τ) (x : Int) : SEF σ (up τ 5014 4 x) := by
  obtain ⟨h1, h2, h3, h4⟩ := h
  exact ⟨fun b a1 a2 a3 => by rw [up_na _ a3]; exact h1 b a1 a2 a3, fun j hj => by rw [up_na _ (by decide)]; exact h2 j hj, fun j hj => by rw [up_nj _ hj]; exact h3 j hj, fun k a1 a2 => by rw [up_na _ (by decide)]; exact h4 k a1 a2⟩
/-! the reference reads SEASONS, whole -/
theorem s14_5 (τ : Mem) (x : Int) : up τ 5014 4 x 5000 = τ 5000 := up_na _ (by decide)
theorem s14_c (τ : Mem) (x y : Int) : up (up τ 5014 4 x) 5000 10 y = up (up τ 5000 10 y) 5014 4 x := by
  funext b j; unfold up; (repeat' split) <;> first | rfl | omega
theorem s14_fa (m : Mem) (p x : Int) (v : Int → Int) : faM (up (seM m p (-1) v) 5014 4 x) = up (seM m p p v) 5014 4 x := by
  unfold faM
  rw [s14_5, if_pos (se_11 _ _ _ _), se_10, ← se_u11 m p (-1) p v]
  funext b j; unfold up; (repeat' split) <;> first | rfl | omega
theorem s14_tx {m : Mem} (h : txOk m) (p f x : Int) (v : Int → Int) : mtx (up (seM m p f v) 5014 4 x) = mtx m ∧ txOk (up (seM m p f v) 5014 4 x) := by
  obtain ⟨a, b⟩ := se_tx h p f v
  have hT := tx_T b
  rw [← a]
  constructor
  · funext i; unfold mtx; rw [s14_5, up_na _ (by omega)]
  · unfold txOk; rw [s14_5, up_na _ (by omega)]; exact b

theorem wd_1628 : Cond.methodLink RX12 292 yX12_readStep ∈ TBL := tb_tab (List.mem_of_getElem? (i := 1628) (by decide +kernel)) rfl
theorem wd_1631 : Cond.code yX12_readStep cX12_readStep 3 (none) ∈ TBL := tb_tab (List.mem_of_getElem? (i := 1631) (by decide +kernel)) rfl
theorem lk_X12_292 : amLk RX12 292 yX12_readStep cX12_readStep 3 (none) 1 := ⟨wd_1628, wd_12, wd_1631, by decide +kernel, by decide +kernel, by decide⟩
theorem wd_1630 : Cond.instanceMethod yX12_readStep ∈ TBL := tb_tab (List.mem_of_getElem? (i := 1630) (by decide +kernel)) rfl
theorem sl_X12_readStep : Cond.selects RX12 yX12_readStep yX12_readStep ∈ TBL := tb_sel (List.mem_of_getElem? (i := 70) (by decide +kernel)) rfl
def a_X12_readSeason : AC := [(0, vAload 0 1), (1, vAload 0 2), (2, vGetR TT 28 1 10 5), (5, vI 0 6), (6, vAload 0 7), (7, vGetI 28 6 10), (10, vCallMV w_X12_starts 28 3 13), (13, vI 0 14), (14, vIstore 1 15), (15, vI 1 16), (16, vIstore 2 17), (17, vIload 2 18), (18, vIfEq 91 21), (21, vAload 0 22), (22, vI 3 23), (23, vI 64 25), (25, vIload 1 26), (26, vIadd 27), (27, vImul 28), (28, vCallMV w_X12_readStep 28 1 31), (31, vAload 0 32), (32, vGetI 28 11 35), (35, vI (-1) 36), (36, vIcEq 40 39), (39, vVret), (40, vIinc 1 1 43), (43, vAload 0 44), (44, vCallM w_X12_look 28 0 47), (47, vI 59 49), (49, vIcNe 56 52), (52, vI 1 53), (53, vGoto 57), (56, vI 0 57), (57, vIstore 2 58), (58, vIload 2 59), (59, vIfEq 74 62), (62, vIload 1 63), (63, vI 16 65), (65, vIcNe 74 68), (68, vAload 0 69), (69, vCallM w_X12_fails 28 0 72), (72, vPop 73), (73, vVret), (74, vIload 2 75), (75, vIfEq 17 78), (78, vAload 0 79), (79, vDup 80), (80, vGetI 28 10 83), (83, vI 1 84), (84, vIadd 85), (85, vPutI 28 10 88), (88, vGoto 17), (91, vAload 0 92), (92, vGetR TT 28 27 8 95), (95, vI 4 96), (96, vIload 1 97), (97, vIast TT 98), (98, vAload 0 99), (99, vCallM w_X12_look 28 0 102), (102, vI (-1) 103), (103, vIcEq 111 106), (106, vAload 0 107), (107, vCallM w_X12_fails 28 0 110), (110, vPop 111), (111, vVret)]
theorem k_X12_readSeason_0 : look a_X12_readSeason 0 = vAload 0 1 := rfl
theorem k_X12_readSeason_1 : look a_X12_readSeason 1 = vAload 0 2 := rfl
theorem k_X12_readSeason_2 : look a_X12_readSeason 2 = vGetR TT 28 1 10 5 := rfl
theorem k_X12_readSeason_5 : look a_X12_readSeason 5 = vI 0 6 := rfl
theorem k_X12_readSeason_6 : look a_X12_readSeason 6 = vAload 0 7 := rfl
theorem k_X12_readSeason_7 : look a_X12_readSeason 7 = vGetI 28 6 10 := rfl
theorem k_X12_readSeason_10 : look a_X12_readSeason 10 = vCallMV w_X12_starts 28 3 13 := rfl
theorem k_X12_readSeason_13 : look a_X12_readSeason 13 = vI 0 14 := rfl
theorem k_X12_readSeason_14 : look a_X12_readSeason 14 = vIstore 1 15 := rfl
theorem k_X12_readSeason_15 : look a_X12_readSeason 15 = vI 1 16 := rfl
theorem k_X12_readSeason_16 : look a_X12_readSeason 16 = vIstore 2 17 := rfl
theorem k_X12_readSeason_17 : look a_X12_readSeason 17 = vIload 2 18 := rfl
theorem k_X12_readSeason_18 : look a_X12_readSeason 18 = vIfEq 91 21 := rfl
theorem k_X12_readSeason_21 : look a_X12_readSeason 21 = vAload 0 22 := rfl
theorem k_X12_readSeason_22 : look a_X12_readSeason 22 = vI 3 23 := rfl
theorem k_X12_readSeason_23 : look a_X12_readSeason 23 = vI 64 25 := rfl
theorem k_X12_readSeason_25 : look a_X12_readSeason 25 = vIload 1 26 := rfl
theorem k_X12_readSeason_26 : look a_X12_readSeason 26 = vIadd 27 := rfl
theorem k_X12_readSeason_27 : look a_X12_readSeason 27 = vImul 28 := rfl
theorem k_X12_readSeason_28 : look a_X12_readSeason 28 = vCallMV w_X12_readStep 28 1 31 := rfl
theorem k_X12_readSeason_31 : look a_X12_readSeason 31 = vAload 0 32 := rfl
theorem k_X12_readSeason_32 : look a_X12_readSeason 32 = vGetI 28 11 35 := rfl
theorem k_X12_readSeason_35 : look a_X12_readSeason 35 = vI (-1) 36 := rfl
theorem k_X12_readSeason_36 : look a_X12_readSeason 36 = vIcEq 40 39 := rfl
theorem k_X12_readSeason_39 : look a_X12_readSeason 39 = vVret := rfl
theorem k_X12_readSeason_40 : look a_X12_readSeason 40 = vIinc 1 1 43 := rfl
theorem k_X12_readSeason_43 : look a_X12_readSeason 43 = vAload 0 44 := rfl
theorem k_X12_readSeason_44 : look a_X12_readSeason 44 = vCallM w_X12_look 28 0 47 := rfl
theorem k_X12_readSeason_47 : look a_X12_readSeason 47 = vI 59 49 := rfl
theorem k_X12_readSeason_49 : look a_X12_readSeason 49 = vIcNe 56 52 := rfl
theorem k_X12_readSeason_52 : look a_X12_readSeason 52 = vI 1 53 := rfl
theorem k_X12_readSeason_53 : look a_X12_readSeason 53 = vGoto 57 := rfl
theorem k_X12_readSeason_56 : look a_X12_readSeason 56 = vI 0 57 := rfl
theorem k_X12_readSeason_57 : look a_X12_readSeason 57 = vIstore 2 58 := rfl
theorem k_X12_readSeason_58 : look a_X12_readSeason 58 = vIload 2 59 := rfl
theorem k_X12_readSeason_59 : look a_X12_readSeason 59 = vIfEq 74 62 := rfl
theorem k_X12_readSeason_62 : look a_X12_readSeason 62 = vIload 1 63 := rfl
theorem k_X12_readSeason_63 : look a_X12_readSeason 63 = vI 16 65 := rfl
theorem k_X12_readSeason_65 : look a_X12_readSeason 65 = vIcNe 74 68 := rfl
theorem k_X12_readSeason_68 : look a_X12_readSeason 68 = vAload 0 69 := rfl
theorem k_X12_readSeason_69 : look a_X12_readSeason 69 = vCallM w_X12_fails 28 0 72 := rfl
theorem k_X12_readSeason_72 : look a_X12_readSeason 72 = vPop 73 := rfl
theorem k_X12_readSeason_73 : look a_X12_readSeason 73 = vVret := rfl
theorem k_X12_readSeason_74 : look a_X12_readSeason 74 = vIload 2 75 := rfl
theorem k_X12_readSeason_75 : look a_X12_readSeason 75 = vIfEq 17 78 := rfl
theorem k_X12_readSeason_78 : look a_X12_readSeason 78 = vAload 0 79 := rfl
theorem k_X12_readSeason_79 : look a_X12_readSeason 79 = vDup 80 := rfl
theorem k_X12_readSeason_80 : look a_X12_readSeason 80 = vGetI 28 10 83 := rfl
theorem k_X12_readSeason_83 : look a_X12_readSeason 83 = vI 1 84 := rfl
theorem k_X12_readSeason_84 : look a_X12_readSeason 84 = vIadd 85 := rfl
theorem k_X12_readSeason_85 : look a_X12_readSeason 85 = vPutI 28 10 88 := rfl
theorem k_X12_readSeason_88 : look a_X12_readSeason 88 = vGoto 17 := rfl
theorem k_X12_readSeason_91 : look a_X12_readSeason 91 = vAload 0 92 := rfl
theorem k_X12_readSeason_92 : look a_X12_readSeason 92 = vGetR TT 28 27 8 95 := rfl
theorem k_X12_readSeason_95 : look a_X12_readSeason 95 = vI 4 96 := rfl
theorem k_X12_readSeason_96 : look a_X12_readSeason 96 = vIload 1 97 := rfl
theorem k_X12_readSeason_97 : look a_X12_readSeason 97 = vIast TT 98 := rfl
theorem k_X12_readSeason_98 : look a_X12_readSeason 98 = vAload 0 99 := rfl
theorem k_X12_readSeason_99 : look a_X12_readSeason 99 = vCallM w_X12_look 28 0 102 := rfl
theorem k_X12_readSeason_102 : look a_X12_readSeason 102 = vI (-1) 103 := rfl
theorem k_X12_readSeason_103 : look a_X12_readSeason 103 = vIcEq 111 106 := rfl
theorem k_X12_readSeason_106 : look a_X12_readSeason 106 = vAload 0 107 := rfl
theorem k_X12_readSeason_107 : look a_X12_readSeason 107 = vCallM w_X12_fails 28 0 110 := rfl
theorem k_X12_readSeason_110 : look a_X12_readSeason 110 = vPop 111 := rfl
theorem k_X12_readSeason_111 : look a_X12_readSeason 111 = vVret := rfl
theorem o_X12_readSeason {X : amX} (e1 : XT X = TT) (e2 : XD X = 6) (hB : amB X RX12 cX12_readSeason (none) 3) : ∀ pc, amOK X pc (look a_X12_readSeason pc) := by
  have hT : amTok (XT X) := e1 ▸ TT_ok
  refine look_ok ?_
  unfold a_X12_readSeason
  refine fc (ok_aload_n hB dX12_readSeason_0) ?_
  refine fc (ok_aload_n hB dX12_readSeason_1) ?_
  refine fc (okt_getR e1 hB hT fl_X12_9 rfl af_12_1 at_12_1 (by decide) dX12_readSeason_2) ?_
  refine fc (ok_iconst hB dX12_readSeason_5) ?_
  refine fc (ok_aload_n hB dX12_readSeason_6) ?_
  refine fc (ok_getI hB hT fl_X12_124 rfl rfl (Or.inl af_12_6) dX12_readSeason_7) ?_
  refine fc (ok_callMV hB hT (e1 ▸ s_X12_starts) lk_X12_222 (by rw [e2]; decide) (c := 12) rfl rfl rfl wd_1510 sl_X12_starts dX12_readSeason_10) ?_
  refine fc (ok_iconst hB dX12_readSeason_13) ?_
  refine fc (ok_istore_n hB (by decide) dX12_readSeason_14) ?_
  refine fc (ok_iconst hB dX12_readSeason_15) ?_
  refine fc (ok_istore_n hB (by decide) dX12_readSeason_16) ?_
  refine fc (ok_iload_n hB dX12_readSeason_17) ?_
  refine fc (ok_if_eq hB (t := 91) (by decide) dX12_readSeason_18) ?_
  refine fc (ok_aload_n hB dX12_readSeason_21) ?_
  refine fc (ok_iconst hB dX12_readSeason_22) ?_
  refine fc (ok_bipush hB dX12_readSeason_23 (by decide)) ?_
  refine fc (ok_iload_n hB dX12_readSeason_25) ?_
  refine fc (ok_iadd hB dX12_readSeason_26) ?_
  refine fc (ok_imul hB dX12_readSeason_27) ?_
  refine fc (ok_callMV hB hT (e1 ▸ s_X12_readStep) lk_X12_292 (by rw [e2]; decide) (c := 12) rfl rfl rfl wd_1630 sl_X12_readStep dX12_readSeason_28) ?_
  refine fc (ok_aload_n hB dX12_readSeason_31) ?_
  refine fc (ok_getI hB hT fl_X12_143 rfl rfl (Or.inl af_12_11) dX12_readSeason_32) ?_
  refine fc (ok_iconst hB dX12_readSeason_35) ?_
  refine fc (ok_icmp_eq hB (t := 40) (by decide) dX12_readSeason_36) ?_
  refine fc (ok_vret hB dX12_readSeason_39) ?_
  refine fc (ok_iinc hB (by decide) dX12_readSeason_40) ?_
  refine fc (ok_aload_n hB dX12_readSeason_43) ?_
  refine fc (ok_callM hB hT (e1 ▸ s_X12_look) lk_X12_153 (by rw [e2]; decide) (c := 12) rfl rfl rfl wd_1521 sl_X12_look dX12_readSeason_44) ?_
  refine fc (ok_bipush hB dX12_readSeason_47 (by decide)) ?_
  refine fc (ok_icmp_ne hB (t := 56) (by decide) dX12_readSeason_49) ?_
  refine fc (ok_iconst hB dX12_readSeason_52) ?_
  refine fc (ok_goto hB (t := 57) (by decide) dX12_readSeason_53) ?_
  refine fc (ok_iconst hB dX12_readSeason_56) ?_
  refine fc (ok_istore_n hB (by decide) dX12_readSeason_57) ?_
  refine fc (ok_iload_n hB dX12_readSeason_58) ?_
  refine fc (ok_if_eq hB (t := 74) (by decide) dX12_readSeason_59) ?_
  refine fc (ok_iload_n hB dX12_readSeason_62) ?_
  refine fc (ok_bipush hB dX12_readSeason_63 (by decide)) ?_
  refine fc (ok_icmp_ne hB (t := 74) (by decide) dX12_readSeason_65) ?_
  refine fc (ok_aload_n hB dX12_readSeason_68) ?_
  refine fc (ok_callM hB hT (e1 ▸ s_X12_fails) lk_X12_149 (by rw [e2]; decide) (c := 12) rfl rfl rfl wd_1525 sl_X12_fails dX12_readSeason_69) ?_
  refine fc (ok_pop hB dX12_readSeason_72) ?_
  refine fc (ok_vret hB dX12_readSeason_73) ?_
  refine fc (ok_iload_n hB dX12_readSeason_74) ?_
  refine fc (ok_if_eq hB (t := 17) (by decide) dX12_readSeason_75) ?_
  refine fc (ok_aload_n hB dX12_readSeason_78) ?_
  refine fc (ok_dup hB dX12_readSeason_79) ?_
  refine fc (ok_getI hB hT fl_X12_134 rfl rfl (Or.inl af_12_10) dX12_readSeason_80) ?_
  refine fc (ok_iconst hB dX12_readSeason_83) ?_
  refine fc (ok_iadd hB dX12_readSeason_84) ?_
  refine fc (ok_putI hB hT fp_X12_134 rfl rfl rfl af_12_10 dX12_readSeason_85) ?_
  refine fc (ok_goto hB (t := 17) (by decide) dX12_readSeason_88) ?_
  refine fc (ok_aload_n hB dX12_readSeason_91) ?_
  refine fc (okt_getR e1 hB hT fl_X12_64 rfl af_12_27 at_12_27 (by decide) dX12_readSeason_92) ?_
  refine fc (ok_iconst hB dX12_readSeason_95) ?_
  refine fc (ok_iload_n hB dX12_readSeason_96) ?_
  refine fc (okt_iastore e1 hB dX12_readSeason_97) ?_
  refine fc (ok_aload_n hB dX12_readSeason_98) ?_
  refine fc (ok_callM hB hT (e1 ▸ s_X12_look) lk_X12_153 (by rw [e2]; decide) (c := 12) rfl rfl rfl wd_1521 sl_X12_look dX12_readSeason_99) ?_
  refine fc (ok_iconst hB dX12_readSeason_102) ?_
  refine fc (ok_icmp_eq hB (t := 111) (by decide) dX12_readSeason_103) ?_
  refine fc (ok_aload_n hB dX12_readSeason_106) ?_
  refine fc (ok_callM hB hT (e1 ▸ s_X12_fails) lk_X12_149 (by rw [e2]; decide) (c := 12) rfl rfl rfl wd_1525 sl_X12_fails dX12_readSeason_107) ?_
  refine fc (ok_pop hB dX12_readSeason_110) ?_
  refine fc (ok_vret hB dX12_readSeason_111) ?_
  exact fn
def inv_rse (m : Mem) (R : Int × Int × (Int → Int)) (n pc : Nat) (ls st : List AV) (σ' : Mem) : Prop := st = [] ∧ ∃ (i : Int) (vF : Int → Int), 0 ≤ i ∧
  ((∃ (k' : Nat) (p : Int) (v : Int → Int), pc = 17 ∧ n = 2 * k' + 1 ∧ i + k' = 16 ∧ 1 ≤ k' ∧ ls = [(28, 5000), (0, i), (0, 1)] ∧ σ' = seM m p (-1) v ∧ 0 ≤ p ∧ p ≤ m 5000 9 ∧ (∀ k, 0 ≤ k → k < i * 3 → v k = vF k) ∧ seasF (mtx m) (m 5000 9) k' i p vF = R) ∨
   (∃ (p : Int) (v : Int → Int), pc = 17 ∧ n = 0 ∧ i ≤ 16 ∧ ls = [(28, 5000), (0, i), (0, 0)] ∧ σ' = seM m p (-1) v ∧ 0 ≤ p ∧ p ≤ m 5000 9 ∧ (∀ k, 0 ≤ k → k < i * 3 → v k = vF k) ∧ (mtx m (sk (mtx m) (m 5000 9) p) = -1 → R = (-1, i, vF)) ∧ (mtx m (sk (mtx m) (m 5000 9) p) ≠ -1 → R.1 = sk (mtx m) (m 5000 9) p)) ∨
   (∃ (f q : Int) (v : Int → Int), pc = 31 ∧ ls = [(28, 5000), (0, i), (0, 1)] ∧ i < 16 ∧ σ' = seM m q f v ∧ 0 ≤ f ∧ f ≤ 240 ∧ R.1 = f) ∨
   (∃ (k' : Nat) (p : Int) (v : Int → Int), pc = 31 ∧ n = 2 * k' + 2 ∧ i + 1 + k' = 16 ∧ ls = [(28, 5000), (0, i), (0, 1)] ∧ σ' = seM m p (-1) v ∧ 0 ≤ p ∧ p ≤ m 5000 9 ∧ (∀ k, 0 ≤ k → k < (i + 1) * 3 → v k = vF k) ∧ (mtx m (sk (mtx m) (m 5000 9) p) = -1 → R = (-1, i + 1, vF)) ∧ (mtx m (sk (mtx m) (m 5000 9) p) ≠ -1 → mtx m (sk (mtx m) (m 5000 9) p) ≠ 59 ∨ i + 1 = 16 → R.1 = sk (mtx m) (m 5000 9) p) ∧ (mtx m (sk (mtx m) (m 5000 9) p) = 59 → i + 1 ≠ 16 → seasF (mtx m) (m 5000 9) k' (i + 1) (sk (mtx m) (m 5000 9) p + 1) vF = R)))
def w_X12_readSeason : WP := fun av σ Q => av = [(28, 5000)] ∧ (txtOk σ 5001 0 (σ 5000 6) ∧ ((seasF (txt σ 5001 0 (σ 5000 6)) (σ 5000 6) 16 0 0 (fun _ => 0)).1 ≠ -1 → ∀ τ, SEF σ τ → τ 5000 11 = (seasF (txt σ 5001 0 (σ 5000 6)) (σ 5000 6) 16 0 0 (fun _ => 0)).1 → Q (6, 0) τ) ∧ ((seasF (txt σ 5001 0 (σ 5000 6)) (σ 5000 6) 16 0 0 (fun _ => 0)).1 = -1 → ∀ τ, SEF σ τ → τ 5000 11 = -1 → τ 5014 4 = (seasF (txt σ 5001 0 (σ 5000 6)) (σ 5000 6) 16 0 0 (fun _ => 0)).2.1 → (∀ k, 0 ≤ k → k < (seasF (txt σ 5001 0 (σ 5000 6)) (σ 5000 6) 16 0 0 (fun _ => 0)).2.1 * 3 → τ 5013 (192 + k) = (seasF (txt σ 5001 0 (σ 5000 6)) (σ 5000 6) 16 0 0 (fun _ => 0)).2.2 k) → Q (6, 0) τ))
theorem w_X12_readSeason_e  (σ : Mem) (Q : AV → Mem → Prop) : w_X12_readSeason [(28, 5000)] σ Q = (txtOk σ 5001 0 (σ 5000 6) ∧ ((seasF (txt σ 5001 0 (σ 5000 6)) (σ 5000 6) 16 0 0 (fun _ => 0)).1 ≠ -1 → ∀ τ, SEF σ τ → τ 5000 11 = (seasF (txt σ 5001 0 (σ 5000 6)) (σ 5000 6) 16 0 0 (fun _ => 0)).1 → Q (6, 0) τ) ∧ ((seasF (txt σ 5001 0 (σ 5000 6)) (σ 5000 6) 16 0 0 (fun _ => 0)).1 = -1 → ∀ τ, SEF σ τ → τ 5000 11 = -1 → τ 5014 4 = (seasF (txt σ 5001 0 (σ 5000 6)) (σ 5000 6) 16 0 0 (fun _ => 0)).2.1 → (∀ k, 0 ≤ k → k < (seasF (txt σ 5001 0 (σ 5000 6)) (σ 5000 6) 16 0 0 (fun _ => 0)).2.1 * 3 → τ 5013 (192 + k) = (seasF (txt σ 5001 0 (σ 5000 6)) (σ 5000 6) 16 0 0 (fun _ => 0)).2.2 k) → Q (6, 0) τ)) := by
  apply propext; constructor
  · rintro ⟨h9, hb9⟩; cases h9; exact hb9
  · intro hb9; exact ⟨rfl, hb9⟩

set_option maxRecDepth 100000 in
set_option maxHeartbeats 4000000 in
theorem s_X12_readSeason : ∀ av σ Q, w_X12_readSeason av σ Q → amCall 6 0 0 TT yX12_readSeason cX12_readSeason 3 (none) av σ Q := by
  rintro av σ Q ⟨rfl, htx, hq1, hq2⟩
  obtain ⟨ht, em, e9⟩ := sts_tx htx
  have hS := SEF_se σ 5001 0 (σ 5000 6)
  generalize hR : seasF (txt σ 5001 0 (σ 5000 6)) (σ 5000 6) 16 0 0 (fun _ => 0) = R at hq1 hq2
  have hid := se_id (m := stsM σ 5001 0 (σ 5000 6)) (p := 0) (f := -1) rfl rfl
  rw [← em, ← e9] at hR
  generalize hm : stsM σ 5001 0 (σ 5000 6) = m at *
  have n0 := ht.1
  have n1 := ht.2.1
  have hte := mtx_n ht
  have Mt : ∀ p f v, mtx (seM m p f v) = mtx m := fun p f v => (se_tx ht p f v).1
  have MtO : ∀ p f v, txOk (seM m p f v) = True := fun p f v => eq_true (se_tx ht p f v).2
  have Mt4 : ∀ p f v x, mtx (up (seM m p f v) 5014 4 x) = mtx m := fun p f v x => (s14_tx ht p f x v).1
  have MtO4 : ∀ p f v x, txOk (up (seM m p f v) 5014 4 x) = True := fun p f v x => eq_true (s14_tx ht p f x v).2
  refine am_m [17, 31] (inv_rse m R) (own := RX12) (A := look a_X12_readSeason) (fun X e1 e2 hB => o_X12_readSeason e1 e2 hB) rfl (by decide +kernel) rfl rfl ?_ ⟨60, ?_⟩ (w := 3)
  · rintro n pc ls st σ' ⟨rfl, i, vF, i0, ⟨k', p, v, rfl, rfl, hk, k1, rfl, rfl, p0, p1, hv, hs⟩ | ⟨p, v, rfl, rfl, i16, rfl, rfl, p0, p1, hv, hA, hB⟩ | ⟨f, q, v, rfl, rfl, i16, rfl, f0, f1, hf⟩ | ⟨k', p, v, rfl, rfl, hk, rfl, rfl, p0, p1, hv, hA, hB, hC⟩⟩
    · obtain ⟨k2, rfl⟩ : ∃ k2, k' = k2 + 1 := ⟨k' - 1, by omega⟩
      unfold seasF at hs
      have sb := stepF_b hte ⟨p0, p1⟩
      have i9 : (stepF (mtx m) (m 5000 9) p).1 = -1 → ∀ v' q, ∃ k3, k3 < 2 * (k2 + 1) + 1 ∧ inv_rse m R k3 31 [(28, 5000), (0, i), (0, 1)] [] (seM m q (stepF (mtx m) (m 5000 9) p).2.1 v') := fun e v' q =>
        ⟨0, by omega, rfl, i, vF, i0, Or.inr (Or.inr (Or.inl ⟨_, q, v', rfl, rfl, by omega, rfl, by omega, by omega, by rw [if_pos e] at hs; rw [← hs]⟩))⟩
      have i8 : (stepF (mtx m) (m 5000 9) p).1 ≠ -1 → ∃ k3, k3 < 2 * (k2 + 1) + 1 ∧ inv_rse m R k3 31 [(28, 5000), (0, i), (0, 1)] [] (seM m (stepF (mtx m) (m 5000 9) p).2.1 (-1) (upf (upf (upf v (3 * (64 + i) - 192) (stepF (mtx m) (m 5000 9) p).1) (3 * (64 + i) + 1 - 192) (stepF (mtx m) (m 5000 9) p).2.2.1) (3 * (64 + i) + 2 - 192) (stepF (mtx m) (m 5000 9) p).2.2.2)) := fun e => by
        rw [if_neg e] at hs
        refine ⟨2 * k2 + 2, by omega, rfl, i, upf (upf (upf vF (i * 3) (stepF (mtx m) (m 5000 9) p).1) (i * 3 + 1) (stepF (mtx m) (m 5000 9) p).2.2.1) (i * 3 + 2) (stepF (mtx m) (m 5000 9) p).2.2.2, i0, Or.inr (Or.inr (Or.inr ⟨k2, _, _, rfl, rfl, by omega, rfl, rfl, by omega, by omega, fun k h0 h1 => ?_, fun a => ?_, fun a b => ?_, fun a b => ?_⟩))⟩
        · rw [show 3 * (64 + i) - 192 = i * 3 by omega, show 3 * (64 + i) + 1 - 192 = i * 3 + 1 by omega, show 3 * (64 + i) + 2 - 192 = i * 3 + 2 by omega]
          unfold upf
          by_cases g2 : k = i * 3 + 2
          · rw [if_pos g2, if_pos g2]
          · rw [if_neg g2, if_neg g2]
            by_cases g1 : k = i * 3 + 1
            · rw [if_pos g1, if_pos g1]
            · rw [if_neg g1, if_neg g1]
              by_cases g0 : k = i * 3
              · rw [if_pos g0, if_pos g0]
              · rw [if_neg g0, if_neg g0]; exact hv k h0 (by omega)
        · rw [if_pos a] at hs; exact hs.symm
        · rw [if_neg a, if_pos b] at hs; rw [← hs]
        · rw [if_neg (by omega), if_neg (by omega)] at hs; exact hs
      refine ⟨60, ?_⟩
      simp only [↓reduceIte, inR_0, inR_1, inR_m, vSw2_e, swP_n, swP_c, vI_e, vL_e, vNull_e, vIload_e, vLload_e, vAload_e, vIstore_e, vLstore_e, vAstore_e, vIinc_e, vIadd_e, vIsub_e, vImul_e, vIand_e, vIor_e, vIxor_e, vIshl_e, vIshr_e, vIushr_e, vIdiv_e, vIrem_e, vLadd_e, vLsub_e, vLmul_e, vLand_e, vLor_e, vLxor_e, vLdiv_e, vLrem_e, vLushr_e, vLshl_e, vLcmp_e, vIneg_e, vI2l_e, vL2i_e, vI2b_e, vI2c_e, vDup_e, vPop_e, vDup2_e, vGoto_e, vIcEq_e, vIfEq_e, vIcNe_e, vIfNe_e, vIcLt_e, vIfLt_e, vIcGe_e, vIfGe_e, vIcGt_e, vIfGt_e, vIcLe_e, vIfLe_e, vNonnull_e, vSw_e, vGetI_e, vGetL_e, vGetR_e, vPutI_e, vPutZ_e, vPutL_e, vPutR_e, vIald_e, vIald_s, vLald_e, vBald_e, vBald_s, vAald_e, vIast_e, vLast_e, vBast_e, vAast_e, vAlen_e8, vAlen_e9, vAlen_e10, vAlen_e11, vAlen_e5, vAlen_e3, vGets_e, vCompact_e, vLdcS_e, vIret_e, vZret_e, vCret_e, vBret_e, vLret_e, vVret_e, vAret_e, vCallM_e0, vCallMV_e0, vCallS_e0, vCallSV_e0, vCallM_e1, vCallMV_e1, vCallS_e1, vCallSV_e1, vCallM_e2, vCallMV_e2, vCallS_e2, vCallSV_e2, vCallM_e3, vCallMV_e3, vCallS_e3, vCallSV_e3, vCallM_e4, vCallMV_e4, vCallS_e4, vCallSV_e4, vCallM_e5, vCallMV_e5, vCallS_e5, vCallSV_e5, vCallM_e6, vCallMV_e6, vCallS_e6, vCallSV_e6, vCallM_e7, vCallMV_e7, vCallS_e7, vCallSV_e7, vBad_e, vStrVal_e, vStrCod_e, vForm_e, vCallT_e0, vCallT_e1, vCallT_e2, vCopy_e, rf_0_0, rf_0_1, rf_0_2, rf_0_3, rf_0_4, rf_0_7, rf_0_10, rf_0_11, rf_0_12, rf_0_13, rf_0_14, rf_0_15, rf_0_16, rf_1_0, rf_3_0, rf_3_1, rf_6_0, rf_6_1, rf_9_0, rf_9_1, rf_9_3, rf_13_0, rf_13_1, rf_13_2, rf_16_0, rf_16_1, rf_16_2, rf_16_3, rf_21_0, rf_21_1, rf_21_2, rf_21_3, rf_26_0, rf_26_1, rf_26_2, rf_26_3, rf_26_4, rf_26_5, rf_26_6, rf_31_0, rf_31_2, rf_31_5, rf_31_6, rf_36_0, rf_36_1, rf_36_2, rf_36_3, rf_39_0, rf_39_1, rf_39_2, rf_41_0, rf_41_1, rf_41_2, rf_41_3, rf_5000_1, rf_5000_2, rf_5000_3, rf_5000_4, rf_5000_5, rf_5000_15, rf_5000_16, rf_5000_18, rf_5000_19, rf_5000_20, rf_5000_21, rf_5000_22, rf_5000_23, rf_5000_24, rf_5000_25, rf_5000_26, rf_5000_27, rf_5000_36, rf_5000_37, rf_5000_40, rf_5000_41, rf_5000_42, rf_5000_43, rf_5000_44, rf_5000_45, rf_5000_47, rf_5000_52, rf_5000_54, rf_5000_55, rf_100_0, rf_100_1, rf_103_0, rf_103_1, rf_106_0, rf_106_1, rf_109_0, rf_109_1, al_2, al_4, al_5, al_7, al_8, al_10, al_11, al_12, al_14, al_15, al_17, al_18, al_19, al_20, al_22, al_23, al_24, al_25, al_27, al_28, al_29, al_30, al_32, al_33, al_34, al_35, al_37, al_38, al_40, al_42, al_5001, al_5002, al_5003, al_5004, al_5005, al_5006, al_5007, al_5008, al_5009, al_5010, al_5011, al_5012, al_5013, al_5014, al_5015, al_5016, al_5017, al_5018, al_5019, al_5020, al_5021, al_5022, al_5023, al_5024, al_5025, al_5026, al_9000, al_101, al_102, al_104, al_105, al_107, al_108, al_110, al_111, vcs_e, lg_c0, lg_cs, lg_nil, set_c0, set_cs, okst_0, okst_s, acok_n, acok_c, List.contains_nil, List.contains_cons, Bool.or_false, Bool.false_or, Bool.false_eq_true, if_false, if_true, ite_self, ne_eq, true_and, and_true, not_false_eq_true, not_true_eq_false, false_imp_iff, true_imp_iff, Nat.ble_eq, Bool.and_eq_true, reduceCtorEq, or_false, false_or, or_true, true_or, false_and, and_false, and_self, Int.reduceLE, Int.reduceAdd, Int.reduceSub, Int.reduceMul, Int.reduceNeg, Int.reduceLT, Int.reduceEq, Int.reduceNe, Nat.reduceBEq, Nat.reduceBNe, Nat.reduceEqDiff, amCmp_in, amCmp_lt, amCmp_le, amCmp_gt, amCmp_ge, amCmp_eq, amCmp_ne, Nat.reduceLeDiff, Nat.reduceSub, Bool.and_true, Bool.true_and, Bool.and_self, Bool.or_true, Bool.true_or, isRf_3, isRf_4, isRf_5, isRf_8, isRf_9, isRf_10, isRf_11, isRf_15, isRf_16, isRf_17, isRf_18, isRf_19, isRf_20, isRf_21, isRf_22, isRf_23, isRf_24, isRf_25, isRf_26, isRf_27, isRf_28, k_X12_readSeason_0, k_X12_readSeason_1, k_X12_readSeason_2, k_X12_readSeason_5, k_X12_readSeason_6, k_X12_readSeason_7, k_X12_readSeason_10, k_X12_readSeason_13, k_X12_readSeason_14, k_X12_readSeason_15, k_X12_readSeason_16, k_X12_readSeason_17, k_X12_readSeason_18, k_X12_readSeason_21, k_X12_readSeason_22, k_X12_readSeason_23, k_X12_readSeason_25, k_X12_readSeason_26, k_X12_readSeason_27, k_X12_readSeason_28, k_X12_readSeason_31, k_X12_readSeason_32, k_X12_readSeason_35, k_X12_readSeason_36, k_X12_readSeason_39, k_X12_readSeason_40, k_X12_readSeason_43, k_X12_readSeason_44, k_X12_readSeason_47, k_X12_readSeason_49, k_X12_readSeason_52, k_X12_readSeason_53, k_X12_readSeason_56, k_X12_readSeason_57, k_X12_readSeason_58, k_X12_readSeason_59, k_X12_readSeason_62, k_X12_readSeason_63, k_X12_readSeason_65, k_X12_readSeason_68, k_X12_readSeason_69, k_X12_readSeason_72, k_X12_readSeason_73, k_X12_readSeason_74, k_X12_readSeason_75, k_X12_readSeason_78, k_X12_readSeason_79, k_X12_readSeason_80, k_X12_readSeason_83, k_X12_readSeason_84, k_X12_readSeason_85, k_X12_readSeason_88, k_X12_readSeason_91, k_X12_readSeason_92, k_X12_readSeason_95, k_X12_readSeason_96, k_X12_readSeason_97, k_X12_readSeason_98, k_X12_readSeason_99, k_X12_readSeason_102, k_X12_readSeason_103, k_X12_readSeason_106, k_X12_readSeason_107, k_X12_readSeason_110, k_X12_readSeason_111, w_X12_fails_e, w_X12_look_e, w_X12_readStep_e, w_X12_starts_e]
      repeat' (first | apply And.intro | intro _)
      all_goals first | omega | exact absurd trivial (by assumption) | skip
      all_goals (exact ⟨m, p, v, rfl, ht, p0, p1, by omega, by omega, i9, i8⟩)
    · have s1 := sk_b (mtx m) p1
      have b1 := mtx_b ht (sk (mtx m) (m 5000 9) p)
      have h8 : mtx m (sk (mtx m) (m 5000 9) p) ≠ -1 → Q (6, 0) (up (seM m (sk (mtx m) (m 5000 9) p) (sk (mtx m) (m 5000 9) p) v) 5014 4 i) := fun e =>
        hq1 (by rw [hB e]; omega) _ (SEF_14 (hS _ _ _) i) (by rw [s14_5, se_11, hB e])
      have h9 : mtx m (sk (mtx m) (m 5000 9) p) = -1 → Q (6, 0) (up (seM m (sk (mtx m) (m 5000 9) p) (-1) v) 5014 4 i) := fun e => by
        have hRe := hA e
        refine hq2 (by rw [hRe]) _ (SEF_14 (hS _ _ _) i) (by rw [s14_5, se_11]) (by rw [hRe, up_s]) (fun k k0 k1 => ?_)
        rw [hRe] at k1 ⊢
        dsimp only at k1 ⊢
        rw [up_na _ (by decide), se_13 _ _ _ _ k0 (by omega)]
        exact hv k k0 (by omega)
      refine ⟨60, ?_⟩
      simp only [↓reduceIte, inR_0, inR_1, inR_m, vSw2_e, swP_n, swP_c, vI_e, vL_e, vNull_e, vIload_e, vLload_e, vAload_e, vIstore_e, vLstore_e, vAstore_e, vIinc_e, vIadd_e, vIsub_e, vImul_e, vIand_e, vIor_e, vIxor_e, vIshl_e, vIshr_e, vIushr_e, vIdiv_e, vIrem_e, vLadd_e, vLsub_e, vLmul_e, vLand_e, vLor_e, vLxor_e, vLdiv_e, vLrem_e, vLushr_e, vLshl_e, vLcmp_e, vIneg_e, vI2l_e, vL2i_e, vI2b_e, vI2c_e, vDup_e, vPop_e, vDup2_e, vGoto_e, vIcEq_e, vIfEq_e, vIcNe_e, vIfNe_e, vIcLt_e, vIfLt_e, vIcGe_e, vIfGe_e, vIcGt_e, vIfGt_e, vIcLe_e, vIfLe_e, vNonnull_e, vSw_e, vGetI_e, vGetL_e, vGetR_e, vPutI_e, vPutZ_e, vPutL_e, vPutR_e, vIald_e, vIald_s, vLald_e, vBald_e, vBald_s, vAald_e, vIast_e, vLast_e, vBast_e, vAast_e, vAlen_e8, vAlen_e9, vAlen_e10, vAlen_e11, vAlen_e5, vAlen_e3, vGets_e, vCompact_e, vLdcS_e, vIret_e, vZret_e, vCret_e, vBret_e, vLret_e, vVret_e, vAret_e, vCallM_e0, vCallMV_e0, vCallS_e0, vCallSV_e0, vCallM_e1, vCallMV_e1, vCallS_e1, vCallSV_e1, vCallM_e2, vCallMV_e2, vCallS_e2, vCallSV_e2, vCallM_e3, vCallMV_e3, vCallS_e3, vCallSV_e3, vCallM_e4, vCallMV_e4, vCallS_e4, vCallSV_e4, vCallM_e5, vCallMV_e5, vCallS_e5, vCallSV_e5, vCallM_e6, vCallMV_e6, vCallS_e6, vCallSV_e6, vCallM_e7, vCallMV_e7, vCallS_e7, vCallSV_e7, vBad_e, vStrVal_e, vStrCod_e, vForm_e, vCallT_e0, vCallT_e1, vCallT_e2, vCopy_e, rf_0_0, rf_0_1, rf_0_2, rf_0_3, rf_0_4, rf_0_7, rf_0_10, rf_0_11, rf_0_12, rf_0_13, rf_0_14, rf_0_15, rf_0_16, rf_1_0, rf_3_0, rf_3_1, rf_6_0, rf_6_1, rf_9_0, rf_9_1, rf_9_3, rf_13_0, rf_13_1, rf_13_2, rf_16_0, rf_16_1, rf_16_2, rf_16_3, rf_21_0, rf_21_1, rf_21_2, rf_21_3, rf_26_0, rf_26_1, rf_26_2, rf_26_3, rf_26_4, rf_26_5, rf_26_6, rf_31_0, rf_31_2, rf_31_5, rf_31_6, rf_36_0, rf_36_1, rf_36_2, rf_36_3, rf_39_0, rf_39_1, rf_39_2, rf_41_0, rf_41_1, rf_41_2, rf_41_3, rf_5000_1, rf_5000_2, rf_5000_3, rf_5000_4, rf_5000_5, rf_5000_15, rf_5000_16, rf_5000_18, rf_5000_19, rf_5000_20, rf_5000_21, rf_5000_22, rf_5000_23, rf_5000_24, rf_5000_25, rf_5000_26, rf_5000_27, rf_5000_36, rf_5000_37, rf_5000_40, rf_5000_41, rf_5000_42, rf_5000_43, rf_5000_44, rf_5000_45, rf_5000_47, rf_5000_52, rf_5000_54, rf_5000_55, rf_100_0, rf_100_1, rf_103_0, rf_103_1, rf_106_0, rf_106_1, rf_109_0, rf_109_1, al_2, al_4, al_5, al_7, al_8, al_10, al_11, al_12, al_14, al_15, al_17, al_18, al_19, al_20, al_22, al_23, al_24, al_25, al_27, al_28, al_29, al_30, al_32, al_33, al_34, al_35, al_37, al_38, al_40, al_42, al_5001, al_5002, al_5003, al_5004, al_5005, al_5006, al_5007, al_5008, al_5009, al_5010, al_5011, al_5012, al_5013, al_5014, al_5015, al_5016, al_5017, al_5018, al_5019, al_5020, al_5021, al_5022, al_5023, al_5024, al_5025, al_5026, al_9000, al_101, al_102, al_104, al_105, al_107, al_108, al_110, al_111, vcs_e, lg_c0, lg_cs, lg_nil, set_c0, set_cs, okst_0, okst_s, acok_n, acok_c, List.contains_nil, List.contains_cons, Bool.or_false, Bool.false_or, Bool.false_eq_true, if_false, if_true, ite_self, ne_eq, true_and, and_true, not_false_eq_true, not_true_eq_false, false_imp_iff, true_imp_iff, Nat.ble_eq, Bool.and_eq_true, reduceCtorEq, or_false, false_or, or_true, true_or, false_and, and_false, and_self, Int.reduceLE, Int.reduceAdd, Int.reduceSub, Int.reduceMul, Int.reduceNeg, Int.reduceLT, Int.reduceEq, Int.reduceNe, Nat.reduceBEq, Nat.reduceBNe, Nat.reduceEqDiff, amCmp_in, amCmp_lt, amCmp_le, amCmp_gt, amCmp_ge, amCmp_eq, amCmp_ne, Nat.reduceLeDiff, Nat.reduceSub, Bool.and_true, Bool.true_and, Bool.and_self, Bool.or_true, Bool.true_or, isRf_3, isRf_4, isRf_5, isRf_8, isRf_9, isRf_10, isRf_11, isRf_15, isRf_16, isRf_17, isRf_18, isRf_19, isRf_20, isRf_21, isRf_22, isRf_23, isRf_24, isRf_25, isRf_26, isRf_27, isRf_28, k_X12_readSeason_0, k_X12_readSeason_1, k_X12_readSeason_2, k_X12_readSeason_5, k_X12_readSeason_6, k_X12_readSeason_7, k_X12_readSeason_10, k_X12_readSeason_13, k_X12_readSeason_14, k_X12_readSeason_15, k_X12_readSeason_16, k_X12_readSeason_17, k_X12_readSeason_18, k_X12_readSeason_21, k_X12_readSeason_22, k_X12_readSeason_23, k_X12_readSeason_25, k_X12_readSeason_26, k_X12_readSeason_27, k_X12_readSeason_28, k_X12_readSeason_31, k_X12_readSeason_32, k_X12_readSeason_35, k_X12_readSeason_36, k_X12_readSeason_39, k_X12_readSeason_40, k_X12_readSeason_43, k_X12_readSeason_44, k_X12_readSeason_47, k_X12_readSeason_49, k_X12_readSeason_52, k_X12_readSeason_53, k_X12_readSeason_56, k_X12_readSeason_57, k_X12_readSeason_58, k_X12_readSeason_59, k_X12_readSeason_62, k_X12_readSeason_63, k_X12_readSeason_65, k_X12_readSeason_68, k_X12_readSeason_69, k_X12_readSeason_72, k_X12_readSeason_73, k_X12_readSeason_74, k_X12_readSeason_75, k_X12_readSeason_78, k_X12_readSeason_79, k_X12_readSeason_80, k_X12_readSeason_83, k_X12_readSeason_84, k_X12_readSeason_85, k_X12_readSeason_88, k_X12_readSeason_91, k_X12_readSeason_92, k_X12_readSeason_95, k_X12_readSeason_96, k_X12_readSeason_97, k_X12_readSeason_98, k_X12_readSeason_99, k_X12_readSeason_102, k_X12_readSeason_103, k_X12_readSeason_106, k_X12_readSeason_107, k_X12_readSeason_110, k_X12_readSeason_111, w_X12_fails_e, w_X12_look_e, w_X12_readStep_e, w_X12_starts_e, msk, Mt, MtO, Mt4, MtO4, s14_5, s14_c, s14_fa, se_10, se_9, se_11, se_u10, se_u11]
      repeat' (first | apply And.intro | intro _)
      all_goals first | omega | exact absurd trivial (by assumption) | exact h8 (by assumption) | exact h9 (by assumption) | exact h9 (by omega) | exact h8 (by omega) | exact ⟨by omega, by omega⟩
    · have h8 := hq1 (by rw [hf]; omega) _ (hS q f v) (by rw [se_11, hf])
      have fn : ¬ f = -1 := by omega
      refine ⟨60, ?_⟩
      simp only [↓reduceIte, inR_0, inR_1, inR_m, vSw2_e, swP_n, swP_c, vI_e, vL_e, vNull_e, vIload_e, vLload_e, vAload_e, vIstore_e, vLstore_e, vAstore_e, vIinc_e, vIadd_e, vIsub_e, vImul_e, vIand_e, vIor_e, vIxor_e, vIshl_e, vIshr_e, vIushr_e, vIdiv_e, vIrem_e, vLadd_e, vLsub_e, vLmul_e, vLand_e, vLor_e, vLxor_e, vLdiv_e, vLrem_e, vLushr_e, vLshl_e, vLcmp_e, vIneg_e, vI2l_e, vL2i_e, vI2b_e, vI2c_e, vDup_e, vPop_e, vDup2_e, vGoto_e, vIcEq_e, vIfEq_e, vIcNe_e, vIfNe_e, vIcLt_e, vIfLt_e, vIcGe_e, vIfGe_e, vIcGt_e, vIfGt_e, vIcLe_e, vIfLe_e, vNonnull_e, vSw_e, vGetI_e, vGetL_e, vGetR_e, vPutI_e, vPutZ_e, vPutL_e, vPutR_e, vIald_e, vIald_s, vLald_e, vBald_e, vBald_s, vAald_e, vIast_e, vLast_e, vBast_e, vAast_e, vAlen_e8, vAlen_e9, vAlen_e10, vAlen_e11, vAlen_e5, vAlen_e3, vGets_e, vCompact_e, vLdcS_e, vIret_e, vZret_e, vCret_e, vBret_e, vLret_e, vVret_e, vAret_e, vCallM_e0, vCallMV_e0, vCallS_e0, vCallSV_e0, vCallM_e1, vCallMV_e1, vCallS_e1, vCallSV_e1, vCallM_e2, vCallMV_e2, vCallS_e2, vCallSV_e2, vCallM_e3, vCallMV_e3, vCallS_e3, vCallSV_e3, vCallM_e4, vCallMV_e4, vCallS_e4, vCallSV_e4, vCallM_e5, vCallMV_e5, vCallS_e5, vCallSV_e5, vCallM_e6, vCallMV_e6, vCallS_e6, vCallSV_e6, vCallM_e7, vCallMV_e7, vCallS_e7, vCallSV_e7, vBad_e, vStrVal_e, vStrCod_e, vForm_e, vCallT_e0, vCallT_e1, vCallT_e2, vCopy_e, rf_0_0, rf_0_1, rf_0_2, rf_0_3, rf_0_4, rf_0_7, rf_0_10, rf_0_11, rf_0_12, rf_0_13, rf_0_14, rf_0_15, rf_0_16, rf_1_0, rf_3_0, rf_3_1, rf_6_0, rf_6_1, rf_9_0, rf_9_1, rf_9_3, rf_13_0, rf_13_1, rf_13_2, rf_16_0, rf_16_1, rf_16_2, rf_16_3, rf_21_0, rf_21_1, rf_21_2, rf_21_3, rf_26_0, rf_26_1, rf_26_2, rf_26_3, rf_26_4, rf_26_5, rf_26_6, rf_31_0, rf_31_2, rf_31_5, rf_31_6, rf_36_0, rf_36_1, rf_36_2, rf_36_3, rf_39_0, rf_39_1, rf_39_2, rf_41_0, rf_41_1, rf_41_2, rf_41_3, rf_5000_1, rf_5000_2, rf_5000_3, rf_5000_4, rf_5000_5, rf_5000_15, rf_5000_16, rf_5000_18, rf_5000_19, rf_5000_20, rf_5000_21, rf_5000_22, rf_5000_23, rf_5000_24, rf_5000_25, rf_5000_26, rf_5000_27, rf_5000_36, rf_5000_37, rf_5000_40, rf_5000_41, rf_5000_42, rf_5000_43, rf_5000_44, rf_5000_45, rf_5000_47, rf_5000_52, rf_5000_54, rf_5000_55, rf_100_0, rf_100_1, rf_103_0, rf_103_1, rf_106_0, rf_106_1, rf_109_0, rf_109_1, al_2, al_4, al_5, al_7, al_8, al_10, al_11, al_12, al_14, al_15, al_17, al_18, al_19, al_20, al_22, al_23, al_24, al_25, al_27, al_28, al_29, al_30, al_32, al_33, al_34, al_35, al_37, al_38, al_40, al_42, al_5001, al_5002, al_5003, al_5004, al_5005, al_5006, al_5007, al_5008, al_5009, al_5010, al_5011, al_5012, al_5013, al_5014, al_5015, al_5016, al_5017, al_5018, al_5019, al_5020, al_5021, al_5022, al_5023, al_5024, al_5025, al_5026, al_9000, al_101, al_102, al_104, al_105, al_107, al_108, al_110, al_111, vcs_e, lg_c0, lg_cs, lg_nil, set_c0, set_cs, okst_0, okst_s, acok_n, acok_c, List.contains_nil, List.contains_cons, Bool.or_false, Bool.false_or, Bool.false_eq_true, if_false, if_true, ite_self, ne_eq, true_and, and_true, not_false_eq_true, not_true_eq_false, false_imp_iff, true_imp_iff, Nat.ble_eq, Bool.and_eq_true, reduceCtorEq, or_false, false_or, or_true, true_or, false_and, and_false, and_self, Int.reduceLE, Int.reduceAdd, Int.reduceSub, Int.reduceMul, Int.reduceNeg, Int.reduceLT, Int.reduceEq, Int.reduceNe, Nat.reduceBEq, Nat.reduceBNe, Nat.reduceEqDiff, amCmp_in, amCmp_lt, amCmp_le, amCmp_gt, amCmp_ge, amCmp_eq, amCmp_ne, Nat.reduceLeDiff, Nat.reduceSub, Bool.and_true, Bool.true_and, Bool.and_self, Bool.or_true, Bool.true_or, isRf_3, isRf_4, isRf_5, isRf_8, isRf_9, isRf_10, isRf_11, isRf_15, isRf_16, isRf_17, isRf_18, isRf_19, isRf_20, isRf_21, isRf_22, isRf_23, isRf_24, isRf_25, isRf_26, isRf_27, isRf_28, k_X12_readSeason_0, k_X12_readSeason_1, k_X12_readSeason_2, k_X12_readSeason_5, k_X12_readSeason_6, k_X12_readSeason_7, k_X12_readSeason_10, k_X12_readSeason_13, k_X12_readSeason_14, k_X12_readSeason_15, k_X12_readSeason_16, k_X12_readSeason_17, k_X12_readSeason_18, k_X12_readSeason_21, k_X12_readSeason_22, k_X12_readSeason_23, k_X12_readSeason_25, k_X12_readSeason_26, k_X12_readSeason_27, k_X12_readSeason_28, k_X12_readSeason_31, k_X12_readSeason_32, k_X12_readSeason_35, k_X12_readSeason_36, k_X12_readSeason_39, k_X12_readSeason_40, k_X12_readSeason_43, k_X12_readSeason_44, k_X12_readSeason_47, k_X12_readSeason_49, k_X12_readSeason_52, k_X12_readSeason_53, k_X12_readSeason_56, k_X12_readSeason_57, k_X12_readSeason_58, k_X12_readSeason_59, k_X12_readSeason_62, k_X12_readSeason_63, k_X12_readSeason_65, k_X12_readSeason_68, k_X12_readSeason_69, k_X12_readSeason_72, k_X12_readSeason_73, k_X12_readSeason_74, k_X12_readSeason_75, k_X12_readSeason_78, k_X12_readSeason_79, k_X12_readSeason_80, k_X12_readSeason_83, k_X12_readSeason_84, k_X12_readSeason_85, k_X12_readSeason_88, k_X12_readSeason_91, k_X12_readSeason_92, k_X12_readSeason_95, k_X12_readSeason_96, k_X12_readSeason_97, k_X12_readSeason_98, k_X12_readSeason_99, k_X12_readSeason_102, k_X12_readSeason_103, k_X12_readSeason_106, k_X12_readSeason_107, k_X12_readSeason_110, k_X12_readSeason_111, w_X12_fails_e, w_X12_look_e, w_X12_readStep_e, w_X12_starts_e, se_11, fn]
      repeat' (first | apply And.intro | intro _)
      all_goals first | omega | exact absurd trivial (by assumption) | exact h8
    · have s1 := sk_b (mtx m) p1
      have b1 := mtx_b ht (sk (mtx m) (m 5000 9) p)
      have ss := sk_sk (mtx m) p1
      have h8 : mtx m (sk (mtx m) (m 5000 9) p) = 59 → i + 1 = 16 → Q (6, 0) (seM m (sk (mtx m) (m 5000 9) p) (sk (mtx m) (m 5000 9) p) v) := fun e e2 =>
        hq1 (by rw [hB (by omega) (Or.inr e2)]; omega) _ (hS _ _ _) (by rw [se_11, hB (by omega) (Or.inr e2)])
      have i9 : mtx m (sk (mtx m) (m 5000 9) p) = 59 → ¬ i + 1 = 16 → ∃ k3, k3 < 2 * k' + 2 ∧ inv_rse m R k3 17 [(28, 5000), (0, i + 1), (0, 1)] [] (seM m (sk (mtx m) (m 5000 9) p + 1) (-1) v) := fun e e2 => by
        have s2 := sk_lt hte (q := sk (mtx m) (m 5000 9) p) (by omega)
        exact ⟨2 * k' + 1, by omega, rfl, i + 1, vF, by omega, Or.inl ⟨k', _, v, rfl, rfl, by omega, by omega, rfl, rfl, by omega, by omega, hv, hC e e2⟩⟩
      have i8 : mtx m (sk (mtx m) (m 5000 9) p) ≠ 59 → ∃ k3, k3 < 2 * k' + 2 ∧ inv_rse m R k3 17 [(28, 5000), (0, i + 1), (0, 0)] [] (seM m (sk (mtx m) (m 5000 9) p) (-1) v) := fun e =>
        ⟨0, by omega, rfl, i + 1, vF, by omega, Or.inr (Or.inl ⟨_, v, rfl, rfl, by omega, rfl, rfl, by omega, by omega, hv, fun a => hA (by rw [ss] at a; exact a), fun a => by rw [ss] at a ⊢; exact hB a (Or.inl e)⟩)⟩
      refine ⟨60, ?_⟩
      simp only [↓reduceIte, inR_0, inR_1, inR_m, vSw2_e, swP_n, swP_c, vI_e, vL_e, vNull_e, vIload_e, vLload_e, vAload_e, vIstore_e, vLstore_e, vAstore_e, vIinc_e, vIadd_e, vIsub_e, vImul_e, vIand_e, vIor_e, vIxor_e, vIshl_e, vIshr_e, vIushr_e, vIdiv_e, vIrem_e, vLadd_e, vLsub_e, vLmul_e, vLand_e, vLor_e, vLxor_e, vLdiv_e, vLrem_e, vLushr_e, vLshl_e, vLcmp_e, vIneg_e, vI2l_e, vL2i_e, vI2b_e, vI2c_e, vDup_e, vPop_e, vDup2_e, vGoto_e, vIcEq_e, vIfEq_e, vIcNe_e, vIfNe_e, vIcLt_e, vIfLt_e, vIcGe_e, vIfGe_e, vIcGt_e, vIfGt_e, vIcLe_e, vIfLe_e, vNonnull_e, vSw_e, vGetI_e, vGetL_e, vGetR_e, vPutI_e, vPutZ_e, vPutL_e, vPutR_e, vIald_e, vIald_s, vLald_e, vBald_e, vBald_s, vAald_e, vIast_e, vLast_e, vBast_e, vAast_e, vAlen_e8, vAlen_e9, vAlen_e10, vAlen_e11, vAlen_e5, vAlen_e3, vGets_e, vCompact_e, vLdcS_e, vIret_e, vZret_e, vCret_e, vBret_e, vLret_e, vVret_e, vAret_e, vCallM_e0, vCallMV_e0, vCallS_e0, vCallSV_e0, vCallM_e1, vCallMV_e1, vCallS_e1, vCallSV_e1, vCallM_e2, vCallMV_e2, vCallS_e2, vCallSV_e2, vCallM_e3, vCallMV_e3, vCallS_e3, vCallSV_e3, vCallM_e4, vCallMV_e4, vCallS_e4, vCallSV_e4, vCallM_e5, vCallMV_e5, vCallS_e5, vCallSV_e5, vCallM_e6, vCallMV_e6, vCallS_e6, vCallSV_e6, vCallM_e7, vCallMV_e7, vCallS_e7, vCallSV_e7, vBad_e, vStrVal_e, vStrCod_e, vForm_e, vCallT_e0, vCallT_e1, vCallT_e2, vCopy_e, rf_0_0, rf_0_1, rf_0_2, rf_0_3, rf_0_4, rf_0_7, rf_0_10, rf_0_11, rf_0_12, rf_0_13, rf_0_14, rf_0_15, rf_0_16, rf_1_0, rf_3_0, rf_3_1, rf_6_0, rf_6_1, rf_9_0, rf_9_1, rf_9_3, rf_13_0, rf_13_1, rf_13_2, rf_16_0, rf_16_1, rf_16_2, rf_16_3, rf_21_0, rf_21_1, rf_21_2, rf_21_3, rf_26_0, rf_26_1, rf_26_2, rf_26_3, rf_26_4, rf_26_5, rf_26_6, rf_31_0, rf_31_2, rf_31_5, rf_31_6, rf_36_0, rf_36_1, rf_36_2, rf_36_3, rf_39_0, rf_39_1, rf_39_2, rf_41_0, rf_41_1, rf_41_2, rf_41_3, rf_5000_1, rf_5000_2, rf_5000_3, rf_5000_4, rf_5000_5, rf_5000_15, rf_5000_16, rf_5000_18, rf_5000_19, rf_5000_20, rf_5000_21, rf_5000_22, rf_5000_23, rf_5000_24, rf_5000_25, rf_5000_26, rf_5000_27, rf_5000_36, rf_5000_37, rf_5000_40, rf_5000_41, rf_5000_42, rf_5000_43, rf_5000_44, rf_5000_45, rf_5000_47, rf_5000_52, rf_5000_54, rf_5000_55, rf_100_0, rf_100_1, rf_103_0, rf_103_1, rf_106_0, rf_106_1, rf_109_0, rf_109_1, al_2, al_4, al_5, al_7, al_8, al_10, al_11, al_12, al_14, al_15, al_17, al_18, al_19, al_20, al_22, al_23, al_24, al_25, al_27, al_28, al_29, al_30, al_32, al_33, al_34, al_35, al_37, al_38, al_40, al_42, al_5001, al_5002, al_5003, al_5004, al_5005, al_5006, al_5007, al_5008, al_5009, al_5010, al_5011, al_5012, al_5013, al_5014, al_5015, al_5016, al_5017, al_5018, al_5019, al_5020, al_5021, al_5022, al_5023, al_5024, al_5025, al_5026, al_9000, al_101, al_102, al_104, al_105, al_107, al_108, al_110, al_111, vcs_e, lg_c0, lg_cs, lg_nil, set_c0, set_cs, okst_0, okst_s, acok_n, acok_c, List.contains_nil, List.contains_cons, Bool.or_false, Bool.false_or, Bool.false_eq_true, if_false, if_true, ite_self, ne_eq, true_and, and_true, not_false_eq_true, not_true_eq_false, false_imp_iff, true_imp_iff, Nat.ble_eq, Bool.and_eq_true, reduceCtorEq, or_false, false_or, or_true, true_or, false_and, and_false, and_self, Int.reduceLE, Int.reduceAdd, Int.reduceSub, Int.reduceMul, Int.reduceNeg, Int.reduceLT, Int.reduceEq, Int.reduceNe, Nat.reduceBEq, Nat.reduceBNe, Nat.reduceEqDiff, amCmp_in, amCmp_lt, amCmp_le, amCmp_gt, amCmp_ge, amCmp_eq, amCmp_ne, Nat.reduceLeDiff, Nat.reduceSub, Bool.and_true, Bool.true_and, Bool.and_self, Bool.or_true, Bool.true_or, isRf_3, isRf_4, isRf_5, isRf_8, isRf_9, isRf_10, isRf_11, isRf_15, isRf_16, isRf_17, isRf_18, isRf_19, isRf_20, isRf_21, isRf_22, isRf_23, isRf_24, isRf_25, isRf_26, isRf_27, isRf_28, k_X12_readSeason_0, k_X12_readSeason_1, k_X12_readSeason_2, k_X12_readSeason_5, k_X12_readSeason_6, k_X12_readSeason_7, k_X12_readSeason_10, k_X12_readSeason_13, k_X12_readSeason_14, k_X12_readSeason_15, k_X12_readSeason_16, k_X12_readSeason_17, k_X12_readSeason_18, k_X12_readSeason_21, k_X12_readSeason_22, k_X12_readSeason_23, k_X12_readSeason_25, k_X12_readSeason_26, k_X12_readSeason_27, k_X12_readSeason_28, k_X12_readSeason_31, k_X12_readSeason_32, k_X12_readSeason_35, k_X12_readSeason_36, k_X12_readSeason_39, k_X12_readSeason_40, k_X12_readSeason_43, k_X12_readSeason_44, k_X12_readSeason_47, k_X12_readSeason_49, k_X12_readSeason_52, k_X12_readSeason_53, k_X12_readSeason_56, k_X12_readSeason_57, k_X12_readSeason_58, k_X12_readSeason_59, k_X12_readSeason_62, k_X12_readSeason_63, k_X12_readSeason_65, k_X12_readSeason_68, k_X12_readSeason_69, k_X12_readSeason_72, k_X12_readSeason_73, k_X12_readSeason_74, k_X12_readSeason_75, k_X12_readSeason_78, k_X12_readSeason_79, k_X12_readSeason_80, k_X12_readSeason_83, k_X12_readSeason_84, k_X12_readSeason_85, k_X12_readSeason_88, k_X12_readSeason_91, k_X12_readSeason_92, k_X12_readSeason_95, k_X12_readSeason_96, k_X12_readSeason_97, k_X12_readSeason_98, k_X12_readSeason_99, k_X12_readSeason_102, k_X12_readSeason_103, k_X12_readSeason_106, k_X12_readSeason_107, k_X12_readSeason_110, k_X12_readSeason_111, w_X12_fails_e, w_X12_look_e, w_X12_readStep_e, w_X12_starts_e, msk, Mt, MtO, se_10, se_9, se_11, se_u10, se_u11, se_fa]
      repeat' (first | apply And.intro | intro _)
      all_goals first | omega | exact absurd trivial (by assumption) | exact i8 (by assumption) | exact h8 (by assumption) (by assumption) | exact i9 (by assumption) (by assumption) | exact h8 (by omega) (by omega) | exact i9 (by omega) (by omega) | exact ⟨by omega, by omega⟩
  · change vcs _ _ _ _ 60 0 [(28, 5000), (6, 0), (6, 0)] [] σ
    have i9 : ∃ k3, inv_rse m R k3 17 [(28, 5000), (0, 0), (0, 1)] [] m := ⟨33, rfl, 0, fun _ => 0, by decide, Or.inl ⟨16, 0, fun k => m 5013 (192 + k), rfl, rfl, by decide, by decide, rfl, hid.symm, by decide, n0, fun k h0 h1 => by omega, hR⟩⟩
    simp only [↓reduceIte, inR_0, inR_1, inR_m, vSw2_e, swP_n, swP_c, vI_e, vL_e, vNull_e, vIload_e, vLload_e, vAload_e, vIstore_e, vLstore_e, vAstore_e, vIinc_e, vIadd_e, vIsub_e, vImul_e, vIand_e, vIor_e, vIxor_e, vIshl_e, vIshr_e, vIushr_e, vIdiv_e, vIrem_e, vLadd_e, vLsub_e, vLmul_e, vLand_e, vLor_e, vLxor_e, vLdiv_e, vLrem_e, vLushr_e, vLshl_e, vLcmp_e, vIneg_e, vI2l_e, vL2i_e, vI2b_e, vI2c_e, vDup_e, vPop_e, vDup2_e, vGoto_e, vIcEq_e, vIfEq_e, vIcNe_e, vIfNe_e, vIcLt_e, vIfLt_e, vIcGe_e, vIfGe_e, vIcGt_e, vIfGt_e, vIcLe_e, vIfLe_e, vNonnull_e, vSw_e, vGetI_e, vGetL_e, vGetR_e, vPutI_e, vPutZ_e, vPutL_e, vPutR_e, vIald_e, vIald_s, vLald_e, vBald_e, vBald_s, vAald_e, vIast_e, vLast_e, vBast_e, vAast_e, vAlen_e8, vAlen_e9, vAlen_e10, vAlen_e11, vAlen_e5, vAlen_e3, vGets_e, vCompact_e, vLdcS_e, vIret_e, vZret_e, vCret_e, vBret_e, vLret_e, vVret_e, vAret_e, vCallM_e0, vCallMV_e0, vCallS_e0, vCallSV_e0, vCallM_e1, vCallMV_e1, vCallS_e1, vCallSV_e1, vCallM_e2, vCallMV_e2, vCallS_e2, vCallSV_e2, vCallM_e3, vCallMV_e3, vCallS_e3, vCallSV_e3, vCallM_e4, vCallMV_e4, vCallS_e4, vCallSV_e4, vCallM_e5, vCallMV_e5, vCallS_e5, vCallSV_e5, vCallM_e6, vCallMV_e6, vCallS_e6, vCallSV_e6, vCallM_e7, vCallMV_e7, vCallS_e7, vCallSV_e7, vBad_e, vStrVal_e, vStrCod_e, vForm_e, vCallT_e0, vCallT_e1, vCallT_e2, vCopy_e, rf_0_0, rf_0_1, rf_0_2, rf_0_3, rf_0_4, rf_0_7, rf_0_10, rf_0_11, rf_0_12, rf_0_13, rf_0_14, rf_0_15, rf_0_16, rf_1_0, rf_3_0, rf_3_1, rf_6_0, rf_6_1, rf_9_0, rf_9_1, rf_9_3, rf_13_0, rf_13_1, rf_13_2, rf_16_0, rf_16_1, rf_16_2, rf_16_3, rf_21_0, rf_21_1, rf_21_2, rf_21_3, rf_26_0, rf_26_1, rf_26_2, rf_26_3, rf_26_4, rf_26_5, rf_26_6, rf_31_0, rf_31_2, rf_31_5, rf_31_6, rf_36_0, rf_36_1, rf_36_2, rf_36_3, rf_39_0, rf_39_1, rf_39_2, rf_41_0, rf_41_1, rf_41_2, rf_41_3, rf_5000_1, rf_5000_2, rf_5000_3, rf_5000_4, rf_5000_5, rf_5000_15, rf_5000_16, rf_5000_18, rf_5000_19, rf_5000_20, rf_5000_21, rf_5000_22, rf_5000_23, rf_5000_24, rf_5000_25, rf_5000_26, rf_5000_27, rf_5000_36, rf_5000_37, rf_5000_40, rf_5000_41, rf_5000_42, rf_5000_43, rf_5000_44, rf_5000_45, rf_5000_47, rf_5000_52, rf_5000_54, rf_5000_55, rf_100_0, rf_100_1, rf_103_0, rf_103_1, rf_106_0, rf_106_1, rf_109_0, rf_109_1, al_2, al_4, al_5, al_7, al_8, al_10, al_11, al_12, al_14, al_15, al_17, al_18, al_19, al_20, al_22, al_23, al_24, al_25, al_27, al_28, al_29, al_30, al_32, al_33, al_34, al_35, al_37, al_38, al_40, al_42, al_5001, al_5002, al_5003, al_5004, al_5005, al_5006, al_5007, al_5008, al_5009, al_5010, al_5011, al_5012, al_5013, al_5014, al_5015, al_5016, al_5017, al_5018, al_5019, al_5020, al_5021, al_5022, al_5023, al_5024, al_5025, al_5026, al_9000, al_101, al_102, al_104, al_105, al_107, al_108, al_110, al_111, vcs_e, lg_c0, lg_cs, lg_nil, set_c0, set_cs, okst_0, okst_s, acok_n, acok_c, List.contains_nil, List.contains_cons, Bool.or_false, Bool.false_or, Bool.false_eq_true, if_false, if_true, ite_self, ne_eq, true_and, and_true, not_false_eq_true, not_true_eq_false, false_imp_iff, true_imp_iff, Nat.ble_eq, Bool.and_eq_true, reduceCtorEq, or_false, false_or, or_true, true_or, false_and, and_false, and_self, Int.reduceLE, Int.reduceAdd, Int.reduceSub, Int.reduceMul, Int.reduceNeg, Int.reduceLT, Int.reduceEq, Int.reduceNe, Nat.reduceBEq, Nat.reduceBNe, Nat.reduceEqDiff, amCmp_in, amCmp_lt, amCmp_le, amCmp_gt, amCmp_ge, amCmp_eq, amCmp_ne, Nat.reduceLeDiff, Nat.reduceSub, Bool.and_true, Bool.true_and, Bool.and_self, Bool.or_true, Bool.true_or, isRf_3, isRf_4, isRf_5, isRf_8, isRf_9, isRf_10, isRf_11, isRf_15, isRf_16, isRf_17, isRf_18, isRf_19, isRf_20, isRf_21, isRf_22, isRf_23, isRf_24, isRf_25, isRf_26, isRf_27, isRf_28, k_X12_readSeason_0, k_X12_readSeason_1, k_X12_readSeason_2, k_X12_readSeason_5, k_X12_readSeason_6, k_X12_readSeason_7, k_X12_readSeason_10, k_X12_readSeason_13, k_X12_readSeason_14, k_X12_readSeason_15, k_X12_readSeason_16, k_X12_readSeason_17, k_X12_readSeason_18, k_X12_readSeason_21, k_X12_readSeason_22, k_X12_readSeason_23, k_X12_readSeason_25, k_X12_readSeason_26, k_X12_readSeason_27, k_X12_readSeason_28, k_X12_readSeason_31, k_X12_readSeason_32, k_X12_readSeason_35, k_X12_readSeason_36, k_X12_readSeason_39, k_X12_readSeason_40, k_X12_readSeason_43, k_X12_readSeason_44, k_X12_readSeason_47, k_X12_readSeason_49, k_X12_readSeason_52, k_X12_readSeason_53, k_X12_readSeason_56, k_X12_readSeason_57, k_X12_readSeason_58, k_X12_readSeason_59, k_X12_readSeason_62, k_X12_readSeason_63, k_X12_readSeason_65, k_X12_readSeason_68, k_X12_readSeason_69, k_X12_readSeason_72, k_X12_readSeason_73, k_X12_readSeason_74, k_X12_readSeason_75, k_X12_readSeason_78, k_X12_readSeason_79, k_X12_readSeason_80, k_X12_readSeason_83, k_X12_readSeason_84, k_X12_readSeason_85, k_X12_readSeason_88, k_X12_readSeason_91, k_X12_readSeason_92, k_X12_readSeason_95, k_X12_readSeason_96, k_X12_readSeason_97, k_X12_readSeason_98, k_X12_readSeason_99, k_X12_readSeason_102, k_X12_readSeason_103, k_X12_readSeason_106, k_X12_readSeason_107, k_X12_readSeason_110, k_X12_readSeason_111, w_X12_fails_e, w_X12_look_e, w_X12_readStep_e, w_X12_starts_e, hm]
    repeat' (first | apply And.intro | intro _)
    all_goals first | omega | exact absurd trivial (by assumption) | exact i9 | exact Or.inl rfl
/-! the reference reads numbers of a HOUSE -/
abbrev dg (x : Int) : Prop := 48 ≤ x ∧ x ≤ 57
theorem fa_u {σ : Mem} (hf : σ 5000 11 = -1) (x : Int) : faM (up σ 5000 10 x) = up (up σ 5000 10 x) 5000 11 x := by
  unfold faM; rw [if_pos (by rw [up_nj _ (by decide)]; exact hf), up_s]
theorem wd_1554 : Cond.methodLink RX12 229 yX12_here ∈ TBL := tb_tab (List.mem_of_getElem? (i := 1554) (by decide +kernel)) rfl
theorem wd_1557 : Cond.code yX12_here cX12_here 1 (some .int) ∈ TBL := tb_tab (List.mem_of_getElem? (i := 1557) (by decide +kernel)) rfl
theorem lk_X12_229 : amLk RX12 229 yX12_here cX12_here 1 (some .int) 0 := ⟨wd_1554, wd_12, wd_1557, by decide +kernel, by decide +kernel, by decide⟩
theorem wd_1556 : Cond.instanceMethod yX12_here ∈ TBL := tb_tab (List.mem_of_getElem? (i := 1556) (by decide +kernel)) rfl
theorem sl_X12_here : Cond.selects RX12 yX12_here yX12_here ∈ TBL := tb_sel (List.mem_of_getElem? (i := 56) (by decide +kernel)) rfl
def a_X12_number : AC := [(0, vAload 0 1), (1, vCallM w_X12_look 28 0 4), (4, vIstore 3 5), (5, vAload 0 6), (6, vCallM w_X12_isDigit 28 0 9), (9, vIfNe 19 12), (12, vAload 0 13), (13, vCallM w_X12_fails 28 0 16), (16, vPop 17), (17, vI 0 18), (18, vIret), (19, vIload 3 20), (20, vI 48 22), (22, vIsub 23), (23, vIstore 4 25), (25, vAload 0 26), (26, vDup 27), (27, vGetI 28 10 30), (30, vI 1 31), (31, vIadd 32), (32, vPutI 28 10 35), (35, vAload 0 36), (36, vCallM w_X12_isDigit 28 0 39), (39, vIfEq 67 42), (42, vI 10 44), (44, vIload 4 46), (46, vImul 47), (47, vAload 0 48), (48, vCallM w_X12_here 28 0 51), (51, vIadd 52), (52, vI 48 54), (54, vIsub 55), (55, vIstore 4 57), (57, vAload 0 58), (58, vDup 59), (59, vGetI 28 10 62), (62, vI 1 63), (63, vIadd 64), (64, vPutI 28 10 67), (67, vAload 0 68), (68, vCallM w_X12_isDigit 28 0 71), (71, vIfEq 81 74), (74, vAload 0 75), (75, vCallM w_X12_fails 28 0 78), (78, vPop 79), (79, vI 0 80), (80, vIret), (81, vIload 4 83), (83, vI2l 84), (84, vIload 1 85), (85, vI2l 86), (86, vIload 2 87), (87, vI2l 88), (88, vCallS w_X12_isIn 3 91), (91, vIfNe 109 94), (94, vAload 0 95), (95, vDup 96), (96, vGetI 28 10 99), (99, vI 1 100), (100, vIsub 101), (101, vPutI 28 10 104), (104, vAload 0 105), (105, vCallM w_X12_fails 28 0 108), (108, vPop 109), (109, vIload 4 111), (111, vIret)]
theorem k_X12_number_0 : look a_X12_number 0 = vAload 0 1 := rfl
theorem k_X12_number_1 : look a_X12_number 1 = vCallM w_X12_look 28 0 4 := rfl
theorem k_X12_number_4 : look a_X12_number 4 = vIstore 3 5 := rfl
theorem k_X12_number_5 : look a_X12_number 5 = vAload 0 6 := rfl
theorem k_X12_number_6 : look a_X12_number 6 = vCallM w_X12_isDigit 28 0 9 := rfl
theorem k_X12_number_9 : look a_X12_number 9 = vIfNe 19 12 := rfl
theorem k_X12_number_12 : look a_X12_number 12 = vAload 0 13 := rfl
theorem k_X12_number_13 : look a_X12_number 13 = vCallM w_X12_fails 28 0 16 := rfl
theorem k_X12_number_16 : look a_X12_number 16 = vPop 17 := rfl
theorem k_X12_number_17 : look a_X12_number 17 = vI 0 18 := rfl
theorem k_X12_number_18 : look a_X12_number 18 = vIret := rfl
theorem k_X12_number_19 : look a_X12_number 19 = vIload 3 20 := rfl
theorem k_X12_number_20 : look a_X12_number 20 = vI 48 22 := rfl
theorem k_X12_number_22 : look a_X12_number 22 = vIsub 23 := rfl
theorem k_X12_number_23 : look a_X12_number 23 = vIstore 4 25 := rfl
theorem k_X12_number_25 : look a_X12_number 25 = vAload 0 26 := rfl
theorem k_X12_number_26 : look a_X12_number 26 = vDup 27 := rfl
theorem k_X12_number_27 : look a_X12_number 27 = vGetI 28 10 30 := rfl
theorem k_X12_number_30 : look a_X12_number 30 = vI 1 31 := rfl
theorem k_X12_number_31 : look a_X12_number 31 = vIadd 32 := rfl
theorem k_X12_number_32 : look a_X12_number 32 = vPutI 28 10 35 := rfl
theorem k_X12_number_35 : look a_X12_number 35 = vAload 0 36 := rfl
theorem k_X12_number_36 : look a_X12_number 36 = vCallM w_X12_isDigit 28 0 39 := rfl
theorem k_X12_number_39 : look a_X12_number 39 = vIfEq 67 42 := rfl
theorem k_X12_number_42 : look a_X12_number 42 = vI 10 44 := rfl
theorem k_X12_number_44 : look a_X12_number 44 = vIload 4 46 := rfl
theorem k_X12_number_46 : look a_X12_number 46 = vImul 47 := rfl
theorem k_X12_number_47 : look a_X12_number 47 = vAload 0 48 := rfl
theorem k_X12_number_48 : look a_X12_number 48 = vCallM w_X12_here 28 0 51 := rfl
theorem k_X12_number_51 : look a_X12_number 51 = vIadd 52 := rfl
theorem k_X12_number_52 : look a_X12_number 52 = vI 48 54 := rfl
theorem k_X12_number_54 : look a_X12_number 54 = vIsub 55 := rfl
theorem k_X12_number_55 : look a_X12_number 55 = vIstore 4 57 := rfl
theorem k_X12_number_57 : look a_X12_number 57 = vAload 0 58 := rfl
theorem k_X12_number_58 : look a_X12_number 58 = vDup 59 := rfl
theorem k_X12_number_59 : look a_X12_number 59 = vGetI 28 10 62 := rfl
theorem k_X12_number_62 : look a_X12_number 62 = vI 1 63 := rfl
theorem k_X12_number_63 : look a_X12_number 63 = vIadd 64 := rfl
theorem k_X12_number_64 : look a_X12_number 64 = vPutI 28 10 67 := rfl
theorem k_X12_number_67 : look a_X12_number 67 = vAload 0 68 := rfl
theorem k_X12_number_68 : look a_X12_number 68 = vCallM w_X12_isDigit 28 0 71 := rfl
theorem k_X12_number_71 : look a_X12_number 71 = vIfEq 81 74 := rfl
theorem k_X12_number_74 : look a_X12_number 74 = vAload 0 75 := rfl
theorem k_X12_number_75 : look a_X12_number 75 = vCallM w_X12_fails 28 0 78 := rfl
theorem k_X12_number_78 : look a_X12_number 78 = vPop 79 := rfl
theorem k_X12_number_79 : look a_X12_number 79 = vI 0 80 := rfl
theorem k_X12_number_80 : look a_X12_number 80 = vIret := rfl
theorem k_X12_number_81 : look a_X12_number 81 = vIload 4 83 := rfl
theorem k_X12_number_83 : look a_X12_number 83 = vI2l 84 := rfl
theorem k_X12_number_84 : look a_X12_number 84 = vIload 1 85 := rfl
theorem k_X12_number_85 : look a_X12_number 85 = vI2l 86 := rfl
theorem k_X12_number_86 : look a_X12_number 86 = vIload 2 87 := rfl
theorem k_X12_number_87 : look a_X12_number 87 = vI2l 88 := rfl
theorem k_X12_number_88 : look a_X12_number 88 = vCallS w_X12_isIn 3 91 := rfl
theorem k_X12_number_91 : look a_X12_number 91 = vIfNe 109 94 := rfl
theorem k_X12_number_94 : look a_X12_number 94 = vAload 0 95 := rfl
theorem k_X12_number_95 : look a_X12_number 95 = vDup 96 := rfl
theorem k_X12_number_96 : look a_X12_number 96 = vGetI 28 10 99 := rfl
theorem k_X12_number_99 : look a_X12_number 99 = vI 1 100 := rfl
theorem k_X12_number_100 : look a_X12_number 100 = vIsub 101 := rfl
theorem k_X12_number_101 : look a_X12_number 101 = vPutI 28 10 104 := rfl
theorem k_X12_number_104 : look a_X12_number 104 = vAload 0 105 := rfl
theorem k_X12_number_105 : look a_X12_number 105 = vCallM w_X12_fails 28 0 108 := rfl
theorem k_X12_number_108 : look a_X12_number 108 = vPop 109 := rfl
theorem k_X12_number_109 : look a_X12_number 109 = vIload 4 111 := rfl
theorem k_X12_number_111 : look a_X12_number 111 = vIret := rfl
theorem o_X12_number {X : amX} (e1 : XT X = TT) (e2 : XD X = 1) (hB : amB X RX12 cX12_number (some .int) 5) : ∀ pc, amOK X pc (look a_X12_number pc) := by
  have hT : amTok (XT X) := e1 ▸ TT_ok
  refine look_ok ?_
  unfold a_X12_number
  refine fc (ok_aload_n hB dX12_number_0) ?_
  refine fc (ok_callM hB hT (e1 ▸ s_X12_look) lk_X12_153 (by rw [e2]; decide) (c := 12) rfl rfl rfl wd_1521 sl_X12_look dX12_number_1) ?_
  refine fc (ok_istore_n hB (by decide) dX12_number_4) ?_
  refine fc (ok_aload_n hB dX12_number_5) ?_
  refine fc (ok_callM hB hT (e1 ▸ s_X12_isDigit) lk_X12_183 (by rw [e2]; decide) (c := 12) rfl rfl rfl wd_1552 sl_X12_isDigit dX12_number_6) ?_
  refine fc (ok_if_ne hB (t := 19) (by decide) dX12_number_9) ?_
  refine fc (ok_aload_n hB dX12_number_12) ?_
  refine fc (ok_callM hB hT (e1 ▸ s_X12_fails) lk_X12_149 (by rw [e2]; decide) (c := 12) rfl rfl rfl wd_1525 sl_X12_fails dX12_number_13) ?_
  refine fc (ok_pop hB dX12_number_16) ?_
  refine fc (ok_iconst hB dX12_number_17) ?_
  refine fc (ok_iret hB dX12_number_18) ?_
  refine fc (ok_iload_n hB dX12_number_19) ?_
  refine fc (ok_bipush hB dX12_number_20 (by decide)) ?_
  refine fc (ok_isub hB dX12_number_22) ?_
  refine fc (ok_istore hB (by decide) dX12_number_23) ?_
  refine fc (ok_aload_n hB dX12_number_25) ?_
  refine fc (ok_dup hB dX12_number_26) ?_
  refine fc (ok_getI hB hT fl_X12_134 rfl rfl (Or.inl af_12_10) dX12_number_27) ?_
  refine fc (ok_iconst hB dX12_number_30) ?_
  refine fc (ok_iadd hB dX12_number_31) ?_
  refine fc (ok_putI hB hT fp_X12_134 rfl rfl rfl af_12_10 dX12_number_32) ?_
  refine fc (ok_aload_n hB dX12_number_35) ?_
  refine fc (ok_callM hB hT (e1 ▸ s_X12_isDigit) lk_X12_183 (by rw [e2]; decide) (c := 12) rfl rfl rfl wd_1552 sl_X12_isDigit dX12_number_36) ?_
  refine fc (ok_if_eq hB (t := 67) (by decide) dX12_number_39) ?_
  refine fc (ok_bipush hB dX12_number_42 (by decide)) ?_
  refine fc (ok_iload hB dX12_number_44) ?_
  refine fc (ok_imul hB dX12_number_46) ?_
  refine fc (ok_aload_n hB dX12_number_47) ?_
  refine fc (ok_callM hB hT (e1 ▸ s_X12_here) lk_X12_229 (by rw [e2]; decide) (c := 12) rfl rfl rfl wd_1556 sl_X12_here dX12_number_48) ?_
  refine fc (ok_iadd hB dX12_number_51) ?_
  refine fc (ok_bipush hB dX12_number_52 (by decide)) ?_
  refine fc (ok_isub hB dX12_number_54) ?_
  refine fc (ok_istore hB (by decide) dX12_number_55) ?_
  refine fc (ok_aload_n hB dX12_number_57) ?_
  refine fc (ok_dup hB dX12_number_58) ?_
  refine fc (ok_getI hB hT fl_X12_134 rfl rfl (Or.inl af_12_10) dX12_number_59) ?_
  refine fc (ok_iconst hB dX12_number_62) ?_
  refine fc (ok_iadd hB dX12_number_63) ?_
  refine fc (ok_putI hB hT fp_X12_134 rfl rfl rfl af_12_10 dX12_number_64) ?_
  refine fc (ok_aload_n hB dX12_number_67) ?_
  refine fc (ok_callM hB hT (e1 ▸ s_X12_isDigit) lk_X12_183 (by rw [e2]; decide) (c := 12) rfl rfl rfl wd_1552 sl_X12_isDigit dX12_number_68) ?_
  refine fc (ok_if_eq hB (t := 81) (by decide) dX12_number_71) ?_
  refine fc (ok_aload_n hB dX12_number_74) ?_
  refine fc (ok_callM hB hT (e1 ▸ s_X12_fails) lk_X12_149 (by rw [e2]; decide) (c := 12) rfl rfl rfl wd_1525 sl_X12_fails dX12_number_75) ?_
  refine fc (ok_pop hB dX12_number_78) ?_
  refine fc (ok_iconst hB dX12_number_79) ?_
  refine fc (ok_iret hB dX12_number_80) ?_
  refine fc (ok_iload hB dX12_number_81) ?_
  refine fc (ok_i2l hB dX12_number_83) ?_
  refine fc (ok_iload_n hB dX12_number_84) ?_
  refine fc (ok_i2l hB dX12_number_85) ?_
  refine fc (ok_iload_n hB dX12_number_86) ?_
  refine fc (ok_i2l hB dX12_number_87) ?_
  refine fc (ok_callS hB (e1 ▸ s_X12_isIn) lk_X12_232 (by rw [e2]; decide) wd_1502 dX12_number_88) ?_
  refine fc (ok_if_ne hB (t := 109) (by decide) dX12_number_91) ?_
  refine fc (ok_aload_n hB dX12_number_94) ?_
  refine fc (ok_dup hB dX12_number_95) ?_
  refine fc (ok_getI hB hT fl_X12_134 rfl rfl (Or.inl af_12_10) dX12_number_96) ?_
  refine fc (ok_iconst hB dX12_number_99) ?_
  refine fc (ok_isub hB dX12_number_100) ?_
  refine fc (ok_putI hB hT fp_X12_134 rfl rfl rfl af_12_10 dX12_number_101) ?_
  refine fc (ok_aload_n hB dX12_number_104) ?_
  refine fc (ok_callM hB hT (e1 ▸ s_X12_fails) lk_X12_149 (by rw [e2]; decide) (c := 12) rfl rfl rfl wd_1525 sl_X12_fails dX12_number_105) ?_
  refine fc (ok_pop hB dX12_number_108) ?_
  refine fc (ok_iload hB dX12_number_109) ?_
  refine fc (ok_iret hB dX12_number_111) ?_
  exact fn

def w_X12_number : WP := fun av σ Q => ∃ (a : Int) (b : Int), av = [(28, 5000), (0, a), (0, b)] ∧ (txOk σ ∧ 0 ≤ σ 5000 10 ∧ σ 5000 10 ≤ σ 5000 9 ∧ σ 5000 11 = -1 ∧ 0 ≤ a ∧ a ≤ 99 ∧ 0 ≤ b ∧ b ≤ 99 ∧ (¬ dg (mtx σ (msk σ)) → Q (0, 0) (up (up σ 5000 10 (msk σ)) 5000 11 (msk σ))) ∧
(dg (mtx σ (msk σ)) → ¬ dg (mtx σ (msk σ + 1)) → (a ≤ mtx σ (msk σ) - 48 ∧ mtx σ (msk σ) - 48 ≤ b → Q (0, mtx σ (msk σ) - 48) (up σ 5000 10 (msk σ + 1))) ∧ (¬ (a ≤ mtx σ (msk σ) - 48 ∧ mtx σ (msk σ) - 48 ≤ b) → Q (0, mtx σ (msk σ) - 48) (up (up σ 5000 10 (msk σ)) 5000 11 (msk σ)))) ∧
(dg (mtx σ (msk σ)) → dg (mtx σ (msk σ + 1)) → dg (mtx σ (msk σ + 2)) → Q (0, 0) (up (up σ 5000 10 (msk σ + 2)) 5000 11 (msk σ + 2))) ∧
(dg (mtx σ (msk σ)) → dg (mtx σ (msk σ + 1)) → ¬ dg (mtx σ (msk σ + 2)) → (a ≤ 10 * (mtx σ (msk σ) - 48) + mtx σ (msk σ + 1) - 48 ∧ 10 * (mtx σ (msk σ) - 48) + mtx σ (msk σ + 1) - 48 ≤ b → Q (0, 10 * (mtx σ (msk σ) - 48) + mtx σ (msk σ + 1) - 48) (up σ 5000 10 (msk σ + 2))) ∧ (¬ (a ≤ 10 * (mtx σ (msk σ) - 48) + mtx σ (msk σ + 1) - 48 ∧ 10 * (mtx σ (msk σ) - 48) + mtx σ (msk σ + 1) - 48 ≤ b) → Q (0, 10 * (mtx σ (msk σ) - 48) + mtx σ (msk σ + 1) - 48) (up (up σ 5000 10 (msk σ + 1)) 5000 11 (msk σ + 1)))))
theorem w_X12_number_e (a : Int) (b : Int) (σ : Mem) (Q : AV → Mem → Prop) : w_X12_number [(28, 5000), (0, a), (0, b)] σ Q = (txOk σ ∧ 0 ≤ σ 5000 10 ∧ σ 5000 10 ≤ σ 5000 9 ∧ σ 5000 11 = -1 ∧ 0 ≤ a ∧ a ≤ 99 ∧ 0 ≤ b ∧ b ≤ 99 ∧ (¬ dg (mtx σ (msk σ)) → Q (0, 0) (up (up σ 5000 10 (msk σ)) 5000 11 (msk σ))) ∧
(dg (mtx σ (msk σ)) → ¬ dg (mtx σ (msk σ + 1)) → (a ≤ mtx σ (msk σ) - 48 ∧ mtx σ (msk σ) - 48 ≤ b → Q (0, mtx σ (msk σ) - 48) (up σ 5000 10 (msk σ + 1))) ∧ (¬ (a ≤ mtx σ (msk σ) - 48 ∧ mtx σ (msk σ) - 48 ≤ b) → Q (0, mtx σ (msk σ) - 48) (up (up σ 5000 10 (msk σ)) 5000 11 (msk σ)))) ∧
(dg (mtx σ (msk σ)) → dg (mtx σ (msk σ + 1)) → dg (mtx σ (msk σ + 2)) → Q (0, 0) (up (up σ 5000 10 (msk σ + 2)) 5000 11 (msk σ + 2))) ∧
(dg (mtx σ (msk σ)) → dg (mtx σ (msk σ + 1)) → ¬ dg (mtx σ (msk σ + 2)) → (a ≤ 10 * (mtx σ (msk σ) - 48) + mtx σ (msk σ + 1) - 48 ∧ 10 * (mtx σ (msk σ) - 48) + mtx σ (msk σ + 1) - 48 ≤ b → Q (0, 10 * (mtx σ (msk σ) - 48) + mtx σ (msk σ + 1) - 48) (up σ 5000 10 (msk σ + 2))) ∧ (¬ (a ≤ 10 * (mtx σ (msk σ) - 48) + mtx σ (msk σ + 1) - 48 ∧ 10 * (mtx σ (msk σ) - 48) + mtx σ (msk σ + 1) - 48 ≤ b) → Q (0, 10 * (mtx σ (msk σ) - 48) + mtx σ (msk σ + 1) - 48) (up (up σ 5000 10 (msk σ + 1)) 5000 11 (msk σ + 1))))) := by
  apply propext; constructor
  · rintro ⟨a', b', h9, hb9⟩; cases h9; exact hb9
  · intro hb9; exact ⟨a, b, rfl, hb9⟩

set_option maxRecDepth 100000 in
set_option maxHeartbeats 4000000 in
theorem s_X12_number : ∀ av σ Q, w_X12_number av σ Q → amCall 1 0 0 TT yX12_number cX12_number 5 (some .int) av σ Q := by
  rintro av σ Q ⟨a, b, rfl, ht, h0, h1, hf, a0, a1, b0, b1, hq1, hq2, hq3, hq4⟩
  have hsb : σ 5000 10 ≤ msk σ ∧ msk σ ≤ σ 5000 9 := sk_b (mtx σ) h1
  have tb := mtx_b ht (msk σ)
  have n1 := ht.2.1
  have et : ∀ v, mtx (up σ 5000 10 v) = mtx σ := fun v => mtx_u10 ht v
  have hto : ∀ v, txOk (up σ 5000 10 v) = True := fun v => eq_true (txOk_u10 ht v)
  have hte := mtx_n ht
  have u9 : ∀ v, up σ 5000 10 v 5000 9 = σ 5000 9 := fun v => up_nj _ (by decide)
  have u11 : ∀ v, up σ 5000 10 v 5000 11 = -1 := fun v => by rw [up_nj _ (by decide)]; exact hf
  have ff := fun x => fa_u hf x
  generalize hg : msk σ = p at *
  by_cases c0 : dg (mtx σ p)
  · have s2 := sk_lt hte (q := p) (by omega)
    have tb1 := mtx_b ht (p + 1)
    have tb2 := mtx_b ht (p + 2)
    have e2 : p + 1 + 1 = p + 2 := by omega
    by_cases c1 : dg (mtx σ (p + 1))
    · have s3 := sk_lt hte (q := p + 1) (by omega)
      by_cases c2 : dg (mtx σ (p + 2))
      · have q8 := hq3 c0 c1 c2
        refine am_m0 (own := RX12) (A := look a_X12_number) (fun X e1 e2 hB => o_X12_number e1 e2 hB) rfl (by decide +kernel) rfl rfl 300 (w := 5) ?_
        change vcs _ _ _ _ 300 0 [(28, 5000), (0, a), (0, b), (6, 0), (6, 0)] [] σ
        simp only [↓reduceIte, inR_0, inR_1, inR_m, vSw2_e, swP_n, swP_c, vI_e, vL_e, vNull_e, vIload_e, vLload_e, vAload_e, vIstore_e, vLstore_e, vAstore_e, vIinc_e, vIadd_e, vIsub_e, vImul_e, vIand_e, vIor_e, vIxor_e, vIshl_e, vIshr_e, vIushr_e, vIdiv_e, vIrem_e, vLadd_e, vLsub_e, vLmul_e, vLand_e, vLor_e, vLxor_e, vLdiv_e, vLrem_e, vLushr_e, vLshl_e, vLcmp_e, vIneg_e, vI2l_e, vL2i_e, vI2b_e, vI2c_e, vDup_e, vPop_e, vDup2_e, vGoto_e, vIcEq_e, vIfEq_e, vIcNe_e, vIfNe_e, vIcLt_e, vIfLt_e, vIcGe_e, vIfGe_e, vIcGt_e, vIfGt_e, vIcLe_e, vIfLe_e, vNonnull_e, vSw_e, vGetI_e, vGetL_e, vGetR_e, vPutI_e, vPutZ_e, vPutL_e, vPutR_e, vIald_e, vIald_s, vLald_e, vBald_e, vBald_s, vAald_e, vIast_e, vLast_e, vBast_e, vAast_e, vAlen_e8, vAlen_e9, vAlen_e10, vAlen_e11, vAlen_e5, vAlen_e3, vGets_e, vCompact_e, vLdcS_e, vIret_e, vZret_e, vCret_e, vBret_e, vLret_e, vVret_e, vAret_e, vCallM_e0, vCallMV_e0, vCallS_e0, vCallSV_e0, vCallM_e1, vCallMV_e1, vCallS_e1, vCallSV_e1, vCallM_e2, vCallMV_e2, vCallS_e2, vCallSV_e2, vCallM_e3, vCallMV_e3, vCallS_e3, vCallSV_e3, vCallM_e4, vCallMV_e4, vCallS_e4, vCallSV_e4, vCallM_e5, vCallMV_e5, vCallS_e5, vCallSV_e5, vCallM_e6, vCallMV_e6, vCallS_e6, vCallSV_e6, vCallM_e7, vCallMV_e7, vCallS_e7, vCallSV_e7, vBad_e, vStrVal_e, vStrCod_e, vForm_e, vCallT_e0, vCallT_e1, vCallT_e2, vCopy_e, rf_0_0, rf_0_1, rf_0_2, rf_0_3, rf_0_4, rf_0_7, rf_0_10, rf_0_11, rf_0_12, rf_0_13, rf_0_14, rf_0_15, rf_0_16, rf_1_0, rf_3_0, rf_3_1, rf_6_0, rf_6_1, rf_9_0, rf_9_1, rf_9_3, rf_13_0, rf_13_1, rf_13_2, rf_16_0, rf_16_1, rf_16_2, rf_16_3, rf_21_0, rf_21_1, rf_21_2, rf_21_3, rf_26_0, rf_26_1, rf_26_2, rf_26_3, rf_26_4, rf_26_5, rf_26_6, rf_31_0, rf_31_2, rf_31_5, rf_31_6, rf_36_0, rf_36_1, rf_36_2, rf_36_3, rf_39_0, rf_39_1, rf_39_2, rf_41_0, rf_41_1, rf_41_2, rf_41_3, rf_5000_1, rf_5000_2, rf_5000_3, rf_5000_4, rf_5000_5, rf_5000_15, rf_5000_16, rf_5000_18, rf_5000_19, rf_5000_20, rf_5000_21, rf_5000_22, rf_5000_23, rf_5000_24, rf_5000_25, rf_5000_26, rf_5000_27, rf_5000_36, rf_5000_37, rf_5000_40, rf_5000_41, rf_5000_42, rf_5000_43, rf_5000_44, rf_5000_45, rf_5000_47, rf_5000_52, rf_5000_54, rf_5000_55, rf_100_0, rf_100_1, rf_103_0, rf_103_1, rf_106_0, rf_106_1, rf_109_0, rf_109_1, al_2, al_4, al_5, al_7, al_8, al_10, al_11, al_12, al_14, al_15, al_17, al_18, al_19, al_20, al_22, al_23, al_24, al_25, al_27, al_28, al_29, al_30, al_32, al_33, al_34, al_35, al_37, al_38, al_40, al_42, al_5001, al_5002, al_5003, al_5004, al_5005, al_5006, al_5007, al_5008, al_5009, al_5010, al_5011, al_5012, al_5013, al_5014, al_5015, al_5016, al_5017, al_5018, al_5019, al_5020, al_5021, al_5022, al_5023, al_5024, al_5025, al_5026, al_9000, al_101, al_102, al_104, al_105, al_107, al_108, al_110, al_111, vcs_e, lg_c0, lg_cs, lg_nil, set_c0, set_cs, okst_0, okst_s, acok_n, acok_c, List.contains_nil, List.contains_cons, Bool.or_false, Bool.false_or, Bool.false_eq_true, if_false, if_true, ite_self, ne_eq, true_and, and_true, not_false_eq_true, not_true_eq_false, false_imp_iff, true_imp_iff, Nat.ble_eq, Bool.and_eq_true, reduceCtorEq, or_false, false_or, or_true, true_or, false_and, and_false, and_self, Int.reduceLE, Int.reduceAdd, Int.reduceSub, Int.reduceMul, Int.reduceNeg, Int.reduceLT, Int.reduceEq, Int.reduceNe, Nat.reduceBEq, Nat.reduceBNe, Nat.reduceEqDiff, amCmp_in, amCmp_lt, amCmp_le, amCmp_gt, amCmp_ge, amCmp_eq, amCmp_ne, Nat.reduceLeDiff, Nat.reduceSub, Bool.and_true, Bool.true_and, Bool.and_self, Bool.or_true, Bool.true_or, isRf_3, isRf_4, isRf_5, isRf_8, isRf_9, isRf_10, isRf_11, isRf_15, isRf_16, isRf_17, isRf_18, isRf_19, isRf_20, isRf_21, isRf_22, isRf_23, isRf_24, isRf_25, isRf_26, isRf_27, isRf_28, k_X12_number_0, k_X12_number_1, k_X12_number_4, k_X12_number_5, k_X12_number_6, k_X12_number_9, k_X12_number_12, k_X12_number_13, k_X12_number_16, k_X12_number_17, k_X12_number_18, k_X12_number_19, k_X12_number_20, k_X12_number_22, k_X12_number_23, k_X12_number_25, k_X12_number_26, k_X12_number_27, k_X12_number_30, k_X12_number_31, k_X12_number_32, k_X12_number_35, k_X12_number_36, k_X12_number_39, k_X12_number_42, k_X12_number_44, k_X12_number_46, k_X12_number_47, k_X12_number_48, k_X12_number_51, k_X12_number_52, k_X12_number_54, k_X12_number_55, k_X12_number_57, k_X12_number_58, k_X12_number_59, k_X12_number_62, k_X12_number_63, k_X12_number_64, k_X12_number_67, k_X12_number_68, k_X12_number_71, k_X12_number_74, k_X12_number_75, k_X12_number_78, k_X12_number_79, k_X12_number_80, k_X12_number_81, k_X12_number_83, k_X12_number_84, k_X12_number_85, k_X12_number_86, k_X12_number_87, k_X12_number_88, k_X12_number_91, k_X12_number_94, k_X12_number_95, k_X12_number_96, k_X12_number_99, k_X12_number_100, k_X12_number_101, k_X12_number_104, k_X12_number_105, k_X12_number_108, k_X12_number_109, k_X12_number_111, w_X12_fails_e, w_X12_here_e, w_X12_isDigit_e, w_X12_isIn_e, w_X12_look_e, up_s, up_nj, up_na, up_up, savR_o, cpy_o, fillm_o, setAud_o, setv_o, setv_s, Int.reduceNe, Int.reduceEq, Int.reduceLT, Int.reduceAdd, not_false_eq_true, ne_eq, or_true, true_or, hg, et, hto, u9, u11, up_s, up_up, ff, e2, if_pos c0, if_pos c1, if_pos c2]
        repeat' (first | assumption | exact ht | apply And.intro | intro _)
        all_goals first | omega | exact absurd trivial (by assumption) | exact q8
      · obtain ⟨q8, q9⟩ := hq4 c0 c1 c2
        have e3 : p + 2 - 1 = p + 1 := by omega
        by_cases c3 : a ≤ 10 * (mtx σ p - 48) + mtx σ (p + 1) - 48 ∧ 10 * (mtx σ p - 48) + mtx σ (p + 1) - 48 ≤ b
        · have q7 := q8 c3
          refine am_m0 (own := RX12) (A := look a_X12_number) (fun X e1 e2 hB => o_X12_number e1 e2 hB) rfl (by decide +kernel) rfl rfl 300 (w := 5) ?_
          change vcs _ _ _ _ 300 0 [(28, 5000), (0, a), (0, b), (6, 0), (6, 0)] [] σ
          simp only [↓reduceIte, inR_0, inR_1, inR_m, vSw2_e, swP_n, swP_c, vI_e, vL_e, vNull_e, vIload_e, vLload_e, vAload_e, vIstore_e, vLstore_e, vAstore_e, vIinc_e, vIadd_e, vIsub_e, vImul_e, vIand_e, vIor_e, vIxor_e, vIshl_e, vIshr_e, vIushr_e, vIdiv_e, vIrem_e, vLadd_e, vLsub_e, vLmul_e, vLand_e, vLor_e, vLxor_e, vLdiv_e, vLrem_e, vLushr_e, vLshl_e, vLcmp_e, vIneg_e, vI2l_e, vL2i_e, vI2b_e, vI2c_e, vDup_e, vPop_e, vDup2_e, vGoto_e, vIcEq_e, vIfEq_e, vIcNe_e, vIfNe_e, vIcLt_e, vIfLt_e, vIcGe_e, vIfGe_e, vIcGt_e, vIfGt_e, vIcLe_e, vIfLe_e, vNonnull_e, vSw_e, vGetI_e, vGetL_e, vGetR_e, vPutI_e, vPutZ_e, vPutL_e, vPutR_e, vIald_e, vIald_s, vLald_e, vBald_e, vBald_s, vAald_e, vIast_e, vLast_e, vBast_e, vAast_e, vAlen_e8, vAlen_e9, vAlen_e10, vAlen_e11, vAlen_e5, vAlen_e3, vGets_e, vCompact_e, vLdcS_e, vIret_e, vZret_e, vCret_e, vBret_e, vLret_e, vVret_e, vAret_e, vCallM_e0, vCallMV_e0, vCallS_e0, vCallSV_e0, vCallM_e1, vCallMV_e1, vCallS_e1, vCallSV_e1, vCallM_e2, vCallMV_e2, vCallS_e2, vCallSV_e2, vCallM_e3, vCallMV_e3, vCallS_e3, vCallSV_e3, vCallM_e4, vCallMV_e4, vCallS_e4, vCallSV_e4, vCallM_e5, vCallMV_e5, vCallS_e5, vCallSV_e5, vCallM_e6, vCallMV_e6, vCallS_e6, vCallSV_e6, vCallM_e7, vCallMV_e7, vCallS_e7, vCallSV_e7, vBad_e, vStrVal_e, vStrCod_e, vForm_e, vCallT_e0, vCallT_e1, vCallT_e2, vCopy_e, rf_0_0, rf_0_1, rf_0_2, rf_0_3, rf_0_4, rf_0_7, rf_0_10, rf_0_11, rf_0_12, rf_0_13, rf_0_14, rf_0_15, rf_0_16, rf_1_0, rf_3_0, rf_3_1, rf_6_0, rf_6_1, rf_9_0, rf_9_1, rf_9_3, rf_13_0, rf_13_1, rf_13_2, rf_16_0, rf_16_1, rf_16_2, rf_16_3, rf_21_0, rf_21_1, rf_21_2, rf_21_3, rf_26_0, rf_26_1, rf_26_2, rf_26_3, rf_26_4, rf_26_5, rf_26_6, rf_31_0, rf_31_2, rf_31_5, rf_31_6, rf_36_0, rf_36_1, rf_36_2, rf_36_3, rf_39_0, rf_39_1, rf_39_2, rf_41_0, rf_41_1, rf_41_2, rf_41_3, rf_5000_1, rf_5000_2, rf_5000_3, rf_5000_4, rf_5000_5, rf_5000_15, rf_5000_16, rf_5000_18, rf_5000_19, rf_5000_20, rf_5000_21, rf_5000_22, rf_5000_23, rf_5000_24, rf_5000_25, rf_5000_26, rf_5000_27, rf_5000_36, rf_5000_37, rf_5000_40, rf_5000_41, rf_5000_42, rf_5000_43, rf_5000_44, rf_5000_45, rf_5000_47, rf_5000_52, rf_5000_54, rf_5000_55, rf_100_0, rf_100_1, rf_103_0, rf_103_1, rf_106_0, rf_106_1, rf_109_0, rf_109_1, al_2, al_4, al_5, al_7, al_8, al_10, al_11, al_12, al_14, al_15, al_17, al_18, al_19, al_20, al_22, al_23, al_24, al_25, al_27, al_28, al_29, al_30, al_32, al_33, al_34, al_35, al_37, al_38, al_40, al_42, al_5001, al_5002, al_5003, al_5004, al_5005, al_5006, al_5007, al_5008, al_5009, al_5010, al_5011, al_5012, al_5013, al_5014, al_5015, al_5016, al_5017, al_5018, al_5019, al_5020, al_5021, al_5022, al_5023, al_5024, al_5025, al_5026, al_9000, al_101, al_102, al_104, al_105, al_107, al_108, al_110, al_111, vcs_e, lg_c0, lg_cs, lg_nil, set_c0, set_cs, okst_0, okst_s, acok_n, acok_c, List.contains_nil, List.contains_cons, Bool.or_false, Bool.false_or, Bool.false_eq_true, if_false, if_true, ite_self, ne_eq, true_and, and_true, not_false_eq_true, not_true_eq_false, false_imp_iff, true_imp_iff, Nat.ble_eq, Bool.and_eq_true, reduceCtorEq, or_false, false_or, or_true, true_or, false_and, and_false, and_self, Int.reduceLE, Int.reduceAdd, Int.reduceSub, Int.reduceMul, Int.reduceNeg, Int.reduceLT, Int.reduceEq, Int.reduceNe, Nat.reduceBEq, Nat.reduceBNe, Nat.reduceEqDiff, amCmp_in, amCmp_lt, amCmp_le, amCmp_gt, amCmp_ge, amCmp_eq, amCmp_ne, Nat.reduceLeDiff, Nat.reduceSub, Bool.and_true, Bool.true_and, Bool.and_self, Bool.or_true, Bool.true_or, isRf_3, isRf_4, isRf_5, isRf_8, isRf_9, isRf_10, isRf_11, isRf_15, isRf_16, isRf_17, isRf_18, isRf_19, isRf_20, isRf_21, isRf_22, isRf_23, isRf_24, isRf_25, isRf_26, isRf_27, isRf_28, k_X12_number_0, k_X12_number_1, k_X12_number_4, k_X12_number_5, k_X12_number_6, k_X12_number_9, k_X12_number_12, k_X12_number_13, k_X12_number_16, k_X12_number_17, k_X12_number_18, k_X12_number_19, k_X12_number_20, k_X12_number_22, k_X12_number_23, k_X12_number_25, k_X12_number_26, k_X12_number_27, k_X12_number_30, k_X12_number_31, k_X12_number_32, k_X12_number_35, k_X12_number_36, k_X12_number_39, k_X12_number_42, k_X12_number_44, k_X12_number_46, k_X12_number_47, k_X12_number_48, k_X12_number_51, k_X12_number_52, k_X12_number_54, k_X12_number_55, k_X12_number_57, k_X12_number_58, k_X12_number_59, k_X12_number_62, k_X12_number_63, k_X12_number_64, k_X12_number_67, k_X12_number_68, k_X12_number_71, k_X12_number_74, k_X12_number_75, k_X12_number_78, k_X12_number_79, k_X12_number_80, k_X12_number_81, k_X12_number_83, k_X12_number_84, k_X12_number_85, k_X12_number_86, k_X12_number_87, k_X12_number_88, k_X12_number_91, k_X12_number_94, k_X12_number_95, k_X12_number_96, k_X12_number_99, k_X12_number_100, k_X12_number_101, k_X12_number_104, k_X12_number_105, k_X12_number_108, k_X12_number_109, k_X12_number_111, w_X12_fails_e, w_X12_here_e, w_X12_isDigit_e, w_X12_isIn_e, w_X12_look_e, up_s, up_nj, up_na, up_up, savR_o, cpy_o, fillm_o, setAud_o, setv_o, setv_s, Int.reduceNe, Int.reduceEq, Int.reduceLT, Int.reduceAdd, not_false_eq_true, ne_eq, or_true, true_or, hg, et, hto, u9, u11, up_s, up_up, ff, e2, e3, if_pos c0, if_pos c1, if_neg c2, if_pos c3]
          repeat' (first | assumption | exact ht | apply And.intro | intro _)
          all_goals first | omega | exact absurd trivial (by assumption) | exact q7
        · have q7 := q9 c3
          refine am_m0 (own := RX12) (A := look a_X12_number) (fun X e1 e2 hB => o_X12_number e1 e2 hB) rfl (by decide +kernel) rfl rfl 300 (w := 5) ?_
          change vcs _ _ _ _ 300 0 [(28, 5000), (0, a), (0, b), (6, 0), (6, 0)] [] σ
          simp only [↓reduceIte, inR_0, inR_1, inR_m, vSw2_e, swP_n, swP_c, vI_e, vL_e, vNull_e, vIload_e, vLload_e, vAload_e, vIstore_e, vLstore_e, vAstore_e, vIinc_e, vIadd_e, vIsub_e, vImul_e, vIand_e, vIor_e, vIxor_e, vIshl_e, vIshr_e, vIushr_e, vIdiv_e, vIrem_e, vLadd_e, vLsub_e, vLmul_e, vLand_e, vLor_e, vLxor_e, vLdiv_e, vLrem_e, vLushr_e, vLshl_e, vLcmp_e, vIneg_e, vI2l_e, vL2i_e, vI2b_e, vI2c_e, vDup_e, vPop_e, vDup2_e, vGoto_e, vIcEq_e, vIfEq_e, vIcNe_e, vIfNe_e, vIcLt_e, vIfLt_e, vIcGe_e, vIfGe_e, vIcGt_e, vIfGt_e, vIcLe_e, vIfLe_e, vNonnull_e, vSw_e, vGetI_e, vGetL_e, vGetR_e, vPutI_e, vPutZ_e, vPutL_e, vPutR_e, vIald_e, vIald_s, vLald_e, vBald_e, vBald_s, vAald_e, vIast_e, vLast_e, vBast_e, vAast_e, vAlen_e8, vAlen_e9, vAlen_e10, vAlen_e11, vAlen_e5, vAlen_e3, vGets_e, vCompact_e, vLdcS_e, vIret_e, vZret_e, vCret_e, vBret_e, vLret_e, vVret_e, vAret_e, vCallM_e0, vCallMV_e0, vCallS_e0, vCallSV_e0, vCallM_e1, vCallMV_e1, vCallS_e1, vCallSV_e1, vCallM_e2, vCallMV_e2, vCallS_e2, vCallSV_e2, vCallM_e3, vCallMV_e3, vCallS_e3, vCallSV_e3, vCallM_e4, vCallMV_e4, vCallS_e4, vCallSV_e4, vCallM_e5, vCallMV_e5, vCallS_e5, vCallSV_e5, vCallM_e6, vCallMV_e6, vCallS_e6, vCallSV_e6, vCallM_e7, vCallMV_e7, vCallS_e7, vCallSV_e7, vBad_e, vStrVal_e, vStrCod_e, vForm_e, vCallT_e0, vCallT_e1, vCallT_e2, vCopy_e, rf_0_0, rf_0_1, rf_0_2, rf_0_3, rf_0_4, rf_0_7, rf_0_10, rf_0_11, rf_0_12, rf_0_13, rf_0_14, rf_0_15, rf_0_16, rf_1_0, rf_3_0, rf_3_1, rf_6_0, rf_6_1, rf_9_0, rf_9_1, rf_9_3, rf_13_0, rf_13_1, rf_13_2, rf_16_0, rf_16_1, rf_16_2, rf_16_3, rf_21_0, rf_21_1, rf_21_2, rf_21_3, rf_26_0, rf_26_1, rf_26_2, rf_26_3, rf_26_4, rf_26_5, rf_26_6, rf_31_0, rf_31_2, rf_31_5, rf_31_6, rf_36_0, rf_36_1, rf_36_2, rf_36_3, rf_39_0, rf_39_1, rf_39_2, rf_41_0, rf_41_1, rf_41_2, rf_41_3, rf_5000_1, rf_5000_2, rf_5000_3, rf_5000_4, rf_5000_5, rf_5000_15, rf_5000_16, rf_5000_18, rf_5000_19, rf_5000_20, rf_5000_21, rf_5000_22, rf_5000_23, rf_5000_24, rf_5000_25, rf_5000_26, rf_5000_27, rf_5000_36, rf_5000_37, rf_5000_40, rf_5000_41, rf_5000_42, rf_5000_43, rf_5000_44, rf_5000_45, rf_5000_47, rf_5000_52, rf_5000_54, rf_5000_55, rf_100_0, rf_100_1, rf_103_0, rf_103_1, rf_106_0, rf_106_1, rf_109_0, rf_109_1, al_2, al_4, al_5, al_7, al_8, al_10, al_11, al_12, al_14, al_15, al_17, al_18, al_19, al_20, al_22, al_23, al_24, al_25, al_27, al_28, al_29, al_30, al_32, al_33, al_34, al_35, al_37, al_38, al_40, al_42, al_5001, al_5002, al_5003, al_5004, al_5005, al_5006, al_5007, al_5008, al_5009, al_5010, al_5011, al_5012, al_5013, al_5014, al_5015, al_5016, al_5017, al_5018, al_5019, al_5020, al_5021, al_5022, al_5023, al_5024, al_5025, al_5026, al_9000, al_101, al_102, al_104, al_105, al_107, al_108, al_110, al_111, vcs_e, lg_c0, lg_cs, lg_nil, set_c0, set_cs, okst_0, okst_s, acok_n, acok_c, List.contains_nil, List.contains_cons, Bool.or_false, Bool.false_or, Bool.false_eq_true, if_false, if_true, ite_self, ne_eq, true_and, and_true, not_false_eq_true, not_true_eq_false, false_imp_iff, true_imp_iff, Nat.ble_eq, Bool.and_eq_true, reduceCtorEq, or_false, false_or, or_true, true_or, false_and, and_false, and_self, Int.reduceLE, Int.reduceAdd, Int.reduceSub, Int.reduceMul, Int.reduceNeg, Int.reduceLT, Int.reduceEq, Int.reduceNe, Nat.reduceBEq, Nat.reduceBNe, Nat.reduceEqDiff, amCmp_in, amCmp_lt, amCmp_le, amCmp_gt, amCmp_ge, amCmp_eq, amCmp_ne, Nat.reduceLeDiff, Nat.reduceSub, Bool.and_true, Bool.true_and, Bool.and_self, Bool.or_true, Bool.true_or, isRf_3, isRf_4, isRf_5, isRf_8, isRf_9, isRf_10, isRf_11, isRf_15, isRf_16, isRf_17, isRf_18, isRf_19, isRf_20, isRf_21, isRf_22, isRf_23, isRf_24, isRf_25, isRf_26, isRf_27, isRf_28, k_X12_number_0, k_X12_number_1, k_X12_number_4, k_X12_number_5, k_X12_number_6, k_X12_number_9, k_X12_number_12, k_X12_number_13, k_X12_number_16, k_X12_number_17, k_X12_number_18, k_X12_number_19, k_X12_number_20, k_X12_number_22, k_X12_number_23, k_X12_number_25, k_X12_number_26, k_X12_number_27, k_X12_number_30, k_X12_number_31, k_X12_number_32, k_X12_number_35, k_X12_number_36, k_X12_number_39, k_X12_number_42, k_X12_number_44, k_X12_number_46, k_X12_number_47, k_X12_number_48, k_X12_number_51, k_X12_number_52, k_X12_number_54, k_X12_number_55, k_X12_number_57, k_X12_number_58, k_X12_number_59, k_X12_number_62, k_X12_number_63, k_X12_number_64, k_X12_number_67, k_X12_number_68, k_X12_number_71, k_X12_number_74, k_X12_number_75, k_X12_number_78, k_X12_number_79, k_X12_number_80, k_X12_number_81, k_X12_number_83, k_X12_number_84, k_X12_number_85, k_X12_number_86, k_X12_number_87, k_X12_number_88, k_X12_number_91, k_X12_number_94, k_X12_number_95, k_X12_number_96, k_X12_number_99, k_X12_number_100, k_X12_number_101, k_X12_number_104, k_X12_number_105, k_X12_number_108, k_X12_number_109, k_X12_number_111, w_X12_fails_e, w_X12_here_e, w_X12_isDigit_e, w_X12_isIn_e, w_X12_look_e, up_s, up_nj, up_na, up_up, savR_o, cpy_o, fillm_o, setAud_o, setv_o, setv_s, Int.reduceNe, Int.reduceEq, Int.reduceLT, Int.reduceAdd, not_false_eq_true, ne_eq, or_true, true_or, hg, et, hto, u9, u11, up_s, up_up, ff, e2, e3, if_pos c0, if_pos c1, if_neg c2, if_neg c3]
          repeat' (first | assumption | exact ht | apply And.intro | intro _)
          all_goals first | omega | exact absurd trivial (by assumption) | exact q7
    · obtain ⟨q8, q9⟩ := hq2 c0 c1
      have e3 : p + 1 - 1 = p := by omega
      by_cases c3 : a ≤ mtx σ p - 48 ∧ mtx σ p - 48 ≤ b
      · have q7 := q8 c3
        refine am_m0 (own := RX12) (A := look a_X12_number) (fun X e1 e2 hB => o_X12_number e1 e2 hB) rfl (by decide +kernel) rfl rfl 300 (w := 5) ?_
        change vcs _ _ _ _ 300 0 [(28, 5000), (0, a), (0, b), (6, 0), (6, 0)] [] σ
        simp only [↓reduceIte, inR_0, inR_1, inR_m, vSw2_e, swP_n, swP_c, vI_e, vL_e, vNull_e, vIload_e, vLload_e, vAload_e, vIstore_e, vLstore_e, vAstore_e, vIinc_e, vIadd_e, vIsub_e, vImul_e, vIand_e, vIor_e, vIxor_e, vIshl_e, vIshr_e, vIushr_e, vIdiv_e, vIrem_e, vLadd_e, vLsub_e, vLmul_e, vLand_e, vLor_e, vLxor_e, vLdiv_e, vLrem_e, vLushr_e, vLshl_e, vLcmp_e, vIneg_e, vI2l_e, vL2i_e, vI2b_e, vI2c_e, vDup_e, vPop_e, vDup2_e, vGoto_e, vIcEq_e, vIfEq_e, vIcNe_e, vIfNe_e, vIcLt_e, vIfLt_e, vIcGe_e, vIfGe_e, vIcGt_e, vIfGt_e, vIcLe_e, vIfLe_e, vNonnull_e, vSw_e, vGetI_e, vGetL_e, vGetR_e, vPutI_e, vPutZ_e, vPutL_e, vPutR_e, vIald_e, vIald_s, vLald_e, vBald_e, vBald_s, vAald_e, vIast_e, vLast_e, vBast_e, vAast_e, vAlen_e8, vAlen_e9, vAlen_e10, vAlen_e11, vAlen_e5, vAlen_e3, vGets_e, vCompact_e, vLdcS_e, vIret_e, vZret_e, vCret_e, vBret_e, vLret_e, vVret_e, vAret_e, vCallM_e0, vCallMV_e0, vCallS_e0, vCallSV_e0, vCallM_e1, vCallMV_e1, vCallS_e1, vCallSV_e1, vCallM_e2, vCallMV_e2, vCallS_e2, vCallSV_e2, vCallM_e3, vCallMV_e3, vCallS_e3, vCallSV_e3, vCallM_e4, vCallMV_e4, vCallS_e4, vCallSV_e4, vCallM_e5, vCallMV_e5, vCallS_e5, vCallSV_e5, vCallM_e6, vCallMV_e6, vCallS_e6, vCallSV_e6, vCallM_e7, vCallMV_e7, vCallS_e7, vCallSV_e7, vBad_e, vStrVal_e, vStrCod_e, vForm_e, vCallT_e0, vCallT_e1, vCallT_e2, vCopy_e, rf_0_0, rf_0_1, rf_0_2, rf_0_3, rf_0_4, rf_0_7, rf_0_10, rf_0_11, rf_0_12, rf_0_13, rf_0_14, rf_0_15, rf_0_16, rf_1_0, rf_3_0, rf_3_1, rf_6_0, rf_6_1, rf_9_0, rf_9_1, rf_9_3, rf_13_0, rf_13_1, rf_13_2, rf_16_0, rf_16_1, rf_16_2, rf_16_3, rf_21_0, rf_21_1, rf_21_2, rf_21_3, rf_26_0, rf_26_1, rf_26_2, rf_26_3, rf_26_4, rf_26_5, rf_26_6, rf_31_0, rf_31_2, rf_31_5, rf_31_6, rf_36_0, rf_36_1, rf_36_2, rf_36_3, rf_39_0, rf_39_1, rf_39_2, rf_41_0, rf_41_1, rf_41_2, rf_41_3, rf_5000_1, rf_5000_2, rf_5000_3, rf_5000_4, rf_5000_5, rf_5000_15, rf_5000_16, rf_5000_18, rf_5000_19, rf_5000_20, rf_5000_21, rf_5000_22, rf_5000_23, rf_5000_24, rf_5000_25, rf_5000_26, rf_5000_27, rf_5000_36, rf_5000_37, rf_5000_40, rf_5000_41, rf_5000_42, rf_5000_43, rf_5000_44, rf_5000_45, rf_5000_47, rf_5000_52, rf_5000_54, rf_5000_55, rf_100_0, rf_100_1, rf_103_0, rf_103_1, rf_106_0, rf_106_1, rf_109_0, rf_109_1, al_2, al_4, al_5, al_7, al_8, al_10, al_11, al_12, al_14, al_15, al_17, al_18, al_19, al_20, al_22, al_23, al_24, al_25, al_27, al_28, al_29, al_30, al_32, al_33, al_34, al_35, al_37, al_38, al_40, al_42, al_5001, al_5002, al_5003, al_5004, al_5005, al_5006, al_5007, al_5008, al_5009, al_5010, al_5011, al_5012, al_5013, al_5014, al_5015, al_5016, al_5017, al_5018, al_5019, al_5020, al_5021, al_5022, al_5023, al_5024, al_5025, al_5026, al_9000, al_101, al_102, al_104, al_105, al_107, al_108, al_110, al_111, vcs_e, lg_c0, lg_cs, lg_nil, set_c0, set_cs, okst_0, okst_s, acok_n, acok_c, List.contains_nil, List.contains_cons, Bool.or_false, Bool.false_or, Bool.false_eq_true, if_false, if_true, ite_self, ne_eq, true_and, and_true, not_false_eq_true, not_true_eq_false, false_imp_iff, true_imp_iff, Nat.ble_eq, Bool.and_eq_true, reduceCtorEq, or_false, false_or, or_true, true_or, false_and, and_false, and_self, Int.reduceLE, Int.reduceAdd, Int.reduceSub, Int.reduceMul, Int.reduceNeg, Int.reduceLT, Int.reduceEq, Int.reduceNe, Nat.reduceBEq, Nat.reduceBNe, Nat.reduceEqDiff, amCmp_in, amCmp_lt, amCmp_le, amCmp_gt, amCmp_ge, amCmp_eq, amCmp_ne, Nat.reduceLeDiff, Nat.reduceSub, Bool.and_true, Bool.true_and, Bool.and_self, Bool.or_true, Bool.true_or, isRf_3, isRf_4, isRf_5, isRf_8, isRf_9, isRf_10, isRf_11, isRf_15, isRf_16, isRf_17, isRf_18, isRf_19, isRf_20, isRf_21, isRf_22, isRf_23, isRf_24, isRf_25, isRf_26, isRf_27, isRf_28, k_X12_number_0, k_X12_number_1, k_X12_number_4, k_X12_number_5, k_X12_number_6, k_X12_number_9, k_X12_number_12, k_X12_number_13, k_X12_number_16, k_X12_number_17, k_X12_number_18, k_X12_number_19, k_X12_number_20, k_X12_number_22, k_X12_number_23, k_X12_number_25, k_X12_number_26, k_X12_number_27, k_X12_number_30, k_X12_number_31, k_X12_number_32, k_X12_number_35, k_X12_number_36, k_X12_number_39, k_X12_number_42, k_X12_number_44, k_X12_number_46, k_X12_number_47, k_X12_number_48, k_X12_number_51, k_X12_number_52, k_X12_number_54, k_X12_number_55, k_X12_number_57, k_X12_number_58, k_X12_number_59, k_X12_number_62, k_X12_number_63, k_X12_number_64, k_X12_number_67, k_X12_number_68, k_X12_number_71, k_X12_number_74, k_X12_number_75, k_X12_number_78, k_X12_number_79, k_X12_number_80, k_X12_number_81, k_X12_number_83, k_X12_number_84, k_X12_number_85, k_X12_number_86, k_X12_number_87, k_X12_number_88, k_X12_number_91, k_X12_number_94, k_X12_number_95, k_X12_number_96, k_X12_number_99, k_X12_number_100, k_X12_number_101, k_X12_number_104, k_X12_number_105, k_X12_number_108, k_X12_number_109, k_X12_number_111, w_X12_fails_e, w_X12_here_e, w_X12_isDigit_e, w_X12_isIn_e, w_X12_look_e, up_s, up_nj, up_na, up_up, savR_o, cpy_o, fillm_o, setAud_o, setv_o, setv_s, Int.reduceNe, Int.reduceEq, Int.reduceLT, Int.reduceAdd, not_false_eq_true, ne_eq, or_true, true_or, hg, et, hto, u9, u11, up_s, up_up, ff, e2, e3, if_pos c0, if_neg c1, if_pos c3]
        repeat' (first | assumption | exact ht | apply And.intro | intro _)
        all_goals first | omega | exact absurd trivial (by assumption) | exact q7
      · have q7 := q9 c3
        refine am_m0 (own := RX12) (A := look a_X12_number) (fun X e1 e2 hB => o_X12_number e1 e2 hB) rfl (by decide +kernel) rfl rfl 300 (w := 5) ?_
        change vcs _ _ _ _ 300 0 [(28, 5000), (0, a), (0, b), (6, 0), (6, 0)] [] σ
        simp only [↓reduceIte, inR_0, inR_1, inR_m, vSw2_e, swP_n, swP_c, vI_e, vL_e, vNull_e, vIload_e, vLload_e, vAload_e, vIstore_e, vLstore_e, vAstore_e, vIinc_e, vIadd_e, vIsub_e, vImul_e, vIand_e, vIor_e, vIxor_e, vIshl_e, vIshr_e, vIushr_e, vIdiv_e, vIrem_e, vLadd_e, vLsub_e, vLmul_e, vLand_e, vLor_e, vLxor_e, vLdiv_e, vLrem_e, vLushr_e, vLshl_e, vLcmp_e, vIneg_e, vI2l_e, vL2i_e, vI2b_e, vI2c_e, vDup_e, vPop_e, vDup2_e, vGoto_e, vIcEq_e, vIfEq_e, vIcNe_e, vIfNe_e, vIcLt_e, vIfLt_e, vIcGe_e, vIfGe_e, vIcGt_e, vIfGt_e, vIcLe_e, vIfLe_e, vNonnull_e, vSw_e, vGetI_e, vGetL_e, vGetR_e, vPutI_e, vPutZ_e, vPutL_e, vPutR_e, vIald_e, vIald_s, vLald_e, vBald_e, vBald_s, vAald_e, vIast_e, vLast_e, vBast_e, vAast_e, vAlen_e8, vAlen_e9, vAlen_e10, vAlen_e11, vAlen_e5, vAlen_e3, vGets_e, vCompact_e, vLdcS_e, vIret_e, vZret_e, vCret_e, vBret_e, vLret_e, vVret_e, vAret_e, vCallM_e0, vCallMV_e0, vCallS_e0, vCallSV_e0, vCallM_e1, vCallMV_e1, vCallS_e1, vCallSV_e1, vCallM_e2, vCallMV_e2, vCallS_e2, vCallSV_e2, vCallM_e3, vCallMV_e3, vCallS_e3, vCallSV_e3, vCallM_e4, vCallMV_e4, vCallS_e4, vCallSV_e4, vCallM_e5, vCallMV_e5, vCallS_e5, vCallSV_e5, vCallM_e6, vCallMV_e6, vCallS_e6, vCallSV_e6, vCallM_e7, vCallMV_e7, vCallS_e7, vCallSV_e7, vBad_e, vStrVal_e, vStrCod_e, vForm_e, vCallT_e0, vCallT_e1, vCallT_e2, vCopy_e, rf_0_0, rf_0_1, rf_0_2, rf_0_3, rf_0_4, rf_0_7, rf_0_10, rf_0_11, rf_0_12, rf_0_13, rf_0_14, rf_0_15, rf_0_16, rf_1_0, rf_3_0, rf_3_1, rf_6_0, rf_6_1, rf_9_0, rf_9_1, rf_9_3, rf_13_0, rf_13_1, rf_13_2, rf_16_0, rf_16_1, rf_16_2, rf_16_3, rf_21_0, rf_21_1, rf_21_2, rf_21_3, rf_26_0, rf_26_1, rf_26_2, rf_26_3, rf_26_4, rf_26_5, rf_26_6, rf_31_0, rf_31_2, rf_31_5, rf_31_6, rf_36_0, rf_36_1, rf_36_2, rf_36_3, rf_39_0, rf_39_1, rf_39_2, rf_41_0, rf_41_1, rf_41_2, rf_41_3, rf_5000_1, rf_5000_2, rf_5000_3, rf_5000_4, rf_5000_5, rf_5000_15, rf_5000_16, rf_5000_18, rf_5000_19, rf_5000_20, rf_5000_21, rf_5000_22, rf_5000_23, rf_5000_24, rf_5000_25, rf_5000_26, rf_5000_27, rf_5000_36, rf_5000_37, rf_5000_40, rf_5000_41, rf_5000_42, rf_5000_43, rf_5000_44, rf_5000_45, rf_5000_47, rf_5000_52, rf_5000_54, rf_5000_55, rf_100_0, rf_100_1, rf_103_0, rf_103_1, rf_106_0, rf_106_1, rf_109_0, rf_109_1, al_2, al_4, al_5, al_7, al_8, al_10, al_11, al_12, al_14, al_15, al_17, al_18, al_19, al_20, al_22, al_23, al_24, al_25, al_27, al_28, al_29, al_30, al_32, al_33, al_34, al_35, al_37, al_38, al_40, al_42, al_5001, al_5002, al_5003, al_5004, al_5005, al_5006, al_5007, al_5008, al_5009, al_5010, al_5011, al_5012, al_5013, al_5014, al_5015, al_5016, al_5017, al_5018, al_5019, al_5020, al_5021, al_5022, al_5023, al_5024, al_5025, al_5026, al_9000, al_101, al_102, al_104, al_105, al_107, al_108, al_110, al_111, vcs_e, lg_c0, lg_cs, lg_nil, set_c0, set_cs, okst_0, okst_s, acok_n, acok_c, List.contains_nil, List.contains_cons, Bool.or_false, Bool.false_or, Bool.false_eq_true, if_false, if_true, ite_self, ne_eq, true_and, and_true, not_false_eq_true, not_true_eq_false, false_imp_iff, true_imp_iff, Nat.ble_eq, Bool.and_eq_true, reduceCtorEq, or_false, false_or, or_true, true_or, false_and, and_false, and_self, Int.reduceLE, Int.reduceAdd, Int.reduceSub, Int.reduceMul, Int.reduceNeg, Int.reduceLT, Int.reduceEq, Int.reduceNe, Nat.reduceBEq, Nat.reduceBNe, Nat.reduceEqDiff, amCmp_in, amCmp_lt, amCmp_le, amCmp_gt, amCmp_ge, amCmp_eq, amCmp_ne, Nat.reduceLeDiff, Nat.reduceSub, Bool.and_true, Bool.true_and, Bool.and_self, Bool.or_true, Bool.true_or, isRf_3, isRf_4, isRf_5, isRf_8, isRf_9, isRf_10, isRf_11, isRf_15, isRf_16, isRf_17, isRf_18, isRf_19, isRf_20, isRf_21, isRf_22, isRf_23, isRf_24, isRf_25, isRf_26, isRf_27, isRf_28, k_X12_number_0, k_X12_number_1, k_X12_number_4, k_X12_number_5, k_X12_number_6, k_X12_number_9, k_X12_number_12, k_X12_number_13, k_X12_number_16, k_X12_number_17, k_X12_number_18, k_X12_number_19, k_X12_number_20, k_X12_number_22, k_X12_number_23, k_X12_number_25, k_X12_number_26, k_X12_number_27, k_X12_number_30, k_X12_number_31, k_X12_number_32, k_X12_number_35, k_X12_number_36, k_X12_number_39, k_X12_number_42, k_X12_number_44, k_X12_number_46, k_X12_number_47, k_X12_number_48, k_X12_number_51, k_X12_number_52, k_X12_number_54, k_X12_number_55, k_X12_number_57, k_X12_number_58, k_X12_number_59, k_X12_number_62, k_X12_number_63, k_X12_number_64, k_X12_number_67, k_X12_number_68, k_X12_number_71, k_X12_number_74, k_X12_number_75, k_X12_number_78, k_X12_number_79, k_X12_number_80, k_X12_number_81, k_X12_number_83, k_X12_number_84, k_X12_number_85, k_X12_number_86, k_X12_number_87, k_X12_number_88, k_X12_number_91, k_X12_number_94, k_X12_number_95, k_X12_number_96, k_X12_number_99, k_X12_number_100, k_X12_number_101, k_X12_number_104, k_X12_number_105, k_X12_number_108, k_X12_number_109, k_X12_number_111, w_X12_fails_e, w_X12_here_e, w_X12_isDigit_e, w_X12_isIn_e, w_X12_look_e, up_s, up_nj, up_na, up_up, savR_o, cpy_o, fillm_o, setAud_o, setv_o, setv_s, Int.reduceNe, Int.reduceEq, Int.reduceLT, Int.reduceAdd, not_false_eq_true, ne_eq, or_true, true_or, hg, et, hto, u9, u11, up_s, up_up, ff, e2, e3, if_pos c0, if_neg c1, if_neg c3]
        repeat' (first | assumption | exact ht | apply And.intro | intro _)
        all_goals first | omega | exact absurd trivial (by assumption) | exact q7
  · have q8 := hq1 c0
    refine am_m0 (own := RX12) (A := look a_X12_number) (fun X e1 e2 hB => o_X12_number e1 e2 hB) rfl (by decide +kernel) rfl rfl 300 (w := 5) ?_
    change vcs _ _ _ _ 300 0 [(28, 5000), (0, a), (0, b), (6, 0), (6, 0)] [] σ
    simp only [↓reduceIte, inR_0, inR_1, inR_m, vSw2_e, swP_n, swP_c, vI_e, vL_e, vNull_e, vIload_e, vLload_e, vAload_e, vIstore_e, vLstore_e, vAstore_e, vIinc_e, vIadd_e, vIsub_e, vImul_e, vIand_e, vIor_e, vIxor_e, vIshl_e, vIshr_e, vIushr_e, vIdiv_e, vIrem_e, vLadd_e, vLsub_e, vLmul_e, vLand_e, vLor_e, vLxor_e, vLdiv_e, vLrem_e, vLushr_e, vLshl_e, vLcmp_e, vIneg_e, vI2l_e, vL2i_e, vI2b_e, vI2c_e, vDup_e, vPop_e, vDup2_e, vGoto_e, vIcEq_e, vIfEq_e, vIcNe_e, vIfNe_e, vIcLt_e, vIfLt_e, vIcGe_e, vIfGe_e, vIcGt_e, vIfGt_e, vIcLe_e, vIfLe_e, vNonnull_e, vSw_e, vGetI_e, vGetL_e, vGetR_e, vPutI_e, vPutZ_e, vPutL_e, vPutR_e, vIald_e, vIald_s, vLald_e, vBald_e, vBald_s, vAald_e, vIast_e, vLast_e, vBast_e, vAast_e, vAlen_e8, vAlen_e9, vAlen_e10, vAlen_e11, vAlen_e5, vAlen_e3, vGets_e, vCompact_e, vLdcS_e, vIret_e, vZret_e, vCret_e, vBret_e, vLret_e, vVret_e, vAret_e, vCallM_e0, vCallMV_e0, vCallS_e0, vCallSV_e0, vCallM_e1, vCallMV_e1, vCallS_e1, vCallSV_e1, vCallM_e2, vCallMV_e2, vCallS_e2, vCallSV_e2, vCallM_e3, vCallMV_e3, vCallS_e3, vCallSV_e3, vCallM_e4, vCallMV_e4, vCallS_e4, vCallSV_e4, vCallM_e5, vCallMV_e5, vCallS_e5, vCallSV_e5, vCallM_e6, vCallMV_e6, vCallS_e6, vCallSV_e6, vCallM_e7, vCallMV_e7, vCallS_e7, vCallSV_e7, vBad_e, vStrVal_e, vStrCod_e, vForm_e, vCallT_e0, vCallT_e1, vCallT_e2, vCopy_e, rf_0_0, rf_0_1, rf_0_2, rf_0_3, rf_0_4, rf_0_7, rf_0_10, rf_0_11, rf_0_12, rf_0_13, rf_0_14, rf_0_15, rf_0_16, rf_1_0, rf_3_0, rf_3_1, rf_6_0, rf_6_1, rf_9_0, rf_9_1, rf_9_3, rf_13_0, rf_13_1, rf_13_2, rf_16_0, rf_16_1, rf_16_2, rf_16_3, rf_21_0, rf_21_1, rf_21_2, rf_21_3, rf_26_0, rf_26_1, rf_26_2, rf_26_3, rf_26_4, rf_26_5, rf_26_6, rf_31_0, rf_31_2, rf_31_5, rf_31_6, rf_36_0, rf_36_1, rf_36_2, rf_36_3, rf_39_0, rf_39_1, rf_39_2, rf_41_0, rf_41_1, rf_41_2, rf_41_3, rf_5000_1, rf_5000_2, rf_5000_3, rf_5000_4, rf_5000_5, rf_5000_15, rf_5000_16, rf_5000_18, rf_5000_19, rf_5000_20, rf_5000_21, rf_5000_22, rf_5000_23, rf_5000_24, rf_5000_25, rf_5000_26, rf_5000_27, rf_5000_36, rf_5000_37, rf_5000_40, rf_5000_41, rf_5000_42, rf_5000_43, rf_5000_44, rf_5000_45, rf_5000_47, rf_5000_52, rf_5000_54, rf_5000_55, rf_100_0, rf_100_1, rf_103_0, rf_103_1, rf_106_0, rf_106_1, rf_109_0, rf_109_1, al_2, al_4, al_5, al_7, al_8, al_10, al_11, al_12, al_14, al_15, al_17, al_18, al_19, al_20, al_22, al_23, al_24, al_25, al_27, al_28, al_29, al_30, al_32, al_33, al_34, al_35, al_37, al_38, al_40, al_42, al_5001, al_5002, al_5003, al_5004, al_5005, al_5006, al_5007, al_5008, al_5009, al_5010, al_5011, al_5012, al_5013, al_5014, al_5015, al_5016, al_5017, al_5018, al_5019, al_5020, al_5021, al_5022, al_5023, al_5024, al_5025, al_5026, al_9000, al_101, al_102, al_104, al_105, al_107, al_108, al_110, al_111, vcs_e, lg_c0, lg_cs, lg_nil, set_c0, set_cs, okst_0, okst_s, acok_n, acok_c, List.contains_nil, List.contains_cons, Bool.or_false, Bool.false_or, Bool.false_eq_true, if_false, if_true, ite_self, ne_eq, true_and, and_true, not_false_eq_true, not_true_eq_false, false_imp_iff, true_imp_iff, Nat.ble_eq, Bool.and_eq_true, reduceCtorEq, or_false, false_or, or_true, true_or, false_and, and_false, and_self, Int.reduceLE, Int.reduceAdd, Int.reduceSub, Int.reduceMul, Int.reduceNeg, Int.reduceLT, Int.reduceEq, Int.reduceNe, Nat.reduceBEq, Nat.reduceBNe, Nat.reduceEqDiff, amCmp_in, amCmp_lt, amCmp_le, amCmp_gt, amCmp_ge, amCmp_eq, amCmp_ne, Nat.reduceLeDiff, Nat.reduceSub, Bool.and_true, Bool.true_and, Bool.and_self, Bool.or_true, Bool.true_or, isRf_3, isRf_4, isRf_5, isRf_8, isRf_9, isRf_10, isRf_11, isRf_15, isRf_16, isRf_17, isRf_18, isRf_19, isRf_20, isRf_21, isRf_22, isRf_23, isRf_24, isRf_25, isRf_26, isRf_27, isRf_28, k_X12_number_0, k_X12_number_1, k_X12_number_4, k_X12_number_5, k_X12_number_6, k_X12_number_9, k_X12_number_12, k_X12_number_13, k_X12_number_16, k_X12_number_17, k_X12_number_18, k_X12_number_19, k_X12_number_20, k_X12_number_22, k_X12_number_23, k_X12_number_25, k_X12_number_26, k_X12_number_27, k_X12_number_30, k_X12_number_31, k_X12_number_32, k_X12_number_35, k_X12_number_36, k_X12_number_39, k_X12_number_42, k_X12_number_44, k_X12_number_46, k_X12_number_47, k_X12_number_48, k_X12_number_51, k_X12_number_52, k_X12_number_54, k_X12_number_55, k_X12_number_57, k_X12_number_58, k_X12_number_59, k_X12_number_62, k_X12_number_63, k_X12_number_64, k_X12_number_67, k_X12_number_68, k_X12_number_71, k_X12_number_74, k_X12_number_75, k_X12_number_78, k_X12_number_79, k_X12_number_80, k_X12_number_81, k_X12_number_83, k_X12_number_84, k_X12_number_85, k_X12_number_86, k_X12_number_87, k_X12_number_88, k_X12_number_91, k_X12_number_94, k_X12_number_95, k_X12_number_96, k_X12_number_99, k_X12_number_100, k_X12_number_101, k_X12_number_104, k_X12_number_105, k_X12_number_108, k_X12_number_109, k_X12_number_111, w_X12_fails_e, w_X12_here_e, w_X12_isDigit_e, w_X12_isIn_e, w_X12_look_e, up_s, up_nj, up_na, up_up, savR_o, cpy_o, fillm_o, setAud_o, setv_o, setv_s, Int.reduceNe, Int.reduceEq, Int.reduceLT, Int.reduceAdd, not_false_eq_true, ne_eq, or_true, true_or, hg, et, hto, u9, u11, up_s, up_up, ff, if_neg c0]
    repeat' (first | assumption | exact ht | apply And.intro | intro _)
    all_goals first | omega | exact absurd trivial (by assumption) | exact q8
def mosV (c w : Int) : Int := if c = 115 then (if w = 0 then 99 else 30) else if c = 99 then (if w = 1 then 5 else if w = 2 then 99 else 9) else 9
def leaV (c w : Int) : Int := if (c = 115 ∧ w = 0) ∨ (c = 112 ∧ w = 3) then 1 else 0
def usuV (c w : Int) : Int := if c = 115 then (if w = 0 then 12 else 5) else if c = 112 then 3 else if c = 116 then 2 else if w = 0 then 5 else if w = 1 then 0 else 20
def a_X12_mostOf : AC := [(0, vIload 0 1), (1, vI 115 3), (3, vIcNe 18 6), (6, vIload 1 7), (7, vIfNe 15 10), (10, vI 99 12), (12, vGoto 17), (15, vI 30 17), (17, vIret), (18, vIload 0 19), (19, vI 99 21), (21, vIcNe 46 24), (24, vIload 1 25), (25, vI 1 26), (26, vIcNe 33 29), (29, vI 5 30), (30, vGoto 45), (33, vIload 1 34), (34, vI 2 35), (35, vIcNe 43 38), (38, vI 99 40), (40, vGoto 45), (43, vI 9 45), (45, vIret), (46, vI 9 48), (48, vIret)]
theorem k_X12_mostOf_0 : look a_X12_mostOf 0 = vIload 0 1 := rfl
theorem k_X12_mostOf_1 : look a_X12_mostOf 1 = vI 115 3 := rfl
theorem k_X12_mostOf_3 : look a_X12_mostOf 3 = vIcNe 18 6 := rfl
theorem k_X12_mostOf_6 : look a_X12_mostOf 6 = vIload 1 7 := rfl
theorem k_X12_mostOf_7 : look a_X12_mostOf 7 = vIfNe 15 10 := rfl
theorem k_X12_mostOf_10 : look a_X12_mostOf 10 = vI 99 12 := rfl
theorem k_X12_mostOf_12 : look a_X12_mostOf 12 = vGoto 17 := rfl
theorem k_X12_mostOf_15 : look a_X12_mostOf 15 = vI 30 17 := rfl
theorem k_X12_mostOf_17 : look a_X12_mostOf 17 = vIret := rfl
theorem k_X12_mostOf_18 : look a_X12_mostOf 18 = vIload 0 19 := rfl
theorem k_X12_mostOf_19 : look a_X12_mostOf 19 = vI 99 21 := rfl
theorem k_X12_mostOf_21 : look a_X12_mostOf 21 = vIcNe 46 24 := rfl
theorem k_X12_mostOf_24 : look a_X12_mostOf 24 = vIload 1 25 := rfl
theorem k_X12_mostOf_25 : look a_X12_mostOf 25 = vI 1 26 := rfl
theorem k_X12_mostOf_26 : look a_X12_mostOf 26 = vIcNe 33 29 := rfl
theorem k_X12_mostOf_29 : look a_X12_mostOf 29 = vI 5 30 := rfl
theorem k_X12_mostOf_30 : look a_X12_mostOf 30 = vGoto 45 := rfl
theorem k_X12_mostOf_33 : look a_X12_mostOf 33 = vIload 1 34 := rfl
theorem k_X12_mostOf_34 : look a_X12_mostOf 34 = vI 2 35 := rfl
theorem k_X12_mostOf_35 : look a_X12_mostOf 35 = vIcNe 43 38 := rfl
theorem k_X12_mostOf_38 : look a_X12_mostOf 38 = vI 99 40 := rfl
theorem k_X12_mostOf_40 : look a_X12_mostOf 40 = vGoto 45 := rfl
theorem k_X12_mostOf_43 : look a_X12_mostOf 43 = vI 9 45 := rfl
theorem k_X12_mostOf_45 : look a_X12_mostOf 45 = vIret := rfl
theorem k_X12_mostOf_46 : look a_X12_mostOf 46 = vI 9 48 := rfl
theorem k_X12_mostOf_48 : look a_X12_mostOf 48 = vIret := rfl
theorem o_X12_mostOf {X : amX} (e1 : XT X = TT) (e2 : XD X = 0) (hB : amB X RX12 cX12_mostOf (some .int) 2) : ∀ pc, amOK X pc (look a_X12_mostOf pc) := by
  have hT : amTok (XT X) := e1 ▸ TT_ok
  refine look_ok ?_
  unfold a_X12_mostOf
  refine fc (ok_iload_n hB dX12_mostOf_0) ?_
  refine fc (ok_bipush hB dX12_mostOf_1 (by decide)) ?_
  refine fc (ok_icmp_ne hB (t := 18) (by decide) dX12_mostOf_3) ?_
  refine fc (ok_iload_n hB dX12_mostOf_6) ?_
  refine fc (ok_if_ne hB (t := 15) (by decide) dX12_mostOf_7) ?_
  refine fc (ok_bipush hB dX12_mostOf_10 (by decide)) ?_
  refine fc (ok_goto hB (t := 17) (by decide) dX12_mostOf_12) ?_
  refine fc (ok_bipush hB dX12_mostOf_15 (by decide)) ?_
  refine fc (ok_iret hB dX12_mostOf_17) ?_
  refine fc (ok_iload_n hB dX12_mostOf_18) ?_
  refine fc (ok_bipush hB dX12_mostOf_19 (by decide)) ?_
  refine fc (ok_icmp_ne hB (t := 46) (by decide) dX12_mostOf_21) ?_
  refine fc (ok_iload_n hB dX12_mostOf_24) ?_
  refine fc (ok_iconst hB dX12_mostOf_25) ?_
  refine fc (ok_icmp_ne hB (t := 33) (by decide) dX12_mostOf_26) ?_
  refine fc (ok_iconst hB dX12_mostOf_29) ?_
  refine fc (ok_goto hB (t := 45) (by decide) dX12_mostOf_30) ?_
  refine fc (ok_iload_n hB dX12_mostOf_33) ?_
  refine fc (ok_iconst hB dX12_mostOf_34) ?_
  refine fc (ok_icmp_ne hB (t := 43) (by decide) dX12_mostOf_35) ?_
  refine fc (ok_bipush hB dX12_mostOf_38 (by decide)) ?_
  refine fc (ok_goto hB (t := 45) (by decide) dX12_mostOf_40) ?_
  refine fc (ok_bipush hB dX12_mostOf_43 (by decide)) ?_
  refine fc (ok_iret hB dX12_mostOf_45) ?_
  refine fc (ok_bipush hB dX12_mostOf_46 (by decide)) ?_
  refine fc (ok_iret hB dX12_mostOf_48) ?_
  exact fn

def w_X12_mostOf : WP := fun av σ Q => ∃ (c : Int) (w : Int), av = [(0, c), (0, w)] ∧ (InR c ∧ InR w ∧ Q (0, mosV c w) σ)
theorem w_X12_mostOf_e (c : Int) (w : Int) (σ : Mem) (Q : AV → Mem → Prop) : w_X12_mostOf [(0, c), (0, w)] σ Q = (InR c ∧ InR w ∧ Q (0, mosV c w) σ) := by
  apply propext; constructor
  · rintro ⟨c', w', h9, hb9⟩; cases h9; exact hb9
  · intro hb9; exact ⟨c, w, rfl, hb9⟩

set_option maxRecDepth 100000 in
set_option maxHeartbeats 4000000 in
theorem s_X12_mostOf : ∀ av σ Q, w_X12_mostOf av σ Q → amCall 0 0 0 TT yX12_mostOf cX12_mostOf 2 (some .int) av σ Q := by
  rintro av σ Q ⟨c, w, rfl, hc, hw, h⟩
  unfold mosV at h
  refine am_m0 (own := RX12) (A := look a_X12_mostOf) (fun X e1 e2 hB => o_X12_mostOf e1 e2 hB) rfl (by decide +kernel) rfl rfl 190 (w := 2) ?_
  change vcs _ _ _ _ 190 0 [(0, c), (0, w)] [] σ
  simp only [↓reduceIte, inR_0, inR_1, inR_m, vSw2_e, swP_n, swP_c, vI_e, vL_e, vNull_e, vIload_e, vLload_e, vAload_e, vIstore_e, vLstore_e, vAstore_e, vIinc_e, vIadd_e, vIsub_e, vImul_e, vIand_e, vIor_e, vIxor_e, vIshl_e, vIshr_e, vIushr_e, vIdiv_e, vIrem_e, vLadd_e, vLsub_e, vLmul_e, vLand_e, vLor_e, vLxor_e, vLdiv_e, vLrem_e, vLushr_e, vLshl_e, vLcmp_e, vIneg_e, vI2l_e, vL2i_e, vI2b_e, vI2c_e, vDup_e, vPop_e, vDup2_e, vGoto_e, vIcEq_e, vIfEq_e, vIcNe_e, vIfNe_e, vIcLt_e, vIfLt_e, vIcGe_e, vIfGe_e, vIcGt_e, vIfGt_e, vIcLe_e, vIfLe_e, vNonnull_e, vSw_e, vGetI_e, vGetL_e, vGetR_e, vPutI_e, vPutZ_e, vPutL_e, vPutR_e, vIald_e, vIald_s, vLald_e, vBald_e, vBald_s, vAald_e, vIast_e, vLast_e, vBast_e, vAast_e, vAlen_e8, vAlen_e9, vAlen_e10, vAlen_e11, vAlen_e5, vAlen_e3, vGets_e, vCompact_e, vLdcS_e, vIret_e, vZret_e, vCret_e, vBret_e, vLret_e, vVret_e, vAret_e, vCallM_e0, vCallMV_e0, vCallS_e0, vCallSV_e0, vCallM_e1, vCallMV_e1, vCallS_e1, vCallSV_e1, vCallM_e2, vCallMV_e2, vCallS_e2, vCallSV_e2, vCallM_e3, vCallMV_e3, vCallS_e3, vCallSV_e3, vCallM_e4, vCallMV_e4, vCallS_e4, vCallSV_e4, vCallM_e5, vCallMV_e5, vCallS_e5, vCallSV_e5, vCallM_e6, vCallMV_e6, vCallS_e6, vCallSV_e6, vCallM_e7, vCallMV_e7, vCallS_e7, vCallSV_e7, vBad_e, vStrVal_e, vStrCod_e, vForm_e, vCallT_e0, vCallT_e1, vCallT_e2, vCopy_e, rf_0_0, rf_0_1, rf_0_2, rf_0_3, rf_0_4, rf_0_7, rf_0_10, rf_0_11, rf_0_12, rf_0_13, rf_0_14, rf_0_15, rf_0_16, rf_1_0, rf_3_0, rf_3_1, rf_6_0, rf_6_1, rf_9_0, rf_9_1, rf_9_3, rf_13_0, rf_13_1, rf_13_2, rf_16_0, rf_16_1, rf_16_2, rf_16_3, rf_21_0, rf_21_1, rf_21_2, rf_21_3, rf_26_0, rf_26_1, rf_26_2, rf_26_3, rf_26_4, rf_26_5, rf_26_6, rf_31_0, rf_31_2, rf_31_5, rf_31_6, rf_36_0, rf_36_1, rf_36_2, rf_36_3, rf_39_0, rf_39_1, rf_39_2, rf_41_0, rf_41_1, rf_41_2, rf_41_3, rf_5000_1, rf_5000_2, rf_5000_3, rf_5000_4, rf_5000_5, rf_5000_15, rf_5000_16, rf_5000_18, rf_5000_19, rf_5000_20, rf_5000_21, rf_5000_22, rf_5000_23, rf_5000_24, rf_5000_25, rf_5000_26, rf_5000_27, rf_5000_36, rf_5000_37, rf_5000_40, rf_5000_41, rf_5000_42, rf_5000_43, rf_5000_44, rf_5000_45, rf_5000_47, rf_5000_52, rf_5000_54, rf_5000_55, rf_100_0, rf_100_1, rf_103_0, rf_103_1, rf_106_0, rf_106_1, rf_109_0, rf_109_1, al_2, al_4, al_5, al_7, al_8, al_10, al_11, al_12, al_14, al_15, al_17, al_18, al_19, al_20, al_22, al_23, al_24, al_25, al_27, al_28, al_29, al_30, al_32, al_33, al_34, al_35, al_37, al_38, al_40, al_42, al_5001, al_5002, al_5003, al_5004, al_5005, al_5006, al_5007, al_5008, al_5009, al_5010, al_5011, al_5012, al_5013, al_5014, al_5015, al_5016, al_5017, al_5018, al_5019, al_5020, al_5021, al_5022, al_5023, al_5024, al_5025, al_5026, al_9000, al_101, al_102, al_104, al_105, al_107, al_108, al_110, al_111, vcs_e, lg_c0, lg_cs, lg_nil, set_c0, set_cs, okst_0, okst_s, acok_n, acok_c, List.contains_nil, List.contains_cons, Bool.or_false, Bool.false_or, Bool.false_eq_true, if_false, if_true, ite_self, ne_eq, true_and, and_true, not_false_eq_true, not_true_eq_false, false_imp_iff, true_imp_iff, Nat.ble_eq, Bool.and_eq_true, reduceCtorEq, or_false, false_or, or_true, true_or, false_and, and_false, and_self, Int.reduceLE, Int.reduceAdd, Int.reduceSub, Int.reduceMul, Int.reduceNeg, Int.reduceLT, Int.reduceEq, Int.reduceNe, Nat.reduceBEq, Nat.reduceBNe, Nat.reduceEqDiff, amCmp_in, amCmp_lt, amCmp_le, amCmp_gt, amCmp_ge, amCmp_eq, amCmp_ne, Nat.reduceLeDiff, Nat.reduceSub, Bool.and_true, Bool.true_and, Bool.and_self, Bool.or_true, Bool.true_or, isRf_3, isRf_4, isRf_5, isRf_8, isRf_9, isRf_10, isRf_11, isRf_15, isRf_16, isRf_17, isRf_18, isRf_19, isRf_20, isRf_21, isRf_22, isRf_23, isRf_24, isRf_25, isRf_26, isRf_27, isRf_28, k_X12_mostOf_0, k_X12_mostOf_1, k_X12_mostOf_3, k_X12_mostOf_6, k_X12_mostOf_7, k_X12_mostOf_10, k_X12_mostOf_12, k_X12_mostOf_15, k_X12_mostOf_17, k_X12_mostOf_18, k_X12_mostOf_19, k_X12_mostOf_21, k_X12_mostOf_24, k_X12_mostOf_25, k_X12_mostOf_26, k_X12_mostOf_29, k_X12_mostOf_30, k_X12_mostOf_33, k_X12_mostOf_34, k_X12_mostOf_35, k_X12_mostOf_38, k_X12_mostOf_40, k_X12_mostOf_43, k_X12_mostOf_45, k_X12_mostOf_46, k_X12_mostOf_48, up_s, up_nj, up_na, up_up, savR_o, cpy_o, fillm_o, setAud_o, setv_o, setv_s, Int.reduceNe, Int.reduceEq, Int.reduceLT, Int.reduceAdd, not_false_eq_true, ne_eq, or_true, true_or]
  repeat' (first | apply And.intro | intro _)
  all_goals first | omega | exact absurd trivial (by assumption) | exact Qe h (by (repeat' split) <;> omega)
def a_X12_leastOf : AC := [(0, vIload 0 1), (1, vI 115 3), (3, vIcNe 10 6), (6, vIload 1 7), (7, vIfEq 21 10), (10, vIload 0 11), (11, vI 112 13), (13, vIcNe 25 16), (16, vIload 1 17), (17, vI 3 18), (18, vIcNe 25 21), (21, vI 1 22), (22, vGoto 26), (25, vI 0 26), (26, vIret)]
theorem k_X12_leastOf_0 : look a_X12_leastOf 0 = vIload 0 1 := rfl
theorem k_X12_leastOf_1 : look a_X12_leastOf 1 = vI 115 3 := rfl
theorem k_X12_leastOf_3 : look a_X12_leastOf 3 = vIcNe 10 6 := rfl
theorem k_X12_leastOf_6 : look a_X12_leastOf 6 = vIload 1 7 := rfl
theorem k_X12_leastOf_7 : look a_X12_leastOf 7 = vIfEq 21 10 := rfl
theorem k_X12_leastOf_10 : look a_X12_leastOf 10 = vIload 0 11 := rfl
theorem k_X12_leastOf_11 : look a_X12_leastOf 11 = vI 112 13 := rfl
theorem k_X12_leastOf_13 : look a_X12_leastOf 13 = vIcNe 25 16 := rfl
theorem k_X12_leastOf_16 : look a_X12_leastOf 16 = vIload 1 17 := rfl
theorem k_X12_leastOf_17 : look a_X12_leastOf 17 = vI 3 18 := rfl
theorem k_X12_leastOf_18 : look a_X12_leastOf 18 = vIcNe 25 21 := rfl
theorem k_X12_leastOf_21 : look a_X12_leastOf 21 = vI 1 22 := rfl
theorem k_X12_leastOf_22 : look a_X12_leastOf 22 = vGoto 26 := rfl
theorem k_X12_leastOf_25 : look a_X12_leastOf 25 = vI 0 26 := rfl
theorem k_X12_leastOf_26 : look a_X12_leastOf 26 = vIret := rfl
theorem o_X12_leastOf {X : amX} (e1 : XT X = TT) (e2 : XD X = 0) (hB : amB X RX12 cX12_leastOf (some .int) 2) : ∀ pc, amOK X pc (look a_X12_leastOf pc) := by
  have hT : amTok (XT X) := e1 ▸ TT_ok
  refine look_ok ?_
  unfold a_X12_leastOf
  refine fc (ok_iload_n hB dX12_leastOf_0) ?_
  refine fc (ok_bipush hB dX12_leastOf_1 (by decide)) ?_
  refine fc (ok_icmp_ne hB (t := 10) (by decide) dX12_leastOf_3) ?_
  refine fc (ok_iload_n hB dX12_leastOf_6) ?_
  refine fc (ok_if_eq hB (t := 21) (by decide) dX12_leastOf_7) ?_
  refine fc (ok_iload_n hB dX12_leastOf_10) ?_
  refine fc (ok_bipush hB dX12_leastOf_11 (by decide)) ?_
  refine fc (ok_icmp_ne hB (t := 25) (by decide) dX12_leastOf_13) ?_
  refine fc (ok_iload_n hB dX12_leastOf_16) ?_
  refine fc (ok_iconst hB dX12_leastOf_17) ?_
  refine fc (ok_icmp_ne hB (t := 25) (by decide) dX12_leastOf_18) ?_
  refine fc (ok_iconst hB dX12_leastOf_21) ?_
  refine fc (ok_goto hB (t := 26) (by decide) dX12_leastOf_22) ?_
  refine fc (ok_iconst hB dX12_leastOf_25) ?_
  refine fc (ok_iret hB dX12_leastOf_26) ?_
  exact fn

def w_X12_leastOf : WP := fun av σ Q => ∃ (c : Int) (w : Int), av = [(0, c), (0, w)] ∧ (InR c ∧ InR w ∧ Q (0, leaV c w) σ)
theorem w_X12_leastOf_e (c : Int) (w : Int) (σ : Mem) (Q : AV → Mem → Prop) : w_X12_leastOf [(0, c), (0, w)] σ Q = (InR c ∧ InR w ∧ Q (0, leaV c w) σ) := by
  apply propext; constructor
  · rintro ⟨c', w', h9, hb9⟩; cases h9; exact hb9
  · intro hb9; exact ⟨c, w, rfl, hb9⟩

set_option maxRecDepth 100000 in
set_option maxHeartbeats 4000000 in
theorem s_X12_leastOf : ∀ av σ Q, w_X12_leastOf av σ Q → amCall 0 0 0 TT yX12_leastOf cX12_leastOf 2 (some .int) av σ Q := by
  rintro av σ Q ⟨c, w, rfl, hc, hw, h⟩
  unfold leaV at h
  refine am_m0 (own := RX12) (A := look a_X12_leastOf) (fun X e1 e2 hB => o_X12_leastOf e1 e2 hB) rfl (by decide +kernel) rfl rfl 190 (w := 2) ?_
  change vcs _ _ _ _ 190 0 [(0, c), (0, w)] [] σ
  simp only [↓reduceIte, inR_0, inR_1, inR_m, vSw2_e, swP_n, swP_c, vI_e, vL_e, vNull_e, vIload_e, vLload_e, vAload_e, vIstore_e, vLstore_e, vAstore_e, vIinc_e, vIadd_e, vIsub_e, vImul_e, vIand_e, vIor_e, vIxor_e, vIshl_e, vIshr_e, vIushr_e, vIdiv_e, vIrem_e, vLadd_e, vLsub_e, vLmul_e, vLand_e, vLor_e, vLxor_e, vLdiv_e, vLrem_e, vLushr_e, vLshl_e, vLcmp_e, vIneg_e, vI2l_e, vL2i_e, vI2b_e, vI2c_e, vDup_e, vPop_e, vDup2_e, vGoto_e, vIcEq_e, vIfEq_e, vIcNe_e, vIfNe_e, vIcLt_e, vIfLt_e, vIcGe_e, vIfGe_e, vIcGt_e, vIfGt_e, vIcLe_e, vIfLe_e, vNonnull_e, vSw_e, vGetI_e, vGetL_e, vGetR_e, vPutI_e, vPutZ_e, vPutL_e, vPutR_e, vIald_e, vIald_s, vLald_e, vBald_e, vBald_s, vAald_e, vIast_e, vLast_e, vBast_e, vAast_e, vAlen_e8, vAlen_e9, vAlen_e10, vAlen_e11, vAlen_e5, vAlen_e3, vGets_e, vCompact_e, vLdcS_e, vIret_e, vZret_e, vCret_e, vBret_e, vLret_e, vVret_e, vAret_e, vCallM_e0, vCallMV_e0, vCallS_e0, vCallSV_e0, vCallM_e1, vCallMV_e1, vCallS_e1, vCallSV_e1, vCallM_e2, vCallMV_e2, vCallS_e2, vCallSV_e2, vCallM_e3, vCallMV_e3, vCallS_e3, vCallSV_e3, vCallM_e4, vCallMV_e4, vCallS_e4, vCallSV_e4, vCallM_e5, vCallMV_e5, vCallS_e5, vCallSV_e5, vCallM_e6, vCallMV_e6, vCallS_e6, vCallSV_e6, vCallM_e7, vCallMV_e7, vCallS_e7, vCallSV_e7, vBad_e, vStrVal_e, vStrCod_e, vForm_e, vCallT_e0, vCallT_e1, vCallT_e2, vCopy_e, rf_0_0, rf_0_1, rf_0_2, rf_0_3, rf_0_4, rf_0_7, rf_0_10, rf_0_11, rf_0_12, rf_0_13, rf_0_14, rf_0_15, rf_0_16, rf_1_0, rf_3_0, rf_3_1, rf_6_0, rf_6_1, rf_9_0, rf_9_1, rf_9_3, rf_13_0, rf_13_1, rf_13_2, rf_16_0, rf_16_1, rf_16_2, rf_16_3, rf_21_0, rf_21_1, rf_21_2, rf_21_3, rf_26_0, rf_26_1, rf_26_2, rf_26_3, rf_26_4, rf_26_5, rf_26_6, rf_31_0, rf_31_2, rf_31_5, rf_31_6, rf_36_0, rf_36_1, rf_36_2, rf_36_3, rf_39_0, rf_39_1, rf_39_2, rf_41_0, rf_41_1, rf_41_2, rf_41_3, rf_5000_1, rf_5000_2, rf_5000_3, rf_5000_4, rf_5000_5, rf_5000_15, rf_5000_16, rf_5000_18, rf_5000_19, rf_5000_20, rf_5000_21, rf_5000_22, rf_5000_23, rf_5000_24, rf_5000_25, rf_5000_26, rf_5000_27, rf_5000_36, rf_5000_37, rf_5000_40, rf_5000_41, rf_5000_42, rf_5000_43, rf_5000_44, rf_5000_45, rf_5000_47, rf_5000_52, rf_5000_54, rf_5000_55, rf_100_0, rf_100_1, rf_103_0, rf_103_1, rf_106_0, rf_106_1, rf_109_0, rf_109_1, al_2, al_4, al_5, al_7, al_8, al_10, al_11, al_12, al_14, al_15, al_17, al_18, al_19, al_20, al_22, al_23, al_24, al_25, al_27, al_28, al_29, al_30, al_32, al_33, al_34, al_35, al_37, al_38, al_40, al_42, al_5001, al_5002, al_5003, al_5004, al_5005, al_5006, al_5007, al_5008, al_5009, al_5010, al_5011, al_5012, al_5013, al_5014, al_5015, al_5016, al_5017, al_5018, al_5019, al_5020, al_5021, al_5022, al_5023, al_5024, al_5025, al_5026, al_9000, al_101, al_102, al_104, al_105, al_107, al_108, al_110, al_111, vcs_e, lg_c0, lg_cs, lg_nil, set_c0, set_cs, okst_0, okst_s, acok_n, acok_c, List.contains_nil, List.contains_cons, Bool.or_false, Bool.false_or, Bool.false_eq_true, if_false, if_true, ite_self, ne_eq, true_and, and_true, not_false_eq_true, not_true_eq_false, false_imp_iff, true_imp_iff, Nat.ble_eq, Bool.and_eq_true, reduceCtorEq, or_false, false_or, or_true, true_or, false_and, and_false, and_self, Int.reduceLE, Int.reduceAdd, Int.reduceSub, Int.reduceMul, Int.reduceNeg, Int.reduceLT, Int.reduceEq, Int.reduceNe, Nat.reduceBEq, Nat.reduceBNe, Nat.reduceEqDiff, amCmp_in, amCmp_lt, amCmp_le, amCmp_gt, amCmp_ge, amCmp_eq, amCmp_ne, Nat.reduceLeDiff, Nat.reduceSub, Bool.and_true, Bool.true_and, Bool.and_self, Bool.or_true, Bool.true_or, isRf_3, isRf_4, isRf_5, isRf_8, isRf_9, isRf_10, isRf_11, isRf_15, isRf_16, isRf_17, isRf_18, isRf_19, isRf_20, isRf_21, isRf_22, isRf_23, isRf_24, isRf_25, isRf_26, isRf_27, isRf_28, k_X12_leastOf_0, k_X12_leastOf_1, k_X12_leastOf_3, k_X12_leastOf_6, k_X12_leastOf_7, k_X12_leastOf_10, k_X12_leastOf_11, k_X12_leastOf_13, k_X12_leastOf_16, k_X12_leastOf_17, k_X12_leastOf_18, k_X12_leastOf_21, k_X12_leastOf_22, k_X12_leastOf_25, k_X12_leastOf_26, up_s, up_nj, up_na, up_up, savR_o, cpy_o, fillm_o, setAud_o, setv_o, setv_s, Int.reduceNe, Int.reduceEq, Int.reduceLT, Int.reduceAdd, not_false_eq_true, ne_eq, or_true, true_or]
  repeat' (first | apply And.intro | intro _)
  all_goals first | omega | exact absurd trivial (by assumption) | exact Qe h (by (repeat' split) <;> omega)
def a_X12_usual : AC := [(0, vIload 0 1), (1, vI 115 3), (3, vIcNe 17 6), (6, vIload 1 7), (7, vIfNe 15 10), (10, vI 12 12), (12, vGoto 16), (15, vI 5 16), (16, vIret), (17, vIload 0 18), (18, vI 112 20), (20, vIcNe 25 23), (23, vI 3 24), (24, vIret), (25, vIload 0 26), (26, vI 116 28), (28, vIcNe 33 31), (31, vI 2 32), (32, vIret), (33, vIload 1 34), (34, vIfNe 41 37), (37, vI 5 38), (38, vGoto 52), (41, vIload 1 42), (42, vI 1 43), (43, vIcNe 50 46), (46, vI 0 47), (47, vGoto 52), (50, vI 20 52), (52, vIret)]
theorem k_X12_usual_0 : look a_X12_usual 0 = vIload 0 1 := rfl
theorem k_X12_usual_1 : look a_X12_usual 1 = vI 115 3 := rfl
theorem k_X12_usual_3 : look a_X12_usual 3 = vIcNe 17 6 := rfl
theorem k_X12_usual_6 : look a_X12_usual 6 = vIload 1 7 := rfl
theorem k_X12_usual_7 : look a_X12_usual 7 = vIfNe 15 10 := rfl
theorem k_X12_usual_10 : look a_X12_usual 10 = vI 12 12 := rfl
theorem k_X12_usual_12 : look a_X12_usual 12 = vGoto 16 := rfl
theorem k_X12_usual_15 : look a_X12_usual 15 = vI 5 16 := rfl
theorem k_X12_usual_16 : look a_X12_usual 16 = vIret := rfl
theorem k_X12_usual_17 : look a_X12_usual 17 = vIload 0 18 := rfl
theorem k_X12_usual_18 : look a_X12_usual 18 = vI 112 20 := rfl
theorem k_X12_usual_20 : look a_X12_usual 20 = vIcNe 25 23 := rfl
theorem k_X12_usual_23 : look a_X12_usual 23 = vI 3 24 := rfl
theorem k_X12_usual_24 : look a_X12_usual 24 = vIret := rfl
theorem k_X12_usual_25 : look a_X12_usual 25 = vIload 0 26 := rfl
theorem k_X12_usual_26 : look a_X12_usual 26 = vI 116 28 := rfl
theorem k_X12_usual_28 : look a_X12_usual 28 = vIcNe 33 31 := rfl
theorem k_X12_usual_31 : look a_X12_usual 31 = vI 2 32 := rfl
theorem k_X12_usual_32 : look a_X12_usual 32 = vIret := rfl
theorem k_X12_usual_33 : look a_X12_usual 33 = vIload 1 34 := rfl
theorem k_X12_usual_34 : look a_X12_usual 34 = vIfNe 41 37 := rfl
theorem k_X12_usual_37 : look a_X12_usual 37 = vI 5 38 := rfl
theorem k_X12_usual_38 : look a_X12_usual 38 = vGoto 52 := rfl
theorem k_X12_usual_41 : look a_X12_usual 41 = vIload 1 42 := rfl
theorem k_X12_usual_42 : look a_X12_usual 42 = vI 1 43 := rfl
theorem k_X12_usual_43 : look a_X12_usual 43 = vIcNe 50 46 := rfl
theorem k_X12_usual_46 : look a_X12_usual 46 = vI 0 47 := rfl
theorem k_X12_usual_47 : look a_X12_usual 47 = vGoto 52 := rfl
theorem k_X12_usual_50 : look a_X12_usual 50 = vI 20 52 := rfl
theorem k_X12_usual_52 : look a_X12_usual 52 = vIret := rfl
theorem o_X12_usual {X : amX} (e1 : XT X = TT) (e2 : XD X = 0) (hB : amB X RX12 cX12_usual (some .int) 2) : ∀ pc, amOK X pc (look a_X12_usual pc) := by
  have hT : amTok (XT X) := e1 ▸ TT_ok
  refine look_ok ?_
  unfold a_X12_usual
  refine fc (ok_iload_n hB dX12_usual_0) ?_
  refine fc (ok_bipush hB dX12_usual_1 (by decide)) ?_
  refine fc (ok_icmp_ne hB (t := 17) (by decide) dX12_usual_3) ?_
  refine fc (ok_iload_n hB dX12_usual_6) ?_
  refine fc (ok_if_ne hB (t := 15) (by decide) dX12_usual_7) ?_
  refine fc (ok_bipush hB dX12_usual_10 (by decide)) ?_
  refine fc (ok_goto hB (t := 16) (by decide) dX12_usual_12) ?_
  refine fc (ok_iconst hB dX12_usual_15) ?_
  refine fc (ok_iret hB dX12_usual_16) ?_
  refine fc (ok_iload_n hB dX12_usual_17) ?_
  refine fc (ok_bipush hB dX12_usual_18 (by decide)) ?_
  refine fc (ok_icmp_ne hB (t := 25) (by decide) dX12_usual_20) ?_
  refine fc (ok_iconst hB dX12_usual_23) ?_
  refine fc (ok_iret hB dX12_usual_24) ?_
  refine fc (ok_iload_n hB dX12_usual_25) ?_
  refine fc (ok_bipush hB dX12_usual_26 (by decide)) ?_
  refine fc (ok_icmp_ne hB (t := 33) (by decide) dX12_usual_28) ?_
  refine fc (ok_iconst hB dX12_usual_31) ?_
  refine fc (ok_iret hB dX12_usual_32) ?_
  refine fc (ok_iload_n hB dX12_usual_33) ?_
  refine fc (ok_if_ne hB (t := 41) (by decide) dX12_usual_34) ?_
  refine fc (ok_iconst hB dX12_usual_37) ?_
  refine fc (ok_goto hB (t := 52) (by decide) dX12_usual_38) ?_
  refine fc (ok_iload_n hB dX12_usual_41) ?_
  refine fc (ok_iconst hB dX12_usual_42) ?_
  refine fc (ok_icmp_ne hB (t := 50) (by decide) dX12_usual_43) ?_
  refine fc (ok_iconst hB dX12_usual_46) ?_
  refine fc (ok_goto hB (t := 52) (by decide) dX12_usual_47) ?_
  refine fc (ok_bipush hB dX12_usual_50 (by decide)) ?_
  refine fc (ok_iret hB dX12_usual_52) ?_
  exact fn

def w_X12_usual : WP := fun av σ Q => ∃ (c : Int) (w : Int), av = [(0, c), (0, w)] ∧ (InR c ∧ InR w ∧ Q (0, usuV c w) σ)
theorem w_X12_usual_e (c : Int) (w : Int) (σ : Mem) (Q : AV → Mem → Prop) : w_X12_usual [(0, c), (0, w)] σ Q = (InR c ∧ InR w ∧ Q (0, usuV c w) σ) := by
  apply propext; constructor
  · rintro ⟨c', w', h9, hb9⟩; cases h9; exact hb9
  · intro hb9; exact ⟨c, w, rfl, hb9⟩

set_option maxRecDepth 100000 in
set_option maxHeartbeats 4000000 in
theorem s_X12_usual : ∀ av σ Q, w_X12_usual av σ Q → amCall 0 0 0 TT yX12_usual cX12_usual 2 (some .int) av σ Q := by
  rintro av σ Q ⟨c, w, rfl, hc, hw, h⟩
  unfold usuV at h
  refine am_m0 (own := RX12) (A := look a_X12_usual) (fun X e1 e2 hB => o_X12_usual e1 e2 hB) rfl (by decide +kernel) rfl rfl 190 (w := 2) ?_
  change vcs _ _ _ _ 190 0 [(0, c), (0, w)] [] σ
  simp only [↓reduceIte, inR_0, inR_1, inR_m, vSw2_e, swP_n, swP_c, vI_e, vL_e, vNull_e, vIload_e, vLload_e, vAload_e, vIstore_e, vLstore_e, vAstore_e, vIinc_e, vIadd_e, vIsub_e, vImul_e, vIand_e, vIor_e, vIxor_e, vIshl_e, vIshr_e, vIushr_e, vIdiv_e, vIrem_e, vLadd_e, vLsub_e, vLmul_e, vLand_e, vLor_e, vLxor_e, vLdiv_e, vLrem_e, vLushr_e, vLshl_e, vLcmp_e, vIneg_e, vI2l_e, vL2i_e, vI2b_e, vI2c_e, vDup_e, vPop_e, vDup2_e, vGoto_e, vIcEq_e, vIfEq_e, vIcNe_e, vIfNe_e, vIcLt_e, vIfLt_e, vIcGe_e, vIfGe_e, vIcGt_e, vIfGt_e, vIcLe_e, vIfLe_e, vNonnull_e, vSw_e, vGetI_e, vGetL_e, vGetR_e, vPutI_e, vPutZ_e, vPutL_e, vPutR_e, vIald_e, vIald_s, vLald_e, vBald_e, vBald_s, vAald_e, vIast_e, vLast_e, vBast_e, vAast_e, vAlen_e8, vAlen_e9, vAlen_e10, vAlen_e11, vAlen_e5, vAlen_e3, vGets_e, vCompact_e, vLdcS_e, vIret_e, vZret_e, vCret_e, vBret_e, vLret_e, vVret_e, vAret_e, vCallM_e0, vCallMV_e0, vCallS_e0, vCallSV_e0, vCallM_e1, vCallMV_e1, vCallS_e1, vCallSV_e1, vCallM_e2, vCallMV_e2, vCallS_e2, vCallSV_e2, vCallM_e3, vCallMV_e3, vCallS_e3, vCallSV_e3, vCallM_e4, vCallMV_e4, vCallS_e4, vCallSV_e4, vCallM_e5, vCallMV_e5, vCallS_e5, vCallSV_e5, vCallM_e6, vCallMV_e6, vCallS_e6, vCallSV_e6, vCallM_e7, vCallMV_e7, vCallS_e7, vCallSV_e7, vBad_e, vStrVal_e, vStrCod_e, vForm_e, vCallT_e0, vCallT_e1, vCallT_e2, vCopy_e, rf_0_0, rf_0_1, rf_0_2, rf_0_3, rf_0_4, rf_0_7, rf_0_10, rf_0_11, rf_0_12, rf_0_13, rf_0_14, rf_0_15, rf_0_16, rf_1_0, rf_3_0, rf_3_1, rf_6_0, rf_6_1, rf_9_0, rf_9_1, rf_9_3, rf_13_0, rf_13_1, rf_13_2, rf_16_0, rf_16_1, rf_16_2, rf_16_3, rf_21_0, rf_21_1, rf_21_2, rf_21_3, rf_26_0, rf_26_1, rf_26_2, rf_26_3, rf_26_4, rf_26_5, rf_26_6, rf_31_0, rf_31_2, rf_31_5, rf_31_6, rf_36_0, rf_36_1, rf_36_2, rf_36_3, rf_39_0, rf_39_1, rf_39_2, rf_41_0, rf_41_1, rf_41_2, rf_41_3, rf_5000_1, rf_5000_2, rf_5000_3, rf_5000_4, rf_5000_5, rf_5000_15, rf_5000_16, rf_5000_18, rf_5000_19, rf_5000_20, rf_5000_21, rf_5000_22, rf_5000_23, rf_5000_24, rf_5000_25, rf_5000_26, rf_5000_27, rf_5000_36, rf_5000_37, rf_5000_40, rf_5000_41, rf_5000_42, rf_5000_43, rf_5000_44, rf_5000_45, rf_5000_47, rf_5000_52, rf_5000_54, rf_5000_55, rf_100_0, rf_100_1, rf_103_0, rf_103_1, rf_106_0, rf_106_1, rf_109_0, rf_109_1, al_2, al_4, al_5, al_7, al_8, al_10, al_11, al_12, al_14, al_15, al_17, al_18, al_19, al_20, al_22, al_23, al_24, al_25, al_27, al_28, al_29, al_30, al_32, al_33, al_34, al_35, al_37, al_38, al_40, al_42, al_5001, al_5002, al_5003, al_5004, al_5005, al_5006, al_5007, al_5008, al_5009, al_5010, al_5011, al_5012, al_5013, al_5014, al_5015, al_5016, al_5017, al_5018, al_5019, al_5020, al_5021, al_5022, al_5023, al_5024, al_5025, al_5026, al_9000, al_101, al_102, al_104, al_105, al_107, al_108, al_110, al_111, vcs_e, lg_c0, lg_cs, lg_nil, set_c0, set_cs, okst_0, okst_s, acok_n, acok_c, List.contains_nil, List.contains_cons, Bool.or_false, Bool.false_or, Bool.false_eq_true, if_false, if_true, ite_self, ne_eq, true_and, and_true, not_false_eq_true, not_true_eq_false, false_imp_iff, true_imp_iff, Nat.ble_eq, Bool.and_eq_true, reduceCtorEq, or_false, false_or, or_true, true_or, false_and, and_false, and_self, Int.reduceLE, Int.reduceAdd, Int.reduceSub, Int.reduceMul, Int.reduceNeg, Int.reduceLT, Int.reduceEq, Int.reduceNe, Nat.reduceBEq, Nat.reduceBNe, Nat.reduceEqDiff, amCmp_in, amCmp_lt, amCmp_le, amCmp_gt, amCmp_ge, amCmp_eq, amCmp_ne, Nat.reduceLeDiff, Nat.reduceSub, Bool.and_true, Bool.true_and, Bool.and_self, Bool.or_true, Bool.true_or, isRf_3, isRf_4, isRf_5, isRf_8, isRf_9, isRf_10, isRf_11, isRf_15, isRf_16, isRf_17, isRf_18, isRf_19, isRf_20, isRf_21, isRf_22, isRf_23, isRf_24, isRf_25, isRf_26, isRf_27, isRf_28, k_X12_usual_0, k_X12_usual_1, k_X12_usual_3, k_X12_usual_6, k_X12_usual_7, k_X12_usual_10, k_X12_usual_12, k_X12_usual_15, k_X12_usual_16, k_X12_usual_17, k_X12_usual_18, k_X12_usual_20, k_X12_usual_23, k_X12_usual_24, k_X12_usual_25, k_X12_usual_26, k_X12_usual_28, k_X12_usual_31, k_X12_usual_32, k_X12_usual_33, k_X12_usual_34, k_X12_usual_37, k_X12_usual_38, k_X12_usual_41, k_X12_usual_42, k_X12_usual_43, k_X12_usual_46, k_X12_usual_47, k_X12_usual_50, k_X12_usual_52, up_s, up_nj, up_na, up_up, savR_o, cpy_o, fillm_o, setAud_o, setv_o, setv_s, Int.reduceNe, Int.reduceEq, Int.reduceLT, Int.reduceAdd, not_false_eq_true, ne_eq, or_true, true_or]
  repeat' (first | apply And.intro | intro _)
  all_goals first | omega | exact absurd trivial (by assumption) | exact Qe h (by (repeat' split) <;> omega)
/-- the kinds of clauses: their sign, how many items each has, its row of items, and where a row stands -/
def kch (k : Int) : Int := if k = 0 then 115 else if k = 1 then 112 else if k = 2 then 99 else 116
def kln (k : Int) : Int := if k = 0 then 2 else if k = 1 then 4 else if k = 2 then 3 else 1
def kid (k : Int) : Int := if k = 0 then 5006 else if k = 1 then 5008 else if k = 2 then 5010 else 5012
theorem kln_b (k : Int) : 1 ≤ kln k ∧ kln k ≤ 4 := by unfold kln; (repeat' split) <;> omega
theorem kvals : ∀ k : Nat, k < 4 → ∀ w : Nat, w < 4 → (w : Int) < kln k → mosV (kch k) w = sav 21001 ((k : Int) * 4 + w) ∧ leaV (kch k) w = sav 21000 ((k : Int) * 4 + w) ∧ usuV (kch k) w = sav 21002 ((k : Int) * 4 + w) := by decide +kernel
theorem kvals' {k w : Int} (k0 : 0 ≤ k) (k1 : k < 4) (w0 : 0 ≤ w) (w1 : w < kln k) : mosV (kch k) w = sav 21001 (k * 4 + w) ∧ leaV (kch k) w = sav 21000 (k * 4 + w) ∧ usuV (kch k) w = sav 21002 (k * 4 + w) := by
  have kb := kln_b k
  obtain ⟨a, rfl⟩ : ∃ a : Nat, k = a := ⟨k.toNat, by omega⟩
  obtain ⟨b, rfl⟩ : ∃ b : Nat, w = b := ⟨w.toNat, by omega⟩
  exact kvals a (by omega) b (by omega) w1
/-! the reference reads the items of a clause -/
/-- which place of the class's row of 68 a place of the reference's rows is; -1: none -/
def slo (b j : Int) : Int := if b = 5006 ∧ 0 ≤ j ∧ j < 2 then j else if b = 5008 ∧ 0 ≤ j ∧ j < 16 then 4 + j else if b = 5010 ∧ 0 ≤ j ∧ j < 18 then (5 + j / 3) * 4 + j % 3 else if b = 5012 ∧ 0 ≤ j ∧ j < 6 then (11 + j) * 4 else -1
theorem slo_o {b : Int} (h1 : b ≠ 5006) (h2 : b ≠ 5008) (h3 : b ≠ 5010) (h4 : b ≠ 5012) (j : Int) : slo b j = -1 := by
  unfold slo; rw [if_neg (fun q => h1 q.1), if_neg (fun q => h2 q.1), if_neg (fun q => h3 q.1), if_neg (fun q => h4 q.1)]
theorem slo_5 (j : Int) : slo 5000 j = -1 := slo_o (by decide) (by decide) (by decide) (by decide) j
/-- while a HOUSE is read: place, fault, counts, numbers -/
def hoN (m : Mem) (p f : Int) (c v : Int → Int) : Mem := fun b j => if 0 ≤ slo b j then v (slo b j) else if b = 5000 ∧ 31 ≤ j ∧ j ≤ 33 then c (j - 30) else if b = 5000 ∧ j = 35 then c 0 else rdM m p f (m 5000 12) b j
theorem ho_k (m : Mem) (p f : Int) (c v : Int → Int) {k : Int} (h : (k < 31 ∨ 33 < k) ∧ k ≠ 35) : hoN m p f c v 5000 k = rdM m p f (m 5000 12) 5000 k := by
  unfold hoN; rw [slo_5, if_neg (by decide), if_neg (by omega), if_neg (by omega)]
theorem ho_10 (m : Mem) (p f : Int) (c v : Int → Int) : hoN m p f c v 5000 10 = p := by rw [ho_k _ _ _ _ _ (by decide)]; exact rd_10 _ _ _ _
theorem ho_11 (m : Mem) (p f : Int) (c v : Int → Int) : hoN m p f c v 5000 11 = f := by rw [ho_k _ _ _ _ _ (by decide)]; exact rd_11 _ _ _ _
theorem ho_9 (m : Mem) (p f : Int) (c v : Int → Int) : hoN m p f c v 5000 9 = m 5000 9 := by rw [ho_k _ _ _ _ _ (by decide)]; exact rd_9 _ _ _ _
theorem ho_cc (m : Mem) (p f : Int) (c v : Int → Int) {k : Int} (h : 31 ≤ k ∧ k ≤ 33) : hoN m p f c v 5000 k = c (k - 30) := by
  unfold hoN; rw [slo_5, if_neg (by decide), if_pos ⟨rfl, h⟩]
theorem ho_c0 (m : Mem) (p f : Int) (c v : Int → Int) : hoN m p f c v 5000 35 = c 0 := by
  unfold hoN; rw [slo_5, if_neg (by decide), if_neg (by decide), if_pos ⟨rfl, rfl⟩]
theorem ho_o (m : Mem) (p f : Int) (c v : Int → Int) {b : Int} (h : b ≠ 5000) (h1 : b ≠ 5006) (h2 : b ≠ 5008) (h3 : b ≠ 5010) (h4 : b ≠ 5012) : hoN m p f c v b = m b := by
  funext j; unfold hoN
  rw [slo_o h1 h2 h3 h4, if_neg (by decide), if_neg (fun q => h q.1), if_neg (fun q => h q.1), rd_r m p f _ h]
theorem ho_u10 (m : Mem) (p f x : Int) (c v : Int → Int) : up (hoN m p f c v) 5000 10 x = hoN m x f c v := by
  funext b j; unfold up hoN
  by_cases h : b = 5000 ∧ j = 10
  · rw [if_pos h, h.1, h.2, slo_5, if_neg (by decide), if_neg (by decide), if_neg (by decide)]; rfl
  · rw [if_neg h]; unfold rdM; rw [if_neg h, if_neg h]
theorem ho_u11 (m : Mem) (p f x : Int) (c v : Int → Int) : up (hoN m p f c v) 5000 11 x = hoN m p x c v := by
  funext b j; unfold up hoN
  by_cases h : b = 5000 ∧ j = 11
  · rw [if_pos h, h.1, h.2, slo_5, if_neg (by decide), if_neg (by decide), if_neg (by decide)]; rfl
  · rw [if_neg h]; unfold rdM; rw [if_neg h, if_neg h]
theorem ho_fa (m : Mem) (p : Int) (c v : Int → Int) : faM (hoN m p (-1) c v) = hoN m p p c v := by
  unfold faM; rw [if_pos (ho_11 _ _ _ _ _), ho_10, ho_u11]
theorem ho_cong {m : Mem} {p f : Int} {c v v' : Int → Int} (h : ∀ b j, 0 ≤ slo b j → v' (slo b j) = v (slo b j)) : hoN m p f c v' = hoN m p f c v := by
  funext b j; unfold hoN
  by_cases h2 : 0 ≤ slo b j
  · rw [if_pos h2, if_pos h2, h b j h2]
  · rw [if_neg h2, if_neg h2]
theorem ho_tx {m : Mem} (h : txOk m) (p f : Int) (c v : Int → Int) : mtx (hoN m p f c v) = mtx m ∧ txOk (hoN m p f c v) := by
  have hT := tx_T h
  have e5 : hoN m p f c v 5000 5 = m 5000 5 := by rw [ho_k _ _ _ _ _ (by decide)]; exact rd_5 _ _ _ _
  have e8 : hoN m p f c v 5000 8 = m 5000 8 := by rw [ho_k _ _ _ _ _ (by decide)]; exact rd_8 _ _ _ _
  constructor
  · funext i; unfold mtx; rw [ho_9, e5, e8, ho_o m p f c v (by omega) (by omega) (by omega) (by omega) (by omega)]
  · unfold txOk; rw [ho_9, e5, e8, ho_o m p f c v (by omega) (by omega) (by omega) (by omega) (by omega)]; exact h
/-- row i of the clauses of kind k: its places in the reference's row -/
theorem slo_k {k i w : Int} (k0 : 0 ≤ k) (k1 : k < 4) (i0 : 0 ≤ i) (i1 : i < mostK k) (w0 : 0 ≤ w) (w1 : w < kln k) : slo (kid k) (i * kln k + w) = (firstK k + i) * 4 + w ∧ 0 ≤ i * kln k + w ∧ i * kln k + w < mostK k * kln k := by
  have : k = 0 ∨ k = 1 ∨ k = 2 ∨ k = 3 := by omega
  rcases this with rfl | rfl | rfl | rfl
  · have e1 : kid 0 = 5006 := rfl
    have e2 : kln 0 = 2 := rfl
    have e3 : mostK 0 = 1 := rfl
    have e4 : firstK 0 = 0 := rfl
    rw [e2] at w1 ⊢
    rw [e3] at i1 ⊢
    rw [e1, e4]
    unfold slo
    rw [if_pos (by omega)]; omega
  · have e1 : kid 1 = 5008 := rfl
    have e2 : kln 1 = 4 := rfl
    have e3 : mostK 1 = 4 := rfl
    have e4 : firstK 1 = 1 := rfl
    rw [e2] at w1 ⊢
    rw [e3] at i1 ⊢
    rw [e1, e4]
    unfold slo
    rw [if_neg (by omega), if_pos (by omega)]; omega
  · have e1 : kid 2 = 5010 := rfl
    have e2 : kln 2 = 3 := rfl
    have e3 : mostK 2 = 6 := rfl
    have e4 : firstK 2 = 5 := rfl
    rw [e2] at w1 ⊢
    rw [e3] at i1 ⊢
    rw [e1, e4]
    unfold slo
    rw [if_neg (by omega), if_neg (by omega), if_pos (by omega)]; omega
  · have e1 : kid 3 = 5012 := rfl
    have e2 : kln 3 = 1 := rfl
    have e3 : mostK 3 = 6 := rfl
    have e4 : firstK 3 = 11 := rfl
    rw [e2] at w1 ⊢
    rw [e3] at i1 ⊢
    rw [e1, e4]
    unfold slo
    rw [if_neg (by omega), if_neg (by omega), if_neg (by omega), if_pos (by omega)]; omega
/-- two places are not one -/
theorem slo_inj {b j b' j' : Int} (h0 : 0 ≤ slo b j) (h : slo b' j' = slo b j) : b' = b ∧ j' = j := by
  have h0' : 0 ≤ slo b' j' := by omega
  unfold slo at *
  (repeat' split at h) <;> (repeat' split at h0) <;> (repeat' split at h0') <;> omega
/-- a place of a row is one of its items -/
theorem slo_r {k i : Int} (k0 : 0 ≤ k) (k1 : k < 4) (i0 : 0 ≤ i) (i1 : i < mostK k) {b j : Int} (h0 : (firstK k + i) * 4 ≤ slo b j) (h1 : slo b j < (firstK k + i) * 4 + 4) : slo b j < (firstK k + i) * 4 + kln k := by
  have : k = 0 ∨ k = 1 ∨ k = 2 ∨ k = 3 := by omega
  rcases this with rfl | rfl | rfl | rfl
  · have e2 : kln 0 = 2 := rfl
    have e3 : mostK 0 = 1 := rfl
    have e4 : firstK 0 = 0 := rfl
    rw [e3] at i1
    rw [e4] at h0 h1 ⊢
    rw [e2]
    unfold slo at *
    (repeat' split) <;> (repeat' split at h0) <;> (repeat' split at h1) <;> omega
  · have e2 : kln 1 = 4 := rfl
    rw [e2]; exact h1
  · have e2 : kln 2 = 3 := rfl
    have e3 : mostK 2 = 6 := rfl
    have e4 : firstK 2 = 5 := rfl
    rw [e3] at i1
    rw [e4] at h0 h1 ⊢
    rw [e2]
    unfold slo at *
    (repeat' split) <;> (repeat' split at h0) <;> (repeat' split at h1) <;> omega
  · have e2 : kln 3 = 1 := rfl
    have e3 : mostK 3 = 6 := rfl
    have e4 : firstK 3 = 11 := rfl
    rw [e3] at i1
    rw [e4] at h0 h1 ⊢
    rw [e2]
    unfold slo at *
    (repeat' split) <;> (repeat' split at h0) <;> (repeat' split at h1) <;> omega
theorem ho_w {m : Mem} {p f : Int} {c v : Int → Int} {k i w x : Int} (k0 : 0 ≤ k) (k1 : k < 4) (i0 : 0 ≤ i) (i1 : i < mostK k) (w0 : 0 ≤ w) (w1 : w < kln k) : up (hoN m p f c v) (kid k) (i * kln k + w) x = hoN m p f c (upf v ((firstK k + i) * 4 + w) x) := by
  obtain ⟨e, -, -⟩ := slo_k k0 k1 i0 i1 w0 w1
  have fb := firstK_b k
  funext b j; unfold up hoN upf
  by_cases h : b = kid k ∧ j = i * kln k + w
  · rw [if_pos h, h.1, h.2, e, if_pos (by omega), if_pos rfl]
  · rw [if_neg h]
    by_cases h2 : 0 ≤ slo b j
    · rw [if_pos h2, if_pos h2, if_neg (fun q => h (slo_inj (by rw [e]; omega) (by rw [e]; exact q)))]
    · rw [if_neg h2, if_neg h2]
/-- the first j items of a row untold -/
def flv (v : Int → Int) (k i j : Int) : Int → Int := fun s => if (firstK k + i) * 4 ≤ s ∧ s < (firstK k + i) * 4 + j then sav 21002 (k * 4 + (s - (firstK k + i) * 4)) else v s
theorem flv_0 (v : Int → Int) (k i : Int) : flv v k i 0 = v := by
  funext s; unfold flv; rw [if_neg (by omega)]
theorem flv_s (v : Int → Int) (k i : Int) {j : Int} (j0 : 0 ≤ j) : upf (flv v k i j) ((firstK k + i) * 4 + j) (sav 21002 (k * 4 + j)) = flv v k i (j + 1) := by
  funext s; unfold upf flv
  by_cases h : s = (firstK k + i) * 4 + j
  · rw [if_pos h, if_pos (by omega), h]; congr 2; omega
  · rw [if_neg h]
    by_cases h2 : (firstK k + i) * 4 ≤ s ∧ s < (firstK k + i) * 4 + j
    · rw [if_pos h2, if_pos (by omega)]
    · rw [if_neg h2, if_neg (by omega)]
theorem ho_fl {m : Mem} {p f : Int} {c v : Int → Int} {k i : Int} (k0 : 0 ≤ k) (k1 : k < 4) (i0 : 0 ≤ i) (i1 : i < mostK k) : hoN m p f c (flv v k i (kln k)) = hoN m p f c (filv v k i) := by
  have kb := kln_b k
  refine ho_cong (fun b j hb => ?_)
  unfold flv filv
  by_cases h : (firstK k + i) * 4 ≤ slo b j ∧ slo b j < (firstK k + i) * 4 + 4
  · have := slo_r k0 k1 i0 i1 h.1 h.2
    rw [if_pos ⟨h.1, this⟩, if_pos ⟨k0, k1, i0, i1, h⟩]
  · rw [if_neg (by omega), if_neg (fun q => h q.2.2.2.2)]
theorem stl_it {k : Int} (k0 : 0 ≤ k) (k1 : k < 4) : stl (20006 + k + 100) = kln k := by
  have : k = 0 ∨ k = 1 ∨ k = 2 ∨ k = 3 := by omega
  rcases this with rfl | rfl | rfl | rfl <;> rfl
theorem fidx_1 (f : Int → Int) (c : Int) : fidx f c 0 1 = if f 0 = c then 0 else -1 := rfl
theorem fidx_2 (f : Int → Int) (c : Int) : fidx f c 0 2 = if f 0 = c then 0 else if f 1 = c then 1 else -1 := rfl
theorem fidx_3 (f : Int → Int) (c : Int) : fidx f c 0 3 = if f 0 = c then 0 else if f 1 = c then 1 else if f 2 = c then 2 else -1 := rfl
theorem itm_e {k s : Int} (k0 : 0 ≤ k) (k1 : k < 4) (hs : s ≠ 32) : fidx (stv (20006 + k + 100)) s 0 (kln k).toNat = itemF k s ∧ itemF k s < kln k := by
  have : k = 0 ∨ k = 1 ∨ k = 2 ∨ k = 3 := by omega
  unfold itemF
  rw [if_pos ⟨k0, k1⟩, fidx_4]
  rcases this with rfl | rfl | rfl | rfl
  · have e0 : stv 20101 (0 * 4 + 0) = 108 := by decide
    have e1 : stv 20101 (0 * 4 + 1) = 112 := by decide
    have e2 : stv 20101 (0 * 4 + 2) = 32 := by decide
    have e3 : stv 20101 (0 * 4 + 3) = 32 := by decide
    have f0 : stv (20006 + 0 + 100) 0 = 108 := by decide
    have f1 : stv (20006 + 0 + 100) 1 = 112 := by decide
    rw [show (kln 0).toNat = 2 from rfl, show kln 0 = 2 from rfl, fidx_2, e0, e1, e2, e3, f0, f1]
    (repeat' split) <;> omega
  · have e0 : stv 20101 (1 * 4 + 0) = 97 := by decide
    have e1 : stv 20101 (1 * 4 + 1) = 98 := by decide
    have e2 : stv 20101 (1 * 4 + 2) = 99 := by decide
    have e3 : stv 20101 (1 * 4 + 3) = 109 := by decide
    have f0 : stv (20006 + 1 + 100) 0 = 97 := by decide
    have f1 : stv (20006 + 1 + 100) 1 = 98 := by decide
    have f2 : stv (20006 + 1 + 100) 2 = 99 := by decide
    have f3 : stv (20006 + 1 + 100) 3 = 109 := by decide
    rw [show (kln 1).toNat = 4 from rfl, show kln 1 = 4 from rfl, fidx_4, e0, e1, e2, e3, f0, f1, f2, f3]
    (repeat' split) <;> omega
  · have e0 : stv 20101 (2 * 4 + 0) = 104 := by decide
    have e1 : stv 20101 (2 * 4 + 1) = 116 := by decide
    have e2 : stv 20101 (2 * 4 + 2) = 109 := by decide
    have e3 : stv 20101 (2 * 4 + 3) = 32 := by decide
    have f0 : stv (20006 + 2 + 100) 0 = 104 := by decide
    have f1 : stv (20006 + 2 + 100) 1 = 116 := by decide
    have f2 : stv (20006 + 2 + 100) 2 = 109 := by decide
    rw [show (kln 2).toNat = 3 from rfl, show kln 2 = 3 from rfl, fidx_3, e0, e1, e2, e3, f0, f1, f2]
    (repeat' split) <;> omega
  · have e0 : stv 20101 (3 * 4 + 0) = 100 := by decide
    have e1 : stv 20101 (3 * 4 + 1) = 32 := by decide
    have e2 : stv 20101 (3 * 4 + 2) = 32 := by decide
    have e3 : stv 20101 (3 * 4 + 3) = 32 := by decide
    have f0 : stv (20006 + 3 + 100) 0 = 100 := by decide
    rw [show (kln 3).toNat = 1 from rfl, show kln 3 = 1 from rfl, fidx_1, e0, e1, e2, e3, f0]
    (repeat' split) <;> omega
theorem itm_m {k s : Int} (h : 0 ≤ itemF k s) : s ≠ -1 ∧ s ≠ 59 := by
  unfold itemF at h
  by_cases hk : 0 ≤ k ∧ k < 4
  · rw [if_pos hk, fidx_4] at h
    have b := fun i (i0 : 0 ≤ i) (i1 : i < 16) => (by
      have : ∀ n : Nat, n < 16 → stv 20101 (n : Int) ≠ -1 ∧ stv 20101 (n : Int) ≠ 59 := by decide
      obtain ⟨n, rfl⟩ : ∃ n : Nat, i = n := ⟨i.toNat, by omega⟩
      exact this n (by omega) : stv 20101 i ≠ -1 ∧ stv 20101 i ≠ 59)
    have b0 := b (k * 4 + 0) (by omega) (by omega)
    have b1 := b (k * 4 + 1) (by omega) (by omega)
    have b2 := b (k * 4 + 2) (by omega) (by omega)
    have b3 := b (k * 4 + 3) (by omega) (by omega)
    (repeat' split at h) <;> omega
  · rw [if_neg hk] at h; omega
theorem skp_32 {t : Int → Int} {n : Int} (ht : ∀ i, n ≤ i → t i = -1) : ∀ (f : Nat) (p : Int), n ≤ p + f → t (skp t p f) ≠ 32 := by
  intro f
  induction f with
  | zero => intro p h; unfold skp; rw [ht p (by omega)]; decide
  | succ f ih =>
    intro p h; unfold skp
    by_cases c : t p = 32
    · rw [if_pos c]; exact ih (p + 1) (by omega)
    · rw [if_neg c]; exact c
theorem sk_32 {t : Int → Int} {n : Int} (ht : ∀ i, n ≤ i → t i = -1) (p : Int) : t (sk t n p) ≠ 32 := skp_32 ht _ _ (by omega)
/-- how many items are told -/
def bc4 (t : Int) : Int := t % 2 + t / 2 % 2 + t / 4 % 2 + t / 8 % 2
theorem bc4_s0 : ∀ t : Nat, t < 16 → ∀ w : Nat, w < 4 → (t : Int) / (2 ^ w) % 2 ≠ 1 → bc4 ((t : Int) + 2 ^ w) = bc4 t + 1 := by decide +kernel
theorem bc4_s {t w : Int} (t0 : 0 ≤ t) (t1 : t < 16) (w0 : 0 ≤ w) (w1 : w < 4) (h : t / (2 ^ w.toNat) % 2 ≠ 1) : bc4 (t + 2 ^ w.toNat) = bc4 t + 1 := by
  obtain ⟨a, rfl⟩ : ∃ a : Nat, t = a := ⟨t.toNat, by omega⟩
  exact bc4_s0 a (by omega) w.toNat (by omega) h
theorem bc4_b (t : Int) : 0 ≤ bc4 t ∧ bc4 t ≤ 4 := by unfold bc4; omega
theorem nd_0 {t : Int → Int} {s : Int} (h : ¬ dg (t s)) : ndig t s 2 = 0 := by unfold ndig; rw [if_neg h]
theorem nd_1 {t : Int → Int} {s : Int} (h : dg (t s)) (h1 : ¬ dg (t (s + 1))) : ndig t s 2 = 1 ∧ nval t s 0 2 = t s - 48 := by
  unfold ndig nval; rw [if_pos h, if_pos h]; unfold ndig nval; rw [if_neg h1, if_neg h1]; omega
theorem nd_2 {t : Int → Int} {s : Int} (h : dg (t s)) (h1 : dg (t (s + 1))) : ndig t s 2 = 2 ∧ nval t s 0 2 = 10 * (t s - 48) + t (s + 1) - 48 := by
  unfold ndig nval; rw [if_pos h, if_pos h]; unfold ndig nval; rw [if_pos h1, if_pos h1]; unfold ndig nval; omega
/-! the class's PLAYS against the reference's -/
theorem popc_sum {x : Int} (h0 : 0 ≤ x) (h1 : x < 64) : popc x = sumC (bt x) 6 := by
  have key : ∀ y : Nat, y < 64 → popc (y : Int) = sumC (bt (y : Int)) 6 := by decide +kernel
  have h := key x.toNat (by omega)
  rw [show ((x.toNat : Nat) : Int) = x by omega] at h; exact h
theorem sumC_s (f : Int → Int) (n : Nat) : sumC f (n + 1) = sumC f n + f n := rfl
theorem sumC_tail {f : Int → Int} {n : Nat} : ∀ d : Nat, (∀ i : Int, n ≤ i → i < n + d → f i = 0) → sumC f (n + d) = sumC f n := by
  intro d
  induction d with
  | zero => intro _; rfl
  | succ d ih =>
    intro h
    rw [← Nat.add_assoc, sumC_s, ih (fun i a b => h i a (by omega)), h _ (by omega) (by omega)]; omega
theorem shC_sum (s : Int → Int) (o t : Int) : ∀ n : Nat, shC s o t n = sumC (fun c => if bt o c = 0 ∧ s (4 * c + 1) = t then 1 else 0) n := by
  intro n
  induction n with
  | zero => rfl
  | succ n ih => rw [sumC_s, ← ih]; rfl
theorem pop_shC {x : Int} (h0 : 0 ≤ x) (h1 : x < 64) {s : Int → Int} {o t : Int} {n : Nat} (hn : n ≤ 6) (hb : ∀ c : Int, 0 ≤ c → c < 6 → bt x c = if c < n ∧ s (4 * c + 1) = t ∧ bt o c = 0 then 1 else 0) : popc x = shC s o t n := by
  obtain ⟨d, hd⟩ : ∃ d, n + d = 6 := ⟨6 - n, by omega⟩
  have e1 := sumC_tail (f := bt x) (n := n) d (fun i a b => by rw [hb i (by omega) (by omega), if_neg (by omega)])
  rw [hd] at e1
  rw [popc_sum h0 h1, e1, shC_sum]
  refine sumC_cong (fun i i0 i1 => ?_)
  rw [hb i i0 (by omega)]
  by_cases c : bt o i = 0 ∧ s (4 * i + 1) = t
  · rw [if_pos c, if_pos ⟨i1, c.2, c.1⟩]
  · rw [if_neg c, if_neg (fun q => c ⟨q.2.2, q.2.1⟩)]
theorem mOu_bit {m : Mem} {w p : Int} {n : Nat} (hn : m 5000 29 = n) (n6 : n ≤ 6) (k : Nat) {c : Int} (c0 : 0 ≤ c) (c1 : c < 6) : bt (mOu m w p (k + 1)) c = if c < n ∧ (bt (mOu m w p k) c = 1 ∨ m 5005 0 ≤ mMn m w p k (mOu m w p k) c) then 1 else 0 := by
  have := gb_bit (fun c => decide (bt (mOu m w p k) c = 1 ∨ m 5005 0 ≤ mMn m w p k (mOu m w p k) c)) c0 c1 (m 5000 29).toNat (by omega)
  rw [show mOu m w p (k + 1) = gb (fun c => decide (bt (mOu m w p k) c = 1 ∨ m 5005 0 ≤ mMn m w p k (mOu m w p k) c)) (m 5000 29).toNat from rfl, this]
  simp only [decide_eq_true_eq, hn, Int.toNat_natCast]
/-- a group of CHAIRS with the TICKET t, MINUTE by MINUTE -/
theorem grp {g : GM} {S : Int} {m : Mem} {w p t : Int} {n K : Nat} (hn : m 5000 29 = n) (n6 : n ≤ 6) (S0 : 0 ≤ S) (S1 : S < 64) (hS : ∀ c : Int, 0 ≤ c → c < 6 → bt S c = if c < n ∧ m w (4 * c + 1) = t then 1 else 0)
    (hg : ∀ (c N : Int) (k : Nat), 0 ≤ c → c < n → m w (4 * c + 1) = t → 1 ≤ N → N ≤ 6 → k < K → g c N k = if bt (m w 24) t = 1 then 0 else mRk m (m 5007 (4 * p + (k : Int) % 3)) (m w (4 * c)) (m 5011 t) N k (m w 26)) :
    ∀ k : Nat, k ≤ K → (∀ c : Int, 0 ≤ c → c < 6 → bt (stM g (m 5005 0) S k) c = if c < n ∧ m w (4 * c + 1) = t ∧ bt (mOu m w p k) c = 0 then 1 else 0) ∧ ∀ c : Int, 0 ≤ c → c < n → m w (4 * c + 1) = t → flM g (m 5005 0) S k c = mFl m w p k c ∧ oaM g (m 5005 0) S k c = mOa m w p k c := by
  intro k
  induction k with
  | zero =>
    intro _
    refine ⟨fun c c0 c1 => ?_, fun c c0 c1 ht => ⟨rfl, rfl⟩⟩
    show bt S c = if c < n ∧ m w (4 * c + 1) = t ∧ bt 0 c = 0 then 1 else 0
    rw [hS c c0 c1]
    by_cases q : c < n ∧ m w (4 * c + 1) = t
    · rw [if_pos q, if_pos ⟨q.1, q.2, bt_0 c⟩]
    · rw [if_neg q, if_neg (fun z => q ⟨z.1, z.2.1⟩)]
  | succ k ih =>
    intro hk
    obtain ⟨hb, hf⟩ := ih (by omega)
    have sb := stM_b g (m 5005 0) S0 S1 k
    have hp : popc (stM g (m 5005 0) S k) = shC (m w) (mOu m w p k) t n := pop_shC sb.1 sb.2 n6 hb
    have key : ∀ c : Int, 0 ≤ c → c < n → m w (4 * c + 1) = t → bt (mOu m w p k) c = 0 → g c (popc (stM g (m 5005 0) S k)) k = mMn m w p k (mOu m w p k) c := by
      intro c c0 c1 ht hz
      have hc1 : bt (stM g (m 5005 0) S k) c = 1 := by rw [hb c c0 (by omega), if_pos ⟨c1, ht, hz⟩]
      have p1 := popc_bit sb.1 sb.2 c0 (by omega) hc1
      have p6 := (popc_b (stM g (m 5005 0) S k)).2
      rw [hg c _ k c0 c1 ht p1 p6 (by omega), hp]
      unfold mMn
      rw [ht, hn, Int.toNat_natCast]
      by_cases q : bt (m w 24) t = 1
      · rw [if_pos q, if_pos (Or.inr q)]
      · rw [if_neg q, if_neg (fun z => z.elim (fun z => by omega) q)]
    refine ⟨fun c c0 c1 => ?_, fun c c0 c1 ht => ?_⟩
    · have em := mOu_bit (w := w) (p := p) hn n6 k c0 c1
      have hbc := hb c c0 c1
      have b01 := bt_b (mOu m w p k) c
      rw [stM_bit g (m 5005 0) S0 S1 k c0 c1]
      by_cases q1 : c < n ∧ m w (4 * c + 1) = t
      · by_cases q2 : bt (mOu m w p k) c = 0
        · rw [if_pos ⟨q1.1, q1.2, q2⟩] at hbc
          rw [hbc, key c c0 q1.1 q1.2 q2]
          by_cases q3 : m 5005 0 ≤ mMn m w p k (mOu m w p k) c
          · rw [if_pos ⟨q1.1, Or.inr q3⟩] at em
            rw [if_pos ⟨rfl, q3⟩, em, if_neg (fun z => absurd z.2.2 (by decide))]
          · rw [if_neg (fun z => z.2.elim (fun z => by omega) q3)] at em
            rw [if_neg (fun z => q3 z.2), em, if_pos ⟨q1.1, q1.2, rfl⟩]
        · rw [if_neg (fun z => q2 z.2.2)] at hbc
          rw [if_pos ⟨q1.1, Or.inl (by omega)⟩] at em
          rw [hbc, em, if_neg (fun z => absurd z.1 (by decide)), if_neg (fun z => absurd z.2.2 (by decide))]
      · rw [if_neg (fun z => q1 ⟨z.1, z.2.1⟩)] at hbc
        rw [hbc, if_neg (fun z => absurd z.1 (by decide)), if_neg (fun z => q1 ⟨z.1, z.2.1⟩)]
    · obtain ⟨f1, f2⟩ := hf c c0 c1 ht
      have hbc := hb c c0 (by omega)
      have b01 := bt_b (mOu m w p k) c
      show flM g (m 5005 0) S k c + (if bt (stM g (m 5005 0) S k) c = 1 then g c (popc (stM g (m 5005 0) S k)) k else 0) = mFl m w p k c + mMn m w p k (mOu m w p k) c ∧ (if bt (stM g (m 5005 0) S k) c = 1 ∧ m 5005 0 ≤ g c (popc (stM g (m 5005 0) S k)) k then (k : Int) else oaM g (m 5005 0) S k c) = (if bt (mOu m w p k) c = 0 ∧ m 5005 0 ≤ mMn m w p k (mOu m w p k) c then (k : Int) else mOa m w p k c)
      rw [f1, f2]
      by_cases q2 : bt (mOu m w p k) c = 0
      · have e1 : bt (stM g (m 5005 0) S k) c = 1 := by rw [hbc, if_pos ⟨c1, ht, q2⟩]
        rw [e1, q2, key c c0 c1 ht q2, if_pos rfl]
        refine ⟨rfl, ?_⟩
        by_cases q3 : m 5005 0 ≤ mMn m w p k (mOu m w p k) c
        · rw [if_pos ⟨rfl, q3⟩, if_pos ⟨rfl, q3⟩]
        · rw [if_neg (fun z => q3 z.2), if_neg (fun z => q3 z.2)]
      · have e1 : bt (stM g (m 5005 0) S k) c = 0 := by rw [hbc, if_neg (fun z => q2 z.2.2)]
        rw [e1, mMn_out (show bt (mOu m w p k) c = 1 by omega), if_neg (by decide), if_neg (fun z => absurd z.1 (by decide)), if_neg (fun z => q2 z.1)]
        exact ⟨rfl, rfl⟩
/-- the same HOUSE and the same LAW -/
def eqH (σ m : Mem) : Prop := pcnt σ 6 2 = m 5000 29 ∧ pcnt σ 6 1 = m 5000 28 ∧ pcnt σ 6 3 = m 5000 30 ∧ pval σ 6 0 0 0 = m 5005 0 ∧ (∀ p k, 0 ≤ p → p < m 5000 28 → 0 ≤ k → k < 4 → pval σ 6 1 p k = m 5007 (4 * p + k)) ∧ (∀ t, 0 ≤ t → t < m 5000 30 → pval σ 6 3 t 0 = m 5011 t) ∧ ∀ f h d n k e, mdg f h d n k e → 1 ≤ n → rkV σ f h d n k e = mRk m f h d n k e
/-- the same audience, as far as PLAYS ask -/
def eqA (σ m : Mem) (a w : Int) : Prop := (∀ c, 0 ≤ c → c < m 5000 29 → σ (a + 1) c = m w (4 * c) ∧ σ (a + 2) c = m w (4 * c + 1)) ∧ σ a 4 = m w 24 ∧ σ a 6 = m w 26
theorem gmv_mR {σ m : Mem} {a w p : Int} (hH : eqH σ m) (hI : σ a 4 = m w 24) (hE : σ a 6 = m w 26) (hx : mX m w) (p0 : 0 ≤ p) (p1 : p < m 5000 28) {t : Int} (t0 : 0 ≤ t) (t1 : t < m 5000 30) {c N : Int} {k : Nat} (c0 : 0 ≤ c) (c1 : c < m 5000 29) (hc : σ (a + 1) c = m w (4 * c)) (N1 : 1 ≤ N) (N6 : N ≤ 6) (hk : (k : Int) ≤ 9) : gmv σ a t p c N k = if bt (m w 24) t = 1 then 0 else mRk m (m 5007 (4 * p + (k : Int) % 3)) (m w (4 * c)) (m 5011 t) N k (m w 26) := by
  obtain ⟨e2, e1, e3, eL, eP, eD, eR⟩ := hH
  obtain ⟨hw, ⟨hmo, hlw, n29, n30, n28, b7, b11, b5, -⟩, r1, r24, r25, r26, r27⟩ := hx
  have rd := r1 c c0 c1
  have k3 : 0 ≤ (k : Int) % 3 ∧ (k : Int) % 3 < 3 := by omega
  have f9 := b7 (4 * p + (k : Int) % 3) (by omega) (by omega)
  have d9 := b11 t t0 (by omega)
  unfold gmv
  rw [hI, hE, hc]
  by_cases q : bt (m w 24) t = 1
  · rw [if_pos ⟨t0, by omega, q⟩, if_pos q]
  · rw [if_neg (fun z => q z.2.2), if_neg q, eP p _ p0 p1 k3.1 (by omega), eD _ t0 t1]
    exact eR _ _ _ _ _ _ ⟨f9.1, f9.2, rd.1.1, rd.1.2, d9.1, d9.2, by omega, by omega, by omega, by omega, by omega, by omega⟩ N1
theorem mMi_9 {m : Mem} {w p : Int} (hx : mX m w) (p0 : 0 ≤ p) (p1 : p < m 5000 28) : 0 ≤ m 5007 (4 * p + 3) ∧ m 5007 (4 * p + 3) ≤ 9 := by
  obtain ⟨hw, ⟨hmo, hlw, n29, n30, n28, b7, b11, b5, -⟩, -⟩ := hx
  exact b7 (4 * p + 3) (by omega) (by omega)
theorem play_eq {σ m : Mem} {a w p : Int} (hH : eqH σ m) (hA : eqA σ m a w) (hx : mX m w) (p0 : 0 ≤ p) (p1 : p < m 5000 28) {c : Int} (c0 : 0 ≤ c) (c1 : c < m 5000 29) : pFl σ a p c = mFl m w p (mMi m p) c ∧ pOa σ a p c = mOa m w p (mMi m p) c := by
  obtain ⟨e2, e1, e3, eL, eP, eD, eR⟩ := id hH
  obtain ⟨aC, aI, aE⟩ := hA
  have m9 := mMi_9 hx p0 p1
  obtain ⟨hw, ⟨hmo, hlw, n29, n30, n28, b7, b11, b5, -⟩, r1, r24, r25, r26, r27⟩ := id hx
  have hs : σ (a + 2) c = m w (4 * c + 1) := (aC c c0 c1).2
  have rc := r1 c c0 c1
  obtain ⟨n, hn⟩ : ∃ n : Nat, m 5000 29 = n := ⟨(m 5000 29).toNat, by omega⟩
  have eMi : pval σ 6 1 p 3 = m 5007 (4 * p + 3) := eP p 3 p0 p1 (by decide) (by decide)
  have hb := hbits_64 (σ (a + 2)) (σ (a + 2) c) (n := n) (by omega)
  have hS : ∀ d : Int, 0 ≤ d → d < 6 → bt (hbits (σ (a + 2)) (σ (a + 2) c) n) d = if d < n ∧ m w (4 * d + 1) = m w (4 * c + 1) then 1 else 0 := by
    intro d d0 d1
    rw [hbits_bit _ _ d0 d1 (by omega)]
    by_cases q : d < n
    · rw [(aC d d0 (by omega)).2, hs]
    · rw [if_neg (fun z => q z.1), if_neg (fun z => q z.1)]
  have hg : ∀ (d N : Int) (k : Nat), 0 ≤ d → d < n → m w (4 * d + 1) = m w (4 * c + 1) → 1 ≤ N → N ≤ 6 → k < mMi m p → gmv σ a (σ (a + 2) c) p d N k = if bt (m w 24) (m w (4 * c + 1)) = 1 then 0 else mRk m (m 5007 (4 * p + (k : Int) % 3)) (m w (4 * d)) (m 5011 (m w (4 * c + 1))) N k (m w 26) := by
    intro d N k d0 d1 dt N1 N6 hk
    have hk' : (k : Int) < m 5007 (4 * p + 3) := by unfold mMi at hk; omega
    rw [hs]
    exact gmv_mR hH aI aE hx p0 p1 (by omega) (by omega) d0 (by omega) (aC d d0 (by omega)).1 N1 N6 (by omega)
  have G := grp (g := gmv σ a (σ (a + 2) c) p) (S := hbits (σ (a + 2)) (σ (a + 2) c) n) (p := p) (K := mMi m p) hn (by omega) hb.1 hb.2 hS hg (mMi m p) (Nat.le_refl _)
  unfold pFl pOa
  rw [e2, hn, eMi, eL, Int.toNat_natCast]
  exact G.2 c c0 (by omega) rfl
theorem play_sum {σ m : Mem} {a w p : Int} (hH : eqH σ m) (hA : eqA σ m a w) (hx : mX m w) (p0 : 0 ≤ p) (p1 : p < m 5000 28) : sumC (pFl σ a p) (pcnt σ 6 2).toNat = sumC (mFl m w p (mMi m p)) (m 5000 29).toNat := by
  rw [hH.1]
  refine sumC_cong (fun i i0 i1 => (play_eq hH hA hx p0 p1 i0 (by omega)).1)
theorem mOu_gb {m : Mem} {w p : Int} (h0 : 0 ≤ m 5000 29) (h6 : m 5000 29 ≤ 6) (k : Nat) : outB (mOa m w p k) (m 5000 29).toNat = mOu m w p k := by
  obtain ⟨n, hn⟩ : ∃ n : Nat, m 5000 29 = n := ⟨(m 5000 29).toNat, by omega⟩
  have ob := mOu_b m w p h6 k
  have e1 := gb_all0 (mOu m w p k).toNat (by omega)
  rw [show (((mOu m w p k).toNat : Nat) : Int) = mOu m w p k by omega] at e1
  have z : ∀ i : Int, n ≤ i → i < 6 → bt (mOu m w p k) i = 0 := by
    intro i i0 i1
    cases k with
    | zero => exact bt_0 i
    | succ k => rw [mOu_bit hn (by omega) k (by omega) i1, if_neg (by omega)]
  have e2 : ∀ d : Nat, n + d ≤ 6 → gb (fun c => decide (bt (mOu m w p k) c = 1)) (n + d) = gb (fun c => decide (bt (mOu m w p k) c = 1)) n := by
    intro d
    induction d with
    | zero => intro _; rfl
    | succ d ih =>
      intro hd
      show gb (fun c => decide (bt (mOu m w p k) c = 1)) (n + d) + (if decide (bt (mOu m w p k) ((n + d : Nat) : Int) = 1) = true then 2 ^ (n + d) else 0) = _
      rw [ih (by omega), z _ (by omega) (by omega), if_neg (by decide), Int.add_zero]
  obtain ⟨d, hd⟩ : ∃ d, n + d = 6 := ⟨6 - n, by omega⟩
  have e3 := e2 d (by omega)
  rw [hd, e1] at e3
  unfold outB
  rw [hn, Int.toNat_natCast, e3]
  refine gb_cong (fun i i0 i1 => ?_)
  have := mOu_oa (w := w) (p := p) h6 i0 (by omega) k
  exact decide_eq_decide.mpr this.symm
theorem play_out {σ m : Mem} {a w p : Int} (hH : eqH σ m) (hA : eqA σ m a w) (hx : mX m w) (p0 : 0 ≤ p) (p1 : p < m 5000 28) : outB (pOa σ a p) (pcnt σ 6 2).toNat = mOu m w p (mMi m p) := by
  have n29 := hx.2.1.2.2.1
  rw [hH.1, ← mOu_gb n29.1 n29.2]
  unfold outB
  refine gb_cong (fun i i0 i1 => ?_)
  rw [(play_eq hH hA hx p0 p1 i0 (by omega)).2]
/-! TICKETS and MOST: rows tried one by one against sets of CHAIRS, SITTER by SITTER -/
theorem bt_and0 : ∀ x : Nat, x < 64 → ∀ y : Nat, y < 64 → ∀ i : Nat, i < 6 → bt ((x &&& y : Nat) : Int) (i : Int) = bt (x : Int) (i : Int) * bt (y : Int) (i : Int) := by decide +kernel
theorem bt_xor0 : ∀ x : Nat, x < 64 → ∀ y : Nat, y < 64 → ∀ i : Nat, i < 6 → bt ((x ^^^ y : Nat) : Int) (i : Int) = (bt (x : Int) (i : Int) + bt (y : Int) (i : Int)) % 2 := by decide +kernel
theorem bt_ext0 : ∀ x : Nat, x < 64 → ∀ y : Nat, y < 64 → (∀ i : Nat, i < 6 → bt (x : Int) (i : Int) = bt (y : Int) (i : Int)) → x = y := by decide +kernel
theorem bt_ext {x y : Int} (x0 : 0 ≤ x) (x1 : x < 64) (y0 : 0 ≤ y) (y1 : y < 64) (h : ∀ i : Int, 0 ≤ i → i < 6 → bt x i = bt y i) : x = y := by
  have := bt_ext0 x.toNat (by omega) y.toNat (by omega) (fun i hi => by
    rw [show ((x.toNat : Nat) : Int) = x by omega, show ((y.toNat : Nat) : Int) = y by omega]
    exact h i (by omega) (by omega))
  omega
theorem xor_64 {x y : Nat} (hx : x < 64) (hy : y < 64) : x ^^^ y < 64 := Nat.xor_lt_two_pow (n := 6) hx hy
theorem gb_n1 (P : Int → Bool) (n : Nat) : gb P n ≤ 2 ^ n - 1 := by
  have := gb_b P n
  omega
theorem p2_64 {n : Nat} (h : n ≤ 6) : (2 : Int) ^ n - 1 < 64 := (full_64 h).2
/-- a search: what comes out is what was there or one that is found, and none that can be found is better -/
def srch (cd : Int × Int → Int) (ok : (Int → Int) → Prop) (vl : (Int → Int) → Int × Int) (X : (Int → Int) → Prop) (s s' : Int × Int) : Prop := (s' = s ∨ ∃ r, X r ∧ ok r ∧ s' = vl r) ∧ (∀ r, X r → ok r → cd s' ≤ cd (vl r)) ∧ cd s' ≤ cd s
theorem mstI_s (g : Int → Int × Int → Int × Int) (t : Nat) (s : Int × Int) : mstI g (t + 1) s = g t (mstI g t s) := rfl
theorem srch_I {cd : Int × Int → Int} {ok : (Int → Int) → Prop} {vl : (Int → Int) → Int × Int} {X : Nat → (Int → Int) → Prop} {g : Int → Int × Int → Int × Int} {s : Int × Int} : ∀ S : Nat, (∀ t : Nat, t < S → ∀ s0, (s0 = s ∨ ∃ t' : Nat, t' < t ∧ ∃ r, X t' r ∧ ok r ∧ s0 = vl r) → srch cd ok vl (X t) s0 (g t s0)) → srch cd ok vl (fun r => ∃ t : Nat, t < S ∧ X t r) s (mstI g S s) := by
  intro S
  induction S with
  | zero =>
    intro _
    exact ⟨Or.inl rfl, fun r h => by obtain ⟨t, ht, _⟩ := h; omega, Int.le_refl _⟩
  | succ S ih =>
    intro h
    obtain ⟨a1, a2, a3⟩ := ih (fun t ht => h t (by omega))
    have hs : mstI g S s = s ∨ ∃ t' : Nat, t' < S ∧ ∃ r, X t' r ∧ ok r ∧ mstI g S s = vl r := by
      rcases a1 with e | ⟨r, ⟨t', ht', hX⟩, hk, e⟩
      · exact Or.inl e
      · exact Or.inr ⟨t', ht', r, hX, hk, e⟩
    obtain ⟨b1, b2, b3⟩ := h S (by omega) _ hs
    rw [mstI_s]
    refine ⟨?_, ?_, by omega⟩
    · rcases b1 with e | ⟨r, hX, hk, e⟩
      · rw [e]
        rcases hs with e' | ⟨t', ht', r, hX, hk, e'⟩
        · exact Or.inl e'
        · exact Or.inr ⟨r, ⟨t', by omega, hX⟩, hk, e'⟩
      · exact Or.inr ⟨r, ⟨S, by omega, hX⟩, hk, e⟩
    · rintro r ⟨t, ht, hX⟩ hk
      by_cases e : t = S
      · rw [e] at hX; exact b2 r hX hk
      · have := a2 r ⟨t, by omega, hX⟩ hk
        omega
/-- the rows with d TICKETS from CHAIR c on as one likes -/
def xt (S : Nat) : Nat → Int → (Int → Int) → (Int → Int) → Prop
  | 0, _, r, r' => r' = r
  | d + 1, c, r, r' => ∃ t : Nat, t < S ∧ xt S d (c + 1) (upf r (4 * c + 1) t) r'
theorem xt_s (S d : Nat) (c : Int) (r : Int → Int) : xt S (d + 1) c r = fun r' => ∃ t : Nat, t < S ∧ xt S d (c + 1) (upf r (4 * c + 1) t) r' := rfl
theorem xt_pre {S : Nat} : ∀ {d : Nat} {c : Int} {r r' : Int → Int}, xt S d c r r' → ∀ j, (∀ e, c ≤ e → e < c + d → j ≠ 4 * e + 1) → r' j = r j := by
  intro d
  induction d with
  | zero => intro c r r' h j _; rw [show r' = r from h]
  | succ d ih =>
    intro c r r' h j hj
    obtain ⟨t, ht, h⟩ := h
    rw [ih h j (fun e e0 e1 => hj e (by omega) (by omega)), upf_n2 _ (hj c (by omega) (by omega))]
theorem xt_in {S : Nat} : ∀ {d : Nat} {c : Int} {r r' : Int → Int}, xt S d c r r' → ∀ e, c ≤ e → e < c + d → 0 ≤ r' (4 * e + 1) ∧ r' (4 * e + 1) < S := by
  intro d
  induction d with
  | zero => intro c r r' _ e e0 e1; omega
  | succ d ih =>
    intro c r r' h e e0 e1
    obtain ⟨t, ht, h⟩ := h
    by_cases q : e = c
    · rw [xt_pre h (4 * e + 1) (fun e' a b => by omega), q, upf_s2]; omega
    · exact ih h e (by omega) (by omega)
theorem xt_mk {S : Nat} (f : Int → Int) : ∀ (d : Nat) (c : Int) (r : Int → Int), (∀ e, c ≤ e → e < c + d → 0 ≤ f e ∧ f e < S) → ∃ r', xt S d c r r' ∧ ∀ e, c ≤ e → e < c + d → r' (4 * e + 1) = f e := by
  intro d
  induction d with
  | zero => intro c r _; exact ⟨r, rfl, fun e a b => by omega⟩
  | succ d ih =>
    intro c r h
    have hc := h c (by omega) (by omega)
    obtain ⟨r', h1, h2⟩ := ih (c + 1) (upf r (4 * c + 1) (f c)) (fun e a b => h e (by omega) (by omega))
    refine ⟨r', ⟨(f c).toNat, by omega, ?_⟩, fun e a b => ?_⟩
    · rw [show (((f c).toNat : Nat) : Int) = f c by omega]; exact h1
    · by_cases q : e = c
      · rw [xt_pre h1 (4 * e + 1) (fun e' a b => by omega), q, upf_s2]
      · exact h2 e (by omega) (by omega)
theorem rwF_s (r : Int → Int) (c : Nat) : rwF r (c + 1) = 10 * rwF r c + r (4 * c + 1) := rfl
theorem rwF_u (r : Int → Int) (c : Nat) (t : Int) : rwF (upf r (4 * c + 1) t) (c + 1) = 10 * rwF r c + t := by
  rw [rwF_s, upf_s2, rwF_c (r := r) (r' := upf r (4 * c + 1) t) (fun e e0 e1 => upf_n2 _ (by omega))]
theorem xt_row {S : Nat} (hS : S ≤ 10) : ∀ (d c : Nat) (r r' : Int → Int), xt S d c r r' → rwF r c * 10 ^ d ≤ rwF r' (c + d) ∧ rwF r' (c + d) ≤ rwF r c * 10 ^ d + (10 ^ d - 1) := by
  intro d
  induction d with
  | zero => intro c r r' h; rw [show r' = r from h]; simp
  | succ d ih =>
    intro c r r' h
    obtain ⟨t, ht, h⟩ := h
    have := ih (c + 1) (upf r (4 * c + 1) t) r' (by
      rw [show ((c + 1 : Nat) : Int) = (c : Int) + 1 by omega]; exact h)
    rw [rwF_u, show c + 1 + d = c + (d + 1) by omega] at this
    have p0 : (0 : Int) < 10 ^ d := Int.pow_pos (by decide)
    rw [Int.pow_succ]
    generalize (10 : Int) ^ d = P at *
    generalize rwF r c = a at *
    have e1 : (10 * a + (t : Int)) * P = 10 * (a * P) + t * P := by rw [Int.add_mul, Int.mul_assoc]
    have e2 : a * (P * 10) = 10 * (a * P) := by rw [← Int.mul_assoc, Int.mul_comm]
    have e3 : 0 ≤ (t : Int) * P := Int.mul_nonneg (by omega) (by omega)
    have e4 : (t : Int) * P ≤ 9 * P := Int.mul_le_mul_of_nonneg_right (by omega) (by omega)
    rw [e1] at this
    rw [e2]
    omega
theorem xt_lt {S : Nat} (hS : S ≤ 10) {d c t1 t2 : Nat} {r r1 r2 : Int → Int} (h : t1 < t2) (h1 : xt S d ((c : Int) + 1) (upf r (4 * c + 1) t1) r1) (h2 : xt S d ((c : Int) + 1) (upf r (4 * c + 1) t2) r2) : rwF r1 (c + 1 + d) < rwF r2 (c + 1 + d) := by
  have a1 := xt_row hS d (c + 1) _ r1 (by rw [show ((c + 1 : Nat) : Int) = (c : Int) + 1 by omega]; exact h1)
  have a2 := xt_row hS d (c + 1) _ r2 (by rw [show ((c + 1 : Nat) : Int) = (c : Int) + 1 by omega]; exact h2)
  rw [rwF_u] at a1 a2
  have p0 : (0 : Int) < 10 ^ d := Int.pow_pos (by decide)
  generalize (10 : Int) ^ d = P at *
  generalize rwF r c = a at *
  have e1 : (10 * a + (t1 : Int)) * P = 10 * (a * P) + t1 * P := by rw [Int.add_mul, Int.mul_assoc]
  have e2 : (10 * a + (t2 : Int)) * P = 10 * (a * P) + t2 * P := by rw [Int.add_mul, Int.mul_assoc]
  have e4 : ((t1 : Int) + 1) * P ≤ t2 * P := Int.mul_le_mul_of_nonneg_right (by omega) (by omega)
  rw [Int.add_mul] at e4
  omega
theorem xt_6 {S : Nat} (hS : S ≤ 10) {N : Nat} (hN : N ≤ 6) {r r' : Int → Int} (h : xt S N 0 r r') : 0 ≤ rwF r' N ∧ rwF r' N < 1000000 := by
  have := xt_row hS N 0 r r' h
  have p := p10_6 hN
  rw [show rwF r 0 = 0 from rfl, Int.zero_mul, Nat.zero_add] at this
  omega
/-- how many of the first CHAIRS have another TICKET -/
def oc (q r : Int → Int) : Nat → Int
  | 0 => 0
  | k + 1 => oc q r k + if r (4 * k + 1) = q (4 * k + 1) then 0 else 1
theorem oc_b (q r : Int → Int) : ∀ k : Nat, 0 ≤ oc q r k ∧ oc q r k ≤ k := by
  intro k
  induction k with
  | zero => unfold oc; omega
  | succ k ih => unfold oc; split <;> omega
theorem oc_c (q : Int → Int) {r r' : Int → Int} : ∀ {k : Nat}, (∀ e : Int, 0 ≤ e → e < k → r' (4 * e + 1) = r (4 * e + 1)) → oc q r' k = oc q r k := by
  intro k
  induction k with
  | zero => intro _; rfl
  | succ k ih =>
    intro h
    unfold oc
    rw [ih (fun e a b => h e a (by omega)), h k (by omega) (by omega)]
theorem oc_m (q r : Int → Int) {c : Nat} : ∀ d : Nat, oc q r c ≤ oc q r (c + d) := by
  intro d
  induction d with
  | zero => exact Int.le_refl _
  | succ d ih =>
    rw [← Nat.add_assoc]
    show _ ≤ oc q r (c + d) + _
    split <;> omega
def tcd (s : Int × Int) : Int := if s.2 = -1 then 1000000000000000 else 1000000 * s.2 + s.1
theorem tcd_n {s : Int × Int} (h : s.2 ≠ -1) : tcd s = 1000000 * s.2 + s.1 := if_neg h
theorem tkG_ok {m : Mem} {p w : Int} {N S : Nat} (hN : m 5000 29 = N) (N6 : N ≤ 6) (hS : m 5000 30 = S) (S9 : S ≤ 10) : ∀ (d c : Nat) (r : Int → Int) (o : Int) (s : Int × Int), c + d = N → o = oc (m 5015) r c → (∀ r', xt S d c r r' → 0 ≤ rwF r' N ∧ rwF r' N < 1000000) → (s.2 = -1 ∨ (0 ≤ s.2 ∧ 0 ≤ s.1 ∧ ∀ r', xt S d c r r' → s.1 < rwF r' N)) → srch tcd (tkO m p w) (fun r' => (rwF r' N, oc (m 5015) r' N)) (xt S d c r) s (tkG m p w d r c o s) := by
  intro d
  induction d with
  | zero =>
    intro c r o s hc ho hb hs
    have cN : c = N := by omega
    subst cN
    have ob := oc_b (m 5015) r c
    have rb := hb r rfl
    have e2 : tcd (rwF r c, oc (m 5015) r c) = 1000000 * oc (m 5015) r c + rwF r c := tcd_n (show oc (m 5015) r c ≠ -1 by omega)
    rw [tkG_0]
    by_cases z : s.2 ≠ -1 ∧ s.2 ≤ o
    · rw [if_pos z]
      refine ⟨Or.inl rfl, fun r' h _ => ?_, Int.le_refl _⟩
      rw [show r' = r from h, tcd_n z.1, e2]
      rcases hs with h | ⟨h1, h2, h3⟩
      · exact absurd h z.1
      · have := h3 r rfl
        omega
    · rw [if_neg z]
      by_cases k : tkO m p w r
      · rw [tkL_t k, hN, Int.toNat_natCast, ho]
        refine ⟨Or.inr ⟨r, rfl, k, rfl⟩, fun r' h _ => by rw [show r' = r from h]; exact Int.le_refl _, ?_⟩
        rw [e2]
        rcases hs with h | ⟨h1, h2, h3⟩
        · unfold tcd; rw [if_pos h]; omega
        · have : s.2 ≠ -1 := by omega
          rw [tcd_n this]
          have : ¬ s.2 ≤ o := fun q => z ⟨this, q⟩
          omega
      · rw [tkL_f k]
        exact ⟨Or.inl rfl, fun r' h h' => absurd (show tkO m p w r from (show r' = r from h) ▸ h') k, Int.le_refl _⟩
  | succ d ih =>
    intro c r o s hc ho hb hs
    rw [tkG_s]
    by_cases z : s.2 ≠ -1 ∧ s.2 ≤ o
    · rw [if_pos z]
      refine ⟨Or.inl rfl, fun r' h _ => ?_, Int.le_refl _⟩
      have o1 : oc (m 5015) r' c = oc (m 5015) r c := oc_c _ (fun e e0 e1 => xt_pre h _ (fun e' a b => by omega))
      have o2 := oc_m (m 5015) r' (c := c) (d + 1)
      rw [hc] at o2
      have ob := oc_b (m 5015) r' N
      rw [tcd_n z.1, tcd_n (show ((rwF r' N, oc (m 5015) r' N) : Int × Int).2 ≠ -1 by show oc (m 5015) r' N ≠ -1; omega)]
      show 1000000 * s.2 + s.1 ≤ 1000000 * oc (m 5015) r' N + rwF r' N
      rcases hs with h0 | ⟨h1, h2, h3⟩
      · exact absurd h0 z.1
      · have := h3 r' h
        omega
    · rw [if_neg z, hS, Int.toNat_natCast, xt_s]
      refine srch_I (X := fun t => xt S d ((c : Int) + 1) (upf r (4 * c + 1) t)) S (fun t ht s0 h0 => ?_)
      have := ih (c + 1) (upf r (4 * c + 1) t) (tkN1 m c t o) s0 (by omega) ?_ ?_ ?_
      · rw [show ((c + 1 : Nat) : Int) = (c : Int) + 1 by omega] at this; exact this
      · unfold tkN1
        have e : oc (m 5015) (upf r (4 * c + 1) t) (c + 1) = oc (m 5015) (upf r (4 * c + 1) t) c + if upf r (4 * c + 1) t (4 * c + 1) = m 5015 (4 * c + 1) then 0 else 1 := rfl
        rw [e, upf_s2, oc_c (m 5015) (r := r) (fun e e0 e1 => upf_n2 _ (by omega)), ← ho]
        split <;> omega
      · intro r' h'
        exact hb r' ⟨t, ht, by rw [show ((c + 1 : Nat) : Int) = (c : Int) + 1 by omega] at h'; exact h'⟩
      · rw [show ((c + 1 : Nat) : Int) = (c : Int) + 1 by omega]
        rcases h0 with e | ⟨t', ht', r1, hX, hk, e⟩
        · rw [e]
          rcases hs with h | ⟨h1, h2, h3⟩
          · exact Or.inl h
          · exact Or.inr ⟨h1, h2, fun r' h' => h3 r' ⟨t, ht, h'⟩⟩
        · rw [e]
          have ob := oc_b (m 5015) r1 N
          have rb := hb r1 ⟨t', by omega, hX⟩
          refine Or.inr ⟨ob.1, rb.1, fun r' h' => ?_⟩
          have := xt_lt S9 ht' hX h'
          rw [show c + 1 + d = N by omega] at this
          exact this
/-- MOST: the greater is better, then the first -/
def ycd (s : Int × Int) : Int := -1000000 * s.2 + s.1
theorem mstF_s (m : Mem) (p : Int) (d : Nat) (r : Int → Int) (c : Int) (s : Int × Int) : mstF m p (d + 1) r c s = mstI (fun t s => mstF m p d (upf r (4 * c + 1) t) (c + 1) s) (m 5000 30).toNat s := rfl
theorem mstF_ok {m : Mem} {p : Int} {N S : Nat} (hN : m 5000 29 = N) (hS : m 5000 30 = S) (S9 : S ≤ 10) : ∀ (d c : Nat) (r : Int → Int) (s : Int × Int), c + d = N → (∀ r', xt S d c r r' → 0 ≤ rwF r' N ∧ rwF r' N < 1000000) → -1 ≤ s.1 → (∀ r', xt S d c r r' → s.1 < rwF r' N) → srch ycd (fun _ => True) (fun r' => (rwF r' N, rMv m p r')) (xt S d c r) s (mstF m p d r c s) := by
  intro d
  induction d with
  | zero =>
    intro c r s hc hb h1 hs
    have rb := hb r rfl
    have h3 := hs r rfl
    show srch _ _ _ _ s (mstL m p r s)
    unfold mstL
    by_cases z : rMv m p r ≤ s.2
    · rw [if_pos z]
      refine ⟨Or.inl rfl, fun r' h _ => ?_, Int.le_refl _⟩
      rw [show r' = r from h]
      unfold ycd
      show -1000000 * s.2 + s.1 ≤ -1000000 * rMv m p r + rwF r N
      omega
    · rw [if_neg z, hN, Int.toNat_natCast]
      refine ⟨Or.inr ⟨r, rfl, trivial, rfl⟩, fun r' h _ => by rw [show r' = r from h]; exact Int.le_refl _, ?_⟩
      unfold ycd
      show -1000000 * rMv m p r + rwF r N ≤ -1000000 * s.2 + s.1
      omega
  | succ d ih =>
    intro c r s hc hb h1 hs
    rw [mstF_s, hS, Int.toNat_natCast, xt_s]
    refine srch_I (X := fun t => xt S d ((c : Int) + 1) (upf r (4 * c + 1) t)) S (fun t ht s0 h0 => ?_)
    have := ih (c + 1) (upf r (4 * c + 1) t) s0 (by omega) ?_ ?_ ?_
    · rw [show ((c + 1 : Nat) : Int) = (c : Int) + 1 by omega] at this; exact this
    · intro r' h'
      exact hb r' ⟨t, ht, by rw [show ((c + 1 : Nat) : Int) = (c : Int) + 1 by omega] at h'; exact h'⟩
    · rcases h0 with e | ⟨t', ht', r1, hX, hk, e⟩
      · rw [e]; exact h1
      · rw [e]
        have rb := hb r1 ⟨t', by omega, hX⟩
        show -1 ≤ rwF r1 N
        omega
    · rw [show ((c + 1 : Nat) : Int) = (c : Int) + 1 by omega]
      rcases h0 with e | ⟨t', ht', r1, hX, hk, e⟩
      · rw [e]; exact fun r' h' => hs r' ⟨t, ht, h'⟩
      · rw [e]
        intro r' h'
        have := xt_lt S9 ht' hX h'
        rw [show c + 1 + d = N by omega] at this
        exact this
/-! sets of CHAIRS, SITTER by SITTER: no row is cheaper than the best, and the best is some row's -/
theorem sumC_add (f g : Int → Int) : ∀ n : Nat, sumC (fun i => f i + g i) n = sumC f n + sumC g n := by
  intro n
  induction n with
  | zero => rfl
  | succ n ih => rw [sumC_s, sumC_s, sumC_s, ih]; omega
theorem sumC_mul (a : Int) (f : Int → Int) : ∀ n : Nat, sumC (fun i => a * f i) n = a * sumC f n := by
  intro n
  induction n with
  | zero => show (0 : Int) = a * 0; rw [Int.mul_zero]
  | succ n ih => rw [sumC_s, sumC_s, ih, Int.mul_add]
theorem sumC_0 {f : Int → Int} : ∀ n : Nat, (∀ i : Int, 0 ≤ i → i < n → f i = 0) → sumC f n = 0 := by
  intro n
  induction n with
  | zero => intro _; rfl
  | succ n ih => intro h; rw [sumC_s, ih (fun i a b => h i a (by omega)), h n (by omega) (by omega)]; rfl
theorem sumC_swap (X : Int → Int → Int) (K : Nat) : ∀ n : Nat, sumC (fun t => sumC (fun c => X t c) n) K = sumC (fun c => sumC (fun t => X t c) K) n := by
  intro n
  induction n with
  | zero => exact sumC_0 K (fun _ _ _ => rfl)
  | succ n ih =>
    rw [sumC_s, ← ih, ← sumC_add]
    exact sumC_cong (fun i _ _ => rfl)
theorem sumC_pick (h : Int → Int) {a : Int} (a0 : 0 ≤ a) : ∀ K : Nat, sumC (fun t => if a = t then h t else 0) K = if a < K then h a else 0 := by
  intro K
  induction K with
  | zero => rw [if_neg (by omega)]; rfl
  | succ K ih =>
    rw [sumC_s, ih]
    by_cases e : a = K
    · rw [if_neg (by omega), if_pos e, if_pos (by omega), e]; omega
    · by_cases l : a < K
      · rw [if_pos l, if_neg e, if_pos (by omega)]; omega
      · rw [if_neg l, if_neg e, if_neg (by omega)]; rfl
theorem sumC_ge {f : Int → Int} {M : Int} {a : Int} (M0 : 0 ≤ M) (a0 : 0 ≤ a) (ha : M ≤ f a) : ∀ K : Nat, (∀ i : Int, 0 ≤ i → i < K → 0 ≤ f i) → 0 ≤ sumC f K ∧ (a < K → M ≤ sumC f K) := by
  intro K
  induction K with
  | zero => intro _; exact ⟨Int.le_refl _, fun h => by omega⟩
  | succ K ih =>
    intro h
    obtain ⟨h1, h2⟩ := ih (fun i x y => h i x (by omega))
    have h3 := h K (by omega) (by omega)
    rw [sumC_s]
    refine ⟨by omega, fun hl => ?_⟩
    by_cases e : a = K
    · rw [e] at ha; omega
    · have := h2 (by omega); omega
theorem hbits_c {f g : Int → Int} {t : Int} {n : Nat} (h : ∀ c : Int, 0 ≤ c → c < n → (f c = t ↔ g c = t)) : hbits f t n = hbits g t n := by
  rw [hbits_gb, hbits_gb]
  exact gb_cong (fun i a b => decide_eq_decide.mpr (h i a b))
theorem dp_lb {σ : Mem} {p w : Int} {n : Nat} (n6 : n ≤ 6) {f : Int → Int} : ∀ (k : Nat) (B : Int → Int), dpC σ p w (2 ^ n - 1) k B → (∀ c : Int, 0 ≤ c → c < n → 0 ≤ f c) → B (gb (fun c => decide (f c < (k : Int))) n) ≤ sumC (fun t => if hbits f t n = 0 then 0 else tkF σ p w t (hbits f t n)) k := by
  intro k
  induction k with
  | zero =>
    intro B hB hf
    have e : gb (fun c => decide (f c < ((0 : Nat) : Int))) n = 0 := by
      have g6 := gb_64 (fun c => decide (f c < ((0 : Nat) : Int))) n6
      refine bt_ext g6.1 g6.2 (by decide) (by decide) (fun i i0 i1 => ?_)
      rw [gb_bit _ i0 i1 n n6, bt_0, if_neg (fun q => by
        have := of_decide_eq_true q.2
        have := hf i i0 q.1
        omega)]
    rw [e, hB 0 (by decide) (by decide), if_pos rfl]
    exact Int.le_refl _
  | succ k ih =>
    rintro B ⟨B1, T, h1, h2, h3, h4⟩ hf
    have i1 := ih B1 h1 hf
    have hp := p2_64 n6
    have g1 := gb_64 (fun c => decide (f c < ((k + 1 : Nat) : Int))) n6
    have g1n := gb_n1 (fun c => decide (f c < ((k + 1 : Nat) : Int))) n
    have g2 := gb_64 (fun c => decide (f c < (k : Int))) n6
    have g3 := hbits_64 f k n6
    have b1 := fun (i : Int) (i0 : 0 ≤ i) (i1 : i < 6) => gb_bit (fun c => decide (f c < ((k + 1 : Nat) : Int))) i0 i1 n n6
    have b2 := fun (i : Int) (i0 : 0 ≤ i) (i1 : i < 6) => gb_bit (fun c => decide (f c < (k : Int))) i0 i1 n n6
    have b3 := fun (i : Int) (i0 : 0 ≤ i) (i1 : i < 6) => hbits_bit f k i0 i1 n6
    have g3n : hbits f k n ≤ 2 ^ n - 1 := by have := hbits_b f k n; omega
    simp only [decide_eq_true_eq] at b1 b2
    generalize gb (fun c => decide (f c < ((k + 1 : Nat) : Int))) n = x at *
    generalize gb (fun c => decide (f c < (k : Int))) n = y at *
    rw [sumC_s]
    generalize hbits f k n = q at *
    by_cases z : q = 0
    · rw [if_pos z]
      have e : x = y := bt_ext g1.1 g1.2 g2.1 g2.2 (fun i i0 i1 => by
        rw [b1 i i0 i1, b2 i i0 i1]
        have := b3 i i0 i1
        rw [z, bt_0] at this
        by_cases c : i < n ∧ f i < k
        · rw [if_pos c, if_pos ⟨c.1, by omega⟩]
        · rw [if_neg c, if_neg (fun d => by
            by_cases e : f i = k
            · rw [if_pos ⟨d.1, e⟩] at this; omega
            · exact c ⟨d.1, by omega⟩)])
      have : B x ≤ B1 x := by
        by_cases x0 : x = 0
        · rw [h4 x (Or.inl (by omega))]; exact Int.le_refl _
        · have := (h3 x.toNat (by omega) (by omega)).1
          rw [show ((x.toNat : Nat) : Int) = x by omega] at this; exact this
      rw [e] at this ⊢; omega
    · rw [if_neg z]
      have hq : q.toNat &&& x.toNat = q.toNat := by
        refine bt_ext0 _ (by have := Nat.and_le_left (n := q.toNat) (m := x.toNat); omega) _ (by omega) (fun i hi => ?_)
        rw [bt_and0 _ (by omega) _ (by omega) i hi, show ((q.toNat : Nat) : Int) = q by omega, show ((x.toNat : Nat) : Int) = x by omega, b3 i (by omega) (by omega), b1 i (by omega) (by omega)]
        by_cases c : (i : Int) < n ∧ f i = k
        · rw [if_pos c, if_pos ⟨c.1, by omega⟩]; rfl
        · rw [if_neg c, Int.zero_mul]
      have hx : x.toNat ^^^ q.toNat = y.toNat := by
        refine bt_ext0 _ (xor_64 (by omega) (by omega)) _ (by omega) (fun i hi => ?_)
        rw [bt_xor0 _ (by omega) _ (by omega) i hi, show ((q.toNat : Nat) : Int) = q by omega, show ((x.toNat : Nat) : Int) = x by omega, show ((y.toNat : Nat) : Int) = y by omega, b3 i (by omega) (by omega), b1 i (by omega) (by omega), b2 i (by omega) (by omega)]
        by_cases cn : (i : Int) < n
        · by_cases c : f i = k
          · rw [if_pos ⟨cn, by omega⟩, if_pos ⟨cn, c⟩, if_neg (by omega)]; rfl
          · by_cases c2 : f i < k
            · rw [if_pos ⟨cn, by omega⟩, if_neg (fun d => c d.2), if_pos ⟨cn, c2⟩]; rfl
            · rw [if_neg (by omega), if_neg (fun d => c d.2), if_neg (by omega)]; rfl
        · rw [if_neg (fun d => cn d.1), if_neg (fun d => cn d.1), if_neg (fun d => cn d.1)]; rfl
      have x1 : 1 ≤ x.toNat := by
        have := Nat.and_le_right (n := q.toNat) (m := x.toNat)
        omega
      have h5 := (h3 x.toNat x1 (by omega)).2.1 q.toNat (by omega) hq
      rw [hx, h2 q.toNat (by omega) (by omega), show ((q.toNat : Nat) : Int) = q by omega, show ((x.toNat : Nat) : Int) = x by omega, show ((y.toNat : Nat) : Int) = y by omega] at h5
      omega
theorem dp_att {σ : Mem} {p w : Int} {n : Nat} (n6 : n ≤ 6) {lo : Int} (lo0 : 0 ≤ lo) {K : Nat} (K9 : K ≤ 9) (hlo : ∀ t S : Nat, t < K → 1 ≤ S → (S : Int) ≤ 2 ^ n - 1 → -lo ≤ tkF σ p w t S) : ∀ (k : Nat) (B : Int → Int), k ≤ K → dpC σ p w (2 ^ n - 1) k B → ∀ S : Nat, (S : Int) ≤ 2 ^ n - 1 → 1152921504606846976 - lo * k ≤ B S ∨ ∃ f : Int → Int, (∀ c : Int, 0 ≤ c → c < n → (0 ≤ f c ∧ f c < k ∧ bt S c = 1) ∨ (f c = 99 ∧ bt S c = 0)) ∧ B S = sumC (fun t => if hbits f t n = 0 then 0 else tkF σ p w t (hbits f t n)) k := by
  have hp := p2_64 n6
  intro k
  induction k with
  | zero =>
    intro B _ hB S hS
    have hb := hB S (by omega) (by omega)
    by_cases z : (S : Int) = 0
    · rw [if_pos z] at hb
      exact Or.inr ⟨fun _ => 99, fun c _ _ => Or.inr ⟨rfl, by rw [z]; exact bt_0 c⟩, by rw [hb]; rfl⟩
    · rw [if_neg z] at hb
      left; rw [hb]; simp
  | succ k ih =>
    rintro B hk ⟨B1, T, h1, h2, h3, h4⟩ S hS
    have ek : lo * ((k + 1 : Nat) : Int) = lo * k + lo := by rw [show ((k + 1 : Nat) : Int) = (k : Int) + 1 by omega, Int.mul_add, Int.mul_one]
    have same : B S = B1 S → 1152921504606846976 - lo * ((k + 1 : Nat) : Int) ≤ B S ∨ ∃ f : Int → Int, (∀ c : Int, 0 ≤ c → c < n → (0 ≤ f c ∧ f c < ((k + 1 : Nat) : Int) ∧ bt S c = 1) ∨ (f c = 99 ∧ bt S c = 0)) ∧ B S = sumC (fun t => if hbits f t n = 0 then 0 else tkF σ p w t (hbits f t n)) (k + 1) := by
      intro e
      rcases ih B1 (by omega) h1 S hS with h | ⟨f, hf, hv⟩
      · left; omega
      · refine Or.inr ⟨f, fun c c0 c1 => ?_, ?_⟩
        · rcases hf c c0 c1 with h | h
          · exact Or.inl ⟨h.1, by omega, h.2.2⟩
          · exact Or.inr h
        · have z : hbits f k n = 0 := by
            have g3 := hbits_64 f k n6
            refine bt_ext g3.1 g3.2 (by decide) (by decide) (fun i i0 i1 => ?_)
            rw [hbits_bit f k i0 i1 n6, bt_0, if_neg (fun q => by
              rcases hf i i0 q.1 with h | h <;> omega)]
          rw [sumC_s, z, if_pos rfl, e, hv]; omega
    by_cases s0 : S = 0
    · exact same (h4 S (Or.inl (by omega)))
    · rcases (h3 S (by omega) hS).2.2 with e | ⟨q, q0, hq, e⟩
      · exact same e
      · have qS : q ≤ S := by
          have := Nat.and_le_right (n := q) (m := S)
          omega
        have x64 : S ^^^ q < 2 ^ n := Nat.xor_lt_two_pow (by
          have : ((S : Nat) : Int) < ((2 ^ n : Nat) : Int) := by rw [Int.natCast_pow]; show (S : Int) < 2 ^ n; omega
          omega) (by
          have : ((q : Nat) : Int) < ((2 ^ n : Nat) : Int) := by rw [Int.natCast_pow]; show (q : Int) < 2 ^ n; omega
          omega)
        have xi : ((S ^^^ q : Nat) : Int) ≤ 2 ^ n - 1 := by
          have : ((S ^^^ q : Nat) : Int) < ((2 ^ n : Nat) : Int) := by omega
          rw [Int.natCast_pow] at this
          have : ((S ^^^ q : Nat) : Int) < 2 ^ n := this
          omega
        have hT := h2 q (by omega) (by omega)
        have hl := hlo k q (by omega) (by omega) (by omega)
        have bq : ∀ c : Int, 0 ≤ c → c < 6 → bt q c = 1 → bt S c = 1 := by
          intro c c0 c1 hc
          have := bt_and0 q (by omega) S (by omega) c.toNat (by omega)
          rw [hq, show ((c.toNat : Nat) : Int) = c by omega, hc] at this
          omega
        have bx : ∀ c : Int, 0 ≤ c → c < 6 → bt ((S ^^^ q : Nat) : Int) c = (bt S c + bt q c) % 2 := by
          intro c c0 c1
          have := bt_xor0 S (by omega) q (by omega) c.toNat (by omega)
          rw [show ((c.toNat : Nat) : Int) = c by omega] at this
          exact this
        rcases ih B1 (by omega) h1 (S ^^^ q) xi with h | ⟨f, hf, hv⟩
        · left; rw [e, hT]; omega
        · right
          have key : ∀ c : Int, 0 ≤ c → c < n → bt q c = 1 → f c = 99 := by
            intro c c0 c1 hc
            rcases hf c c0 c1 with h | h
            · have := bx c c0 (by omega)
              rw [hc, bq c c0 (by omega) hc] at this
              omega
            · exact h.1
          refine ⟨fun c => if bt q c = 1 then (k : Int) else f c, fun c c0 c1 => ?_, ?_⟩
          · by_cases hc : bt q c = 1
            · simp only [if_pos hc]
              exact Or.inl ⟨by omega, by omega, bq c c0 (by omega) hc⟩
            · simp only [if_neg hc]
              have b0 := bt_b q c
              have b1 := bt_b S c
              have := bx c c0 (by omega)
              rcases hf c c0 c1 with h | h
              · exact Or.inl ⟨h.1, by omega, by omega⟩
              · exact Or.inr ⟨h.1, by omega⟩
          · have eq : hbits (fun c => if bt q c = 1 then (k : Int) else f c) k n = q := by
              have g3 := hbits_64 (fun c => if bt q c = 1 then (k : Int) else f c) k n6
              refine bt_ext g3.1 g3.2 (by omega) (by omega) (fun i i0 i1 => ?_)
              rw [hbits_bit _ _ i0 i1 n6]
              have b0 := bt_b q i
              by_cases hc : bt q i = 1
              · have hin : i < n := by
                  have l := bt_lt n6 (show (0 : Int) ≤ q by omega) (show (q : Int) < 2 ^ n by omega) i0 i1 hc
                  exact l
                rw [if_pos ⟨hin, if_pos hc⟩, hc]
              · rw [if_neg (fun d => by
                  obtain ⟨d1, d2⟩ := d
                  rw [if_neg hc] at d2
                  rcases hf i i0 d1 with h | h <;> omega)]
                omega
            rw [sumC_s, eq, if_neg (by omega), e, hT, hv]
            congr 1
            refine sumC_cong (fun t t0 t1 => ?_)
            have et : hbits (fun c => if bt q c = 1 then (k : Int) else f c) t n = hbits f t n := by
              refine hbits_c (fun c c0 c1 => ?_)
              by_cases hc : bt q c = 1
              · have := key c c0 c1 hc
                constructor
                · intro d; simp only [if_pos hc] at d; omega
                · intro d; omega
              · simp only [if_neg hc]
            rw [et]
/-! what a row of TICKETS costs, by sets and by CHAIRS; TICKETS and MOST are the same -/
theorem sOv_sum (g : Int → Int) (S : Int) : ∀ k : Nat, sOv g S k = sumC (fun c => if bt S c = 1 then g c else 0) k := by
  intro k
  induction k with
  | zero => rfl
  | succ k ih => rw [sumC_s, ← ih]; rfl
theorem csF_sum (s : Int → Int) (t S : Int) : ∀ k : Nat, csF s t S k = sumC (fun c => if bt S c = 1 then (if s c = t then 0 else 1000000) else 0) k := by
  intro k
  induction k with
  | zero => rfl
  | succ k ih => rw [sumC_s, ← ih]; rfl
theorem G_sum (h f : Int → Int) (t : Int) {n : Nat} (n6 : n ≤ 6) : sumC (fun c => if bt (hbits f t n) c = 1 then h c else 0) 6 = sumC (fun c => if f c = t then h c else 0) n := by
  obtain ⟨d, hd⟩ : ∃ d, n + d = 6 := ⟨6 - n, by omega⟩
  have e := sumC_tail (f := fun c => if bt (hbits f t n) c = 1 then h c else 0) (n := n) d (fun i a b => by
    show (if bt (hbits f t n) i = 1 then h i else 0) = 0
    have hb := hbits_bit f t (i := i) (by omega) (by omega) n6
    rw [if_neg (fun q => by omega)] at hb
    rw [hb, if_neg (by decide)])
  rw [hd] at e
  rw [e]
  refine sumC_cong (fun i i0 i1 => ?_)
  have hb := hbits_bit f t i0 (show i < 6 by omega) n6
  by_cases q : f i = t
  · rw [if_pos ⟨i1, q⟩] at hb
    rw [hb, if_pos rfl, if_pos q]
  · rw [if_neg (fun z => q z.2)] at hb
    rw [hb, if_neg (by decide), if_neg q]
theorem rpF_s (t S : Int) (i : Nat) : rpF t S (i + 1) = 10 * rpF t S i + if bt S i = 1 then t else 0 := rfl
theorem rpF_z (t : Int) : ∀ i : Nat, rpF t 0 i = 0 := by
  intro i
  induction i with
  | zero => rfl
  | succ i ih => rw [rpF_s, ih, bt_0, if_neg (by decide)]; rfl
theorem rp_sum {r : Int → Int} {n K : Nat} (n6 : n ≤ 6) (hf : ∀ c : Int, 0 ≤ c → c < n → 0 ≤ r (4 * c + 1) ∧ r (4 * c + 1) < K) : ∀ i : Nat, i ≤ n → sumC (fun t => rpF t (hbits (fun c => r (4 * c + 1)) t n) i) K = rwF r i := by
  intro i
  induction i with
  | zero => intro _; exact sumC_0 K (fun _ _ _ => rfl)
  | succ i ih =>
    intro hi
    have hc := hf i (by omega) (by omega)
    have e : sumC (fun t => rpF t (hbits (fun c => r (4 * c + 1)) t n) (i + 1)) K = sumC (fun t => 10 * rpF t (hbits (fun c => r (4 * c + 1)) t n) i + if r (4 * (i : Int) + 1) = t then t else 0) K := by
      refine sumC_cong (fun t _ _ => ?_)
      have hb := hbits_bit (fun c => r (4 * c + 1)) t (i := (i : Int)) (by omega) (by omega) n6
      rw [rpF_s]
      by_cases q : r (4 * (i : Int) + 1) = t
      · rw [if_pos ⟨by omega, q⟩] at hb
        rw [hb, if_pos rfl, if_pos q]
      · rw [if_neg (fun z => q z.2)] at hb
        rw [hb, if_neg (by decide), if_neg q]
    rw [e, sumC_add (fun t => 10 * rpF t (hbits (fun c => r (4 * c + 1)) t n) i) (fun t => if r (4 * (i : Int) + 1) = t then t else 0), sumC_mul, ih (by omega), sumC_pick (fun t => t) hc.1, if_pos hc.2, rwF_s]
theorem G_no {f : Int → Int} {t : Int} {n : Nat} (n6 : n ≤ 6) (z : hbits f t n = 0) {c : Int} (c0 : 0 ≤ c) (c1 : c < n) : f c ≠ t := by
  intro e
  have := hbits_bit f t c0 (by omega) n6
  rw [z, bt_0, if_pos ⟨c1, e⟩] at this
  omega
/-- a sum over groups, CHAIR by CHAIR -/
theorem tot_G {f : Int → Int} {n K : Nat} {V : Int → Int → Int} (hf : ∀ c : Int, 0 ≤ c → c < n → 0 ≤ f c ∧ f c < K) : sumC (fun t => sumC (fun c => if f c = t then V t c else 0) n) K = sumC (fun c => V (f c) c) n := by
  rw [sumC_swap (fun t c => if f c = t then V t c else 0)]
  refine sumC_cong (fun c c0 c1 => ?_)
  have h := hf c c0 c1
  rw [sumC_pick (fun t => V t c) h.1, if_pos h.2]
theorem tot_most {σ : Mem} {p : Int} {r : Int → Int} {n K : Nat} (n6 : n ≤ 6) (hn : (pcnt σ 6 2).toNat = n) (hf : ∀ c : Int, 0 ≤ c → c < n → 0 ≤ r (4 * c + 1) ∧ r (4 * c + 1) < K) : sumC (fun t => if hbits (fun c => r (4 * c + 1)) t n = 0 then 0 else tkF σ p (-1) t (hbits (fun c => r (4 * c + 1)) t n)) K = -1000000 * sumC (fun c => sFl σ p (r (4 * c + 1)) (hbits (fun c => r (4 * c + 1)) (r (4 * c + 1)) n) c) n + rwF r n := by
  have e : sumC (fun t => if hbits (fun c => r (4 * c + 1)) t n = 0 then 0 else tkF σ p (-1) t (hbits (fun c => r (4 * c + 1)) t n)) K = sumC (fun t => -1000000 * sumC (fun c => if r (4 * c + 1) = t then sFl σ p t (hbits (fun c => r (4 * c + 1)) t n) c else 0) n + rpF t (hbits (fun c => r (4 * c + 1)) t n) n) K := by
    refine sumC_cong (fun t _ _ => ?_)
    by_cases z : hbits (fun c => r (4 * c + 1)) t n = 0
    · rw [if_pos z, sumC_0 n (fun c c0 c1 => if_neg (G_no n6 z c0 c1)), z, rpF_z]; rfl
    · rw [if_neg z]
      unfold tkF
      rw [if_pos rfl, hn, sOv_sum, G_sum (sFl σ p t (hbits (fun c => r (4 * c + 1)) t n)) (fun c => r (4 * c + 1)) t n6]
  rw [e, sumC_add (fun t => -1000000 * sumC (fun c => if r (4 * c + 1) = t then sFl σ p t (hbits (fun c => r (4 * c + 1)) t n) c else 0) n) (fun t => rpF t (hbits (fun c => r (4 * c + 1)) t n) n), sumC_mul, rp_sum n6 hf n (Nat.le_refl _), tot_G (f := fun c => r (4 * c + 1)) (V := fun t c => sFl σ p t (hbits (fun c => r (4 * c + 1)) t n) c) hf]
theorem oc_sum (q r : Int → Int) : ∀ n : Nat, oc q r n = sumC (fun c => if r (4 * c + 1) = q (4 * c + 1) then 0 else 1) n := by
  intro n
  induction n with
  | zero => rfl
  | succ n ih => rw [sumC_s, ← ih]; rfl
theorem tot_tick {σ : Mem} {p w : Int} {q r : Int → Int} {n K : Nat} (hw : w ≠ -1) (n6 : n ≤ 6) (hn : (pcnt σ 6 2).toNat = n) (hf : ∀ c : Int, 0 ≤ c → c < n → 0 ≤ r (4 * c + 1) ∧ r (4 * c + 1) < K) (hq : ∀ c : Int, 0 ≤ c → c < n → σ 18 c = q (4 * c + 1))
    (hok : ∀ c : Int, 0 ≤ c → c < n → w ≤ sFl σ p (r (4 * c + 1)) (hbits (fun c => r (4 * c + 1)) (r (4 * c + 1)) n) c ∧ sOa σ p (r (4 * c + 1)) (hbits (fun c => r (4 * c + 1)) (r (4 * c + 1)) n) c = -1) :
    sumC (fun t => if hbits (fun c => r (4 * c + 1)) t n = 0 then 0 else tkF σ p w t (hbits (fun c => r (4 * c + 1)) t n)) K = 1000000 * oc q r n + rwF r n := by
  have e : sumC (fun t => if hbits (fun c => r (4 * c + 1)) t n = 0 then 0 else tkF σ p w t (hbits (fun c => r (4 * c + 1)) t n)) K = sumC (fun t => sumC (fun c => if r (4 * c + 1) = t then (if σ 18 c = t then 0 else 1000000) else 0) n + rpF t (hbits (fun c => r (4 * c + 1)) t n) n) K := by
    refine sumC_cong (fun t _ _ => ?_)
    by_cases z : hbits (fun c => r (4 * c + 1)) t n = 0
    · rw [if_pos z, sumC_0 n (fun c c0 c1 => if_neg (G_no n6 z c0 c1)), z, rpF_z]; rfl
    · rw [if_neg z]
      have nb : ¬ badP (sFl σ p t (hbits (fun c => r (4 * c + 1)) t n)) (sOa σ p t (hbits (fun c => r (4 * c + 1)) t n)) w (hbits (fun c => r (4 * c + 1)) t n) 6 := by
        rintro ⟨i, i0, i1, hb, h⟩
        rw [hbits_bit _ _ i0 i1 n6] at hb
        by_cases y : i < n ∧ r (4 * i + 1) = t
        · have := hok i i0 y.1
          rw [y.2] at this
          rcases h with h | h
          · omega
          · exact h this.2
        · rw [if_neg y] at hb; omega
      unfold tkF
      rw [if_neg hw, chF_f nb, hn, csF_sum, G_sum (fun c => if σ 18 c = t then 0 else 1000000) (fun c => r (4 * c + 1)) t n6]
  rw [e, sumC_add (fun t => sumC (fun c => if r (4 * c + 1) = t then (if σ 18 c = t then 0 else 1000000) else 0) n) (fun t => rpF t (hbits (fun c => r (4 * c + 1)) t n) n), rp_sum n6 hf n (Nat.le_refl _), tot_G (f := fun c => r (4 * c + 1)) (V := fun t c => if σ 18 c = t then 0 else 1000000) hf, oc_sum, ← sumC_mul]
  congr 1
  refine sumC_cong (fun c c0 c1 => ?_)
  rw [hq c c0 c1]
  by_cases y : q (4 * c + 1) = r (4 * c + 1)
  · rw [if_pos y, if_pos y.symm]; rfl
  · rw [if_neg y, if_neg (fun z => y z.symm)]; rfl
theorem tot_bad {σ : Mem} {p w : Int} {r : Int → Int} {n K : Nat} (hB : planB σ 6) (h9 : pval σ 6 1 p 3 ≤ 9) (hw : w ≠ -1) (n6 : n ≤ 6) (hn : (pcnt σ 6 2).toNat = n) (K6 : K ≤ 6) (hf : ∀ c : Int, 0 ≤ c → c < n → 0 ≤ r (4 * c + 1) ∧ r (4 * c + 1) < K)
    {c : Int} (c0 : 0 ≤ c) (c1 : c < n) (hbad : sFl σ p (r (4 * c + 1)) (hbits (fun c => r (4 * c + 1)) (r (4 * c + 1)) n) c < w ∨ sOa σ p (r (4 * c + 1)) (hbits (fun c => r (4 * c + 1)) (r (4 * c + 1)) n) c ≠ -1) :
    1152921504606846976 ≤ sumC (fun t => if hbits (fun c => r (4 * c + 1)) t n = 0 then 0 else tkF σ p w t (hbits (fun c => r (4 * c + 1)) t n)) K := by
  have hc := hf c c0 c1
  have hbit : bt (hbits (fun c => r (4 * c + 1)) (r (4 * c + 1)) n) c = 1 := by rw [hbits_bit _ _ c0 (by omega) n6, if_pos ⟨c1, rfl⟩]
  refine (sumC_ge (a := r (4 * c + 1)) (by decide) hc.1 ?_ K (fun t t0 t1 => ?_)).2 hc.2
  · have g := hbits_64 (fun c => r (4 * c + 1)) (r (4 * c + 1)) n6
    have nz : hbits (fun c => r (4 * c + 1)) (r (4 * c + 1)) n ≠ 0 := fun z => by rw [z, bt_0] at hbit; omega
    show _ ≤ if hbits (fun c => r (4 * c + 1)) (r (4 * c + 1)) n = 0 then 0 else _
    rw [if_neg nz]
    have bd : badP (sFl σ p (r (4 * c + 1)) (hbits (fun c => r (4 * c + 1)) (r (4 * c + 1)) n)) (sOa σ p (r (4 * c + 1)) (hbits (fun c => r (4 * c + 1)) (r (4 * c + 1)) n)) w (hbits (fun c => r (4 * c + 1)) (r (4 * c + 1)) n) 6 := ⟨c, c0, by omega, hbit, hbad⟩
    have rb := rpF_b (t := r (4 * c + 1)) (hbits (fun c => r (4 * c + 1)) (r (4 * c + 1)) n) hc.1 (by omega) n
    unfold tkF
    rw [if_neg hw, chF_t bd, hn]
    omega
  · by_cases z : hbits (fun c => r (4 * c + 1)) t n = 0
    · rw [if_pos z]; exact Int.le_refl _
    · rw [if_neg z]
      have g := hbits_64 (fun c => r (4 * c + 1)) t n6
      have := tkF_b (w := w) hB h9 g.1 g.2 t0 (by omega)
      rw [if_neg hw] at this
      exact this.1
/-- a row of TICKETS apart: what a CHAIR feels in the reference and in its group -/
theorem grp_row {σ m : Mem} {p : Int} (hH : eqH σ m) (hA : eqA σ m 16 5015) (hx : mX m 5015) (p0 : 0 ≤ p) (p1 : p < m 5000 28) {r : Int → Int} {n : Nat} (hn : m 5000 29 = n) (hr : ∀ j, (∀ d, 0 ≤ d → d < (n : Int) → j ≠ 4 * d + 1) → r j = m 5015 j) (hf : ∀ c : Int, 0 ≤ c → c < n → 0 ≤ r (4 * c + 1) ∧ r (4 * c + 1) < m 5000 30) {c : Int} (c0 : 0 ≤ c) (c1 : c < n) :
    sFl σ p (r (4 * c + 1)) (hbits (fun c => r (4 * c + 1)) (r (4 * c + 1)) n) c = mFl (setv m 5016 r) 5016 p (mMi m p) c ∧ sOa σ p (r (4 * c + 1)) (hbits (fun c => r (4 * c + 1)) (r (4 * c + 1)) n) c = mOa (setv m 5016 r) 5016 p (mMi m p) c := by
  obtain ⟨e2, e1, e3, eL, eP, eD, eR⟩ := id hH
  obtain ⟨aC, aI, aE⟩ := hA
  have m9 := mMi_9 hx p0 p1
  have n29 := hx.2.1.2.2.1
  have s16 : setv m 5016 r 5016 = r := setv_s _ _ _
  have so : ∀ b, b ≠ 5016 → setv m 5016 r b = m b := fun b h => setv_o _ _ h
  have hc := hf c c0 c1
  have eMi : pval σ 6 1 p 3 = m 5007 (4 * p + 3) := eP p 3 p0 p1 (by decide) (by decide)
  have hb := hbits_64 (fun c => r (4 * c + 1)) (r (4 * c + 1)) (n := n) (by omega)
  have hS : ∀ d : Int, 0 ≤ d → d < 6 → bt (hbits (fun c => r (4 * c + 1)) (r (4 * c + 1)) n) d = if d < n ∧ setv m 5016 r 5016 (4 * d + 1) = r (4 * c + 1) then 1 else 0 := by
    intro d d0 d1
    rw [hbits_bit _ _ d0 d1 (by omega), s16]
  have r24 : r 24 = m 5015 24 := hr 24 (fun d _ _ => by omega)
  have r26 : r 26 = m 5015 26 := hr 26 (fun d _ _ => by omega)
  have hg : ∀ (d N : Int) (k : Nat), 0 ≤ d → d < n → setv m 5016 r 5016 (4 * d + 1) = r (4 * c + 1) → 1 ≤ N → N ≤ 6 → k < mMi m p → gmv σ 16 (r (4 * c + 1)) p d N k = if bt (setv m 5016 r 5016 24) (r (4 * c + 1)) = 1 then 0 else mRk (setv m 5016 r) (setv m 5016 r 5007 (4 * p + (k : Int) % 3)) (setv m 5016 r 5016 (4 * d)) (setv m 5016 r 5011 (r (4 * c + 1))) N k (setv m 5016 r 5016 26) := by
    intro d N k d0 d1 dt N1 N6 hk
    have hk' : (k : Int) < m 5007 (4 * p + 3) := by unfold mMi at hk; omega
    have eK : mRk (setv m 5016 r) (m 5007 (4 * p + (k : Int) % 3)) (m 5015 (4 * d)) (m 5011 (r (4 * c + 1))) N k (m 5015 26) = mRk m (m 5007 (4 * p + (k : Int) % 3)) (m 5015 (4 * d)) (m 5011 (r (4 * c + 1))) N k (m 5015 26) := by
      unfold mRk
      rw [mwo_c (so 5002 (by decide)) (so 5003 (by decide)), so 5000 (by decide)]
    rw [s16, so 5007 (by decide), so 5011 (by decide), r24, r26, hr (4 * d) (fun e _ _ => by omega), eK]
    exact gmv_mR hH aI aE hx p0 p1 hc.1 hc.2 d0 (by omega) (aC d d0 (by omega)).1 N1 N6 (by omega)
  have G := grp (g := gmv σ 16 (r (4 * c + 1)) p) (S := hbits (fun c => r (4 * c + 1)) (r (4 * c + 1)) n) (m := setv m 5016 r) (w := 5016) (t := r (4 * c + 1)) (p := p) (K := mMi m p) (by rw [so 5000 (by decide)]; exact hn) (by omega) hb.1 hb.2 hS hg (mMi m p) (Nat.le_refl _)
  have := G.2 c c0 c1 (by rw [s16])
  rw [so 5005 (by decide)] at this
  unfold sFl sOa
  rw [eMi, eL]
  exact this
theorem xt_5 {S : Nat} (hS : S ≤ 6) {d : Nat} (hd : d ≤ 5) {r r' : Int → Int} (h : xt S (d + 1) 0 r r') : rwF r' (d + 1) < 600000 := by
  obtain ⟨t, ht, h⟩ := h
  have a := xt_row (show S ≤ 10 by omega) d 1 (upf r (4 * ((0 : Nat) : Int) + 1) t) r' h
  rw [rwF_u, show rwF r 0 = 0 from rfl, show 1 + d = d + 1 by omega] at a
  have p5 : (10 : Int) ^ d ≤ 100000 := by
    have key : ∀ n : Nat, n < 6 → (10 : Int) ^ n ≤ 100000 := by decide +kernel
    exact key d (by omega)
  have p0 : (0 : Int) < 10 ^ d := Int.pow_pos (by decide)
  generalize (10 : Int) ^ d = P at *
  have e4 : (10 * 0 + (t : Int)) * P ≤ 5 * P := Int.mul_le_mul_of_nonneg_right (by omega) (by omega)
  omega
theorem xt_all {m : Mem} {n S : Nat} (hn : m 5000 29 = n) {r : Int → Int} (h : xt S n 0 (m 5015) r) : (∀ j, (∀ d, 0 ≤ d → d < (n : Int) → j ≠ 4 * d + 1) → r j = m 5015 j) ∧ ∀ c : Int, 0 ≤ c → c < n → 0 ≤ r (4 * c + 1) ∧ r (4 * c + 1) < S :=
  ⟨fun j hj => xt_pre h j (fun e a b => hj e a (by omega)), fun c c0 c1 => xt_in h c c0 (by omega)⟩
theorem tick_eq {σ m : Mem} {p w : Int} (hH : eqH σ m) (hA : eqA σ m 16 5015) (hx : mX m 5015) (hB : planB σ 6) (p0 : 0 ≤ p) (p1 : p < m 5000 28) (w0 : 0 ≤ w) {n : Nat} (hn : m 5000 29 = n) (n1 : 1 ≤ n) {B : Int → Int} (hD : dpC σ p w (2 ^ n - 1) (m 5000 30).toNat B) :
    (tkG m p w n (m 5015) 0 0 (-1, -1) = if 1152921504606846976 ≤ B (2 ^ n - 1) then (-1, -1) else (B (2 ^ n - 1) % 1000000, B (2 ^ n - 1) / 1000000)) ∧ (B (2 ^ n - 1) < 1152921504606846976 → 0 ≤ B (2 ^ n - 1) ∧ B (2 ^ n - 1) ≤ 1000000000000) := by
  have n29 := hx.2.1.2.2.1
  have n30 := hx.2.1.2.2.2.1
  have m9 := mMi_9 hx p0 p1
  obtain ⟨S, hS⟩ : ∃ S : Nat, m 5000 30 = S := ⟨(m 5000 30).toNat, by omega⟩
  rw [hS, Int.toNat_natCast] at hD
  have e2 : (pcnt σ 6 2).toNat = n := by rw [hH.1, hn, Int.toNat_natCast]
  have e9 : pval σ 6 1 p 3 ≤ 9 := by rw [hH.2.2.2.2.1 p 3 p0 p1 (by decide) (by decide)]; exact m9.2
  have hw : w ≠ -1 := by omega
  have n6 : n ≤ 6 := by omega
  have hq : ∀ c : Int, 0 ≤ c → c < n → σ 18 c = m 5015 (4 * c + 1) := fun c c0 c1 => (hA.1 c c0 (by omega)).2
  have cost : ∀ r, xt S n 0 (m 5015) r → (tkO m p w r → sumC (fun t => if hbits (fun c => r (4 * c + 1)) t n = 0 then 0 else tkF σ p w t (hbits (fun c => r (4 * c + 1)) t n)) S = 1000000 * oc (m 5015) r n + rwF r n) ∧ (¬ tkO m p w r → 1152921504606846976 ≤ sumC (fun t => if hbits (fun c => r (4 * c + 1)) t n = 0 then 0 else tkF σ p w t (hbits (fun c => r (4 * c + 1)) t n)) S) := by
    intro r hr
    obtain ⟨a1, a2⟩ := xt_all hn hr
    have a3 : ∀ c : Int, 0 ≤ c → c < n → 0 ≤ r (4 * c + 1) ∧ r (4 * c + 1) < m 5000 30 := by rw [hS]; exact a2
    have g := fun (c : Int) (c0 : 0 ≤ c) (c1 : c < n) => grp_row hH hA hx p0 p1 hn a1 a3 c0 c1
    have so5 : setv m 5016 r 5000 = m 5000 := setv_o _ _ (by decide)
    have ob := mOu_b (setv m 5016 r) 5016 p (by rw [so5]; omega) (mMi m p)
    refine ⟨fun hk => tot_tick hw n6 e2 a2 hq (fun c c0 c1 => ?_), fun hk => ?_⟩
    · rw [(g c c0 c1).1, (g c c0 c1).2]
      refine ⟨hk.2 c c0 (by omega), ?_⟩
      have := mOu_oa (σ := setv m 5016 r) (w := 5016) (p := p) (by rw [so5]; omega) c0 (by rw [so5]; omega) (mMi m p)
      rw [hk.1, bt_0] at this
      exact Classical.byContradiction (fun q => absurd (this.mpr q) (by decide))
    · have ex : ∃ c : Int, 0 ≤ c ∧ c < n ∧ (mFl (setv m 5016 r) 5016 p (mMi m p) c < w ∨ mOa (setv m 5016 r) 5016 p (mMi m p) c ≠ -1) := by
        refine Classical.byContradiction (fun q => hk ⟨?_, fun c c0 c1 => ?_⟩)
        · refine bt_ext ob.1 ob.2 (by decide) (by decide) (fun i i0 i1 => ?_)
          rw [bt_0]
          have b01 := bt_b (mOu (setv m 5016 r) 5016 p (mMi m p)) i
          by_cases l : i < n
          · have := mOu_oa (σ := setv m 5016 r) (w := 5016) (p := p) (by rw [so5]; omega) i0 (by rw [so5]; omega) (mMi m p)
            by_cases y : bt (mOu (setv m 5016 r) 5016 p (mMi m p)) i = 1
            · exact absurd ⟨i, i0, l, Or.inr (this.mp y)⟩ q
            · omega
          · rw [← mOu_gb (by rw [so5]; omega) (by rw [so5]; omega)]
            unfold outB
            rw [gb_bit _ i0 i1 _ (by rw [so5]; omega), if_neg (fun y => by rw [so5] at y; omega)]
        · refine Classical.byContradiction (fun y => q ⟨c, c0, by omega, Or.inl (by omega)⟩)
      obtain ⟨c, c0, c1, hc⟩ := ex
      rw [← (g c c0 c1).1, ← (g c c0 c1).2] at hc
      exact tot_bad hB e9 hw n6 e2 (by omega) a2 c0 c1 hc
  have sr := tkG_ok (p := p) (w := w) hn n6 hS (by omega) n 0 (m 5015) 0 (-1, -1) (by omega) rfl (fun r' h => xt_6 (by omega) n6 h) (Or.inl rfl)
  rw [show ((0 : Nat) : Int) = 0 from rfl] at sr
  have lb : ∀ r, xt S n 0 (m 5015) r → B (2 ^ n - 1) ≤ sumC (fun t => if hbits (fun c => r (4 * c + 1)) t n = 0 then 0 else tkF σ p w t (hbits (fun c => r (4 * c + 1)) t n)) S := by
    intro r hr
    obtain ⟨a1, a2⟩ := xt_all hn hr
    have := dp_lb (f := fun c => r (4 * c + 1)) n6 S B hD (fun c c0 c1 => (a2 c c0 c1).1)
    have g := gb_64 (fun c => decide (r (4 * c + 1) < (S : Int))) n6
    have f6 := full_64 n6
    have e : gb (fun c => decide (r (4 * c + 1) < (S : Int))) n = 2 ^ n - 1 := by
      refine bt_ext g.1 g.2 f6.1 f6.2 (fun i i0 i1 => ?_)
      rw [gb_bit _ i0 i1 n n6]
      have bf := bt_full0 n n6 i.toNat (by omega)
      rw [show ((i.toNat : Nat) : Int) = i by omega] at bf
      rw [bf]
      by_cases l : i < n
      · rw [if_pos ⟨l, decide_eq_true (a2 i i0 l).2⟩, if_pos (by omega)]
      · rw [if_neg (fun y => l y.1), if_neg (by omega)]
    rw [e] at this
    exact this
  have att : B (2 ^ n - 1) < 1152921504606846976 → ∃ r, xt S n 0 (m 5015) r ∧ B (2 ^ n - 1) = sumC (fun t => if hbits (fun c => r (4 * c + 1)) t n = 0 then 0 else tkF σ p w t (hbits (fun c => r (4 * c + 1)) t n)) S := by
    intro hlt
    have f6 := full_64 n6
    have hat := dp_att (σ := σ) (p := p) (w := w) n6 (lo := 0) (by decide) (K := S) (by omega) (fun t T ht T1 T2 => by
      have := tkF_b (w := w) hB e9 (show (0 : Int) ≤ T by omega) (show (T : Int) < 64 by omega) (show (0 : Int) ≤ t by omega) (by omega)
      rw [if_neg hw] at this
      omega) S B (Nat.le_refl _) hD ((2 : Int) ^ n - 1).toNat (by omega)
    rw [show ((((2 : Int) ^ n - 1).toNat : Nat) : Int) = 2 ^ n - 1 by omega] at hat
    rcases hat with h | ⟨f, hf, hv⟩
    · rw [Int.zero_mul] at h; omega
    · have hin : ∀ e : Int, 0 ≤ e → e < 0 + (n : Int) → 0 ≤ f e ∧ f e < S := by
        intro e e0 e1
        rcases hf e e0 (by omega) with h | h
        · exact ⟨h.1, h.2.1⟩
        · have bf := bt_full0 n n6 e.toNat (by omega)
          rw [show ((e.toNat : Nat) : Int) = e by omega, if_pos (by omega)] at bf
          omega
      obtain ⟨r, hr, hrf⟩ := xt_mk f n 0 (m 5015) hin
      refine ⟨r, hr, ?_⟩
      rw [hv]
      refine sumC_cong (fun t _ _ => ?_)
      rw [hbits_c (f := f) (g := fun c => r (4 * c + 1)) (fun c c0 c1 => by rw [hrf c c0 (by omega)])]
  obtain ⟨s1, s2, s3⟩ := sr
  have vb : ∀ r, xt S n 0 (m 5015) r → tcd (rwF r n, oc (m 5015) r n) = 1000000 * oc (m 5015) r n + rwF r n := fun r _ => by
    have := oc_b (m 5015) r n
    exact tcd_n (show oc (m 5015) r n ≠ -1 by omega)
  rcases s1 with e | ⟨r, hr, hk, e⟩
  · have hnone : ∀ r, xt S n 0 (m 5015) r → ¬ tkO m p w r := by
      intro r hr hk
      have := s2 r hr hk
      have v := vb r hr
      have b1 := oc_b (m 5015) r n
      have b2 := xt_6 (by omega) n6 hr
      rw [e] at this
      have t0 : tcd (-1, -1) = 1000000000000000 := rfl
      rw [t0] at this
      have : (1000000000000000 : Int) ≤ 1000000 * oc (m 5015) r n + rwF r n := by rw [← v]; exact this
      omega
    have : 1152921504606846976 ≤ B (2 ^ n - 1) := by
      refine Classical.byContradiction (fun q => ?_)
      obtain ⟨r, hr, hv⟩ := att (by omega)
      have := (cost r hr).2 (hnone r hr)
      omega
    exact ⟨by rw [e, if_pos this], fun q => by omega⟩
  · have v := vb r hr
    have b1 := oc_b (m 5015) r n
    have b2 := xt_6 (by omega) n6 hr
    have l1 := lb r hr
    rw [(cost r hr).1 hk] at l1
    have hlt : B (2 ^ n - 1) < 1152921504606846976 := by omega
    obtain ⟨r2, hr2, hv⟩ := att hlt
    have hk2 : tkO m p w r2 := Classical.byContradiction (fun q => by have := (cost r2 hr2).2 q; omega)
    rw [(cost r2 hr2).1 hk2] at hv
    have l2 := s2 r2 hr2 hk2
    rw [e] at l2
    have l2 : tcd (rwF r n, oc (m 5015) r n) ≤ tcd (rwF r2 n, oc (m 5015) r2 n) := l2
    rw [v, vb r2 hr2] at l2
    have eB : B (2 ^ n - 1) = 1000000 * oc (m 5015) r n + rwF r n := by omega
    refine ⟨?_, fun _ => by omega⟩
    rw [e, if_neg (by omega), eB]
    show (rwF r n, oc (m 5015) r n) = _
    rw [show (1000000 * oc (m 5015) r n + rwF r n) % 1000000 = rwF r n by omega, show (1000000 * oc (m 5015) r n + rwF r n) / 1000000 = oc (m 5015) r n by omega]
theorem most_eq {σ m : Mem} {p : Int} (hH : eqH σ m) (hA : eqA σ m 16 5015) (hx : mX m 5015) (hB : planB σ 6) (p0 : 0 ≤ p) (p1 : p < m 5000 28) {n : Nat} (hn : m 5000 29 = n) (n1 : 1 ≤ n) (s1 : 1 ≤ m 5000 30) {B : Int → Int} (hD : dpC σ p (-1) (2 ^ n - 1) (m 5000 30).toNat B) :
    mstF m p n (m 5015) 0 (-1, -1) = (B (2 ^ n - 1) % 1000000, -(B (2 ^ n - 1) / 1000000)) ∧ -1000000000000 ≤ B (2 ^ n - 1) ∧ B (2 ^ n - 1) ≤ 1000000000000 := by
  have n29 := hx.2.1.2.2.1
  have n30 := hx.2.1.2.2.2.1
  have n28 := hx.2.1.2.2.2.2.1
  have m9 := mMi_9 hx p0 p1
  obtain ⟨S, hS⟩ : ∃ S : Nat, m 5000 30 = S := ⟨(m 5000 30).toNat, by omega⟩
  rw [hS, Int.toNat_natCast] at hD
  have e2 : (pcnt σ 6 2).toNat = n := by rw [hH.1, hn, Int.toNat_natCast]
  have e9 : pval σ 6 1 p 3 ≤ 9 := by rw [hH.2.2.2.2.1 p 3 p0 p1 (by decide) (by decide)]; exact m9.2
  have n6 : n ≤ 6 := by omega
  have cost : ∀ r, xt S n 0 (m 5015) r → sumC (fun t => if hbits (fun c => r (4 * c + 1)) t n = 0 then 0 else tkF σ p (-1) t (hbits (fun c => r (4 * c + 1)) t n)) S = -1000000 * rMv m p r + rwF r n := by
    intro r hr
    obtain ⟨a1, a2⟩ := xt_all hn hr
    have a3 : ∀ c : Int, 0 ≤ c → c < n → 0 ≤ r (4 * c + 1) ∧ r (4 * c + 1) < m 5000 30 := by rw [hS]; exact a2
    rw [tot_most n6 e2 a2]
    unfold rMv
    rw [hn, Int.toNat_natCast, sumC_cong (fun c c0 c1 => (grp_row hH hA hx p0 p1 hn a1 a3 c0 c1).1)]
  have mvb : ∀ r, 0 ≤ rMv m p r ∧ rMv m p r ≤ 10000 := fun r => rMv_b hx ⟨by omega, by omega⟩
  have sr := mstF_ok (p := p) hn hS (by omega) n 0 (m 5015) (-1, -1) (by omega) (fun r' h => xt_6 (by omega) n6 h) (by decide) (fun r' h => by
    have := xt_6 (by omega) n6 h
    show (-1 : Int) < _
    omega)
  rw [show ((0 : Nat) : Int) = 0 from rfl] at sr
  have lb : ∀ r, xt S n 0 (m 5015) r → B (2 ^ n - 1) ≤ sumC (fun t => if hbits (fun c => r (4 * c + 1)) t n = 0 then 0 else tkF σ p (-1) t (hbits (fun c => r (4 * c + 1)) t n)) S := by
    intro r hr
    obtain ⟨a1, a2⟩ := xt_all hn hr
    have := dp_lb (f := fun c => r (4 * c + 1)) n6 S B hD (fun c c0 c1 => (a2 c c0 c1).1)
    have g := gb_64 (fun c => decide (r (4 * c + 1) < (S : Int))) n6
    have f6 := full_64 n6
    have e : gb (fun c => decide (r (4 * c + 1) < (S : Int))) n = 2 ^ n - 1 := by
      refine bt_ext g.1 g.2 f6.1 f6.2 (fun i i0 i1 => ?_)
      rw [gb_bit _ i0 i1 n n6]
      have bf := bt_full0 n n6 i.toNat (by omega)
      rw [show ((i.toNat : Nat) : Int) = i by omega] at bf
      rw [bf]
      by_cases l : i < n
      · rw [if_pos ⟨l, decide_eq_true (a2 i i0 l).2⟩, if_pos (by omega)]
      · rw [if_neg (fun y => l y.1), if_neg (by omega)]
    rw [e] at this
    exact this
  obtain ⟨r0, hr0, -⟩ := xt_mk (S := S) (fun _ => 0) n 0 (m 5015) (fun e _ _ => ⟨Int.le_refl _, by omega⟩)
  have l0 := lb r0 hr0
  rw [cost r0 hr0] at l0
  have b0 := xt_6 (by omega) n6 hr0
  have v0 := mvb r0
  have att : ∃ r, xt S n 0 (m 5015) r ∧ B (2 ^ n - 1) = sumC (fun t => if hbits (fun c => r (4 * c + 1)) t n = 0 then 0 else tkF σ p (-1) t (hbits (fun c => r (4 * c + 1)) t n)) S := by
    have f6 := full_64 n6
    have hat := dp_att (σ := σ) (p := p) (w := -1) n6 (lo := 6000000000) (by decide) (K := S) (by omega) (fun t T ht T1 T2 => by
      have := tkF_b (w := -1) hB e9 (show (0 : Int) ≤ T by omega) (show (T : Int) < 64 by omega) (show (0 : Int) ≤ t by omega) (by omega)
      rw [if_pos rfl] at this
      omega) S B (Nat.le_refl _) hD ((2 : Int) ^ n - 1).toNat (by omega)
    rw [show ((((2 : Int) ^ n - 1).toNat : Nat) : Int) = 2 ^ n - 1 by omega] at hat
    rcases hat with h | ⟨f, hf, hv⟩
    · omega
    · have hin : ∀ e : Int, 0 ≤ e → e < 0 + (n : Int) → 0 ≤ f e ∧ f e < S := by
        intro e e0 e1
        rcases hf e e0 (by omega) with h | h
        · exact ⟨h.1, h.2.1⟩
        · have bf := bt_full0 n n6 e.toNat (by omega)
          rw [show ((e.toNat : Nat) : Int) = e by omega, if_pos (by omega)] at bf
          omega
      obtain ⟨r, hr, hrf⟩ := xt_mk f n 0 (m 5015) hin
      refine ⟨r, hr, ?_⟩
      rw [hv]
      refine sumC_cong (fun t _ _ => ?_)
      rw [hbits_c (f := f) (g := fun c => r (4 * c + 1)) (fun c c0 c1 => by rw [hrf c c0 (by omega)])]
  obtain ⟨s1', s2, s3⟩ := sr
  have found : ∃ r, xt S n 0 (m 5015) r ∧ mstF m p n (m 5015) 0 (-1, -1) = (rwF r n, rMv m p r) := by
    rcases s1' with e | ⟨r, hr, _, e⟩
    · have := s2 r0 hr0 trivial
      have : ycd (mstF m p n (m 5015) 0 (-1, -1)) ≤ ycd (rwF r0 n, rMv m p r0) := this
      rw [e] at this
      unfold ycd at this
      have : (-1000000 * (-1) + (-1) : Int) ≤ -1000000 * rMv m p r0 + rwF r0 n := this
      obtain ⟨d, hd⟩ : ∃ d, n = d + 1 := ⟨n - 1, by omega⟩
      rw [hd] at hr0 this
      have := xt_5 (by omega) (by omega) hr0
      omega
    · exact ⟨r, hr, e⟩
  obtain ⟨r, hr, e⟩ := found
  obtain ⟨r2, hr2, hv⟩ := att
  have l1 := lb r hr
  rw [cost r hr] at l1
  rw [cost r2 hr2] at hv
  have l2 := s2 r2 hr2 trivial
  have l2 : ycd (mstF m p n (m 5015) 0 (-1, -1)) ≤ ycd (rwF r2 n, rMv m p r2) := l2
  rw [e] at l2
  unfold ycd at l2
  have l2 : -1000000 * rMv m p r + rwF r n ≤ -1000000 * rMv m p r2 + rwF r2 n := l2
  have b2 := xt_6 (by omega) n6 hr
  have eB : B (2 ^ n - 1) = -1000000 * rMv m p r + rwF r n := by omega
  have v9 := mvb r
  refine ⟨?_, by omega, by omega⟩
  rw [e, eB, show (-1000000 * rMv m p r + rwF r n) % 1000000 = rwF r n by omega, show (-1000000 * rMv m p r + rwF r n) / 1000000 = -rMv m p r by omega, Int.neg_neg]
/-! BORNE: rows of PLAYS tried one by one against the best of each EVENING -/
abbrev bMV (m : Mem) (i e p : Int) : Int := rMv m p (bnR m i e)
abbrev bOB (m : Mem) (i e p : Int) : Int := mOu (setv m 5016 (bnR m i e)) 5016 p (mMi m p)
/-- the best PLAY of each of k EVENINGS: the row and how much all are moved -/
def grd (mv ob : Int → Int → Int → Int) (P : Nat) : Nat → Int → Int → Option (Int × Int)
  | 0, _, _ => some (0, 0)
  | k + 1, i, e => if (bbR (mv i e) (ob i e) P).1 = -1 then none else match grd mv ob P k 0 (e + 1) with
    | none => none
    | some x => some ((bbR (mv i e) (ob i e) P).1 * 10 ^ k + x.1, (bbR (mv i e) (ob i e) P).2 + x.2)
theorem grd_n {mv ob : Int → Int → Int → Int} {P k : Nat} {i e : Int} (h : (bbR (mv i e) (ob i e) P).1 = -1) : grd mv ob P (k + 1) i e = none := by
  show (if (bbR (mv i e) (ob i e) P).1 = -1 then none else _) = none
  rw [if_pos h]
theorem grd_m {mv ob : Int → Int → Int → Int} {P k : Nat} {i e : Int} (h : grd mv ob P k 0 (e + 1) = none) : grd mv ob P (k + 1) i e = none := by
  unfold grd
  rw [h]
  split <;> rfl
theorem grd_y {mv ob : Int → Int → Int → Int} {P k : Nat} {i e : Int} {x : Int × Int} (h : (bbR (mv i e) (ob i e) P).1 ≠ -1) (hx : grd mv ob P k 0 (e + 1) = some x) : grd mv ob P (k + 1) i e = some ((bbR (mv i e) (ob i e) P).1 * 10 ^ k + x.1, (bbR (mv i e) (ob i e) P).2 + x.2) := by
  unfold grd
  rw [hx, if_neg h]
def grA (w u : Int) (k : Nat) (s : Int × Int) (o : Option (Int × Int)) : Int × Int := match o with
  | none => s
  | some x => if u + x.2 ≤ s.2 then s else (w * 10 ^ k + x.1, u + x.2)
theorem grA_s (w u : Int) (k : Nat) (s x : Int × Int) : grA w u k s (some x) = if u + x.2 ≤ s.2 then s else (w * 10 ^ k + x.1, u + x.2) := rfl
theorem bbR_s (mv ob : Int → Int) (t : Nat) : bbR mv ob (t + 1) = if ob t = 0 ∧ (bbR mv ob t).2 < mv t then ((t : Int), mv t) else bbR mv ob t := rfl
theorem bbR_n {mv ob : Int → Int} : ∀ t : Nat, (∀ p : Int, 0 ≤ p → p < t → 0 ≤ mv p) → ((bbR mv ob t).1 = -1 ∧ (bbR mv ob t).2 = -1) ∨ (0 ≤ (bbR mv ob t).1 ∧ (bbR mv ob t).1 < t ∧ ob (bbR mv ob t).1 = 0 ∧ (bbR mv ob t).2 = mv (bbR mv ob t).1 ∧ 0 ≤ (bbR mv ob t).2) := by
  intro t
  induction t with
  | zero => intro _; exact Or.inl ⟨rfl, rfl⟩
  | succ t ih =>
    intro h
    have i9 := ih (fun p a b => h p a (by omega))
    have v0 := h t (by omega) (by omega)
    rw [bbR_s]
    by_cases c : ob t = 0 ∧ (bbR mv ob t).2 < mv t
    · rw [if_pos c]
      exact Or.inr ⟨by show (0 : Int) ≤ t; omega, by show (t : Int) < ((t + 1 : Nat) : Int); omega, c.1, rfl, v0⟩
    · rw [if_neg c]
      rcases i9 with i9 | i9
      · exact Or.inl i9
      · exact Or.inr ⟨i9.1, by omega, i9.2.2⟩
theorem bbR_cong {mv ob mv' ob' : Int → Int} : ∀ t : Nat, (∀ p : Int, 0 ≤ p → p < t → mv p = mv' p ∧ ob p = ob' p) → bbR mv ob t = bbR mv' ob' t := by
  intro t
  induction t with
  | zero => intro _; rfl
  | succ t ih =>
    intro h
    rw [bbR_s, bbR_s, ih (fun p a b => h p a (by omega)), (h t (by omega) (by omega)).1, (h t (by omega) (by omega)).2]
theorem bnF_s (m : Mem) (k : Nat) (i e u w : Int) (s : Int × Int) : bnF m (k + 1) i e u w s = mstI (fun p s => if bOB m i e p = 0 then bnF m k 0 (e + 1) (u + bMV m i e p) (10 * w + p) s else s) (m 5000 28).toNat s := rfl
theorem bnF_gr {m : Mem} (hx : mX m 5015) : ∀ (k : Nat) (i e u w : Int) (s : Int × Int), bnF m k i e u w s = grA w u k s (grd (bMV m) (bOB m) (m 5000 28).toNat k i e) := by
  have n28 := hx.2.1.2.2.2.2.1
  intro k
  induction k with
  | zero =>
    intro i e u w s
    show (if u ≤ s.2 then s else (w, u)) = if u + 0 ≤ s.2 then s else (w * 10 ^ 0 + 0, u + 0)
    simp
  | succ k ih =>
    intro i e u w s
    have mv0 : ∀ p : Int, 0 ≤ p → p < m 5000 28 → 0 ≤ bMV m i e p := fun p a b => (rMv_b hx ⟨a, by omega⟩).1
    have fe : (fun (p : Int) (s : Int × Int) => if bOB m i e p = 0 then bnF m k 0 (e + 1) (u + bMV m i e p) (10 * w + p) s else s) = fun p s => if bOB m i e p = 0 then grA (10 * w + p) (u + bMV m i e p) k s (grd (bMV m) (bOB m) (m 5000 28).toNat k 0 (e + 1)) else s := by
      funext p s
      rw [ih]
    rw [bnF_s, fe]
    cases hg : grd (bMV m) (bOB m) (m 5000 28).toNat k 0 (e + 1) with
    | none =>
      have idl : ∀ t : Nat, mstI (fun p s => if bOB m i e p = 0 then grA (10 * w + p) (u + bMV m i e p) k s none else s) t s = s := by
        intro t
        induction t with
        | zero => rfl
        | succ t iht => rw [mstI_s, iht]; split <;> rfl
      rw [idl, grd_m hg]
      rfl
    | some x =>
      have lp : ∀ t : Nat, (t : Int) ≤ m 5000 28 → mstI (fun p s => if bOB m i e p = 0 then grA (10 * w + p) (u + bMV m i e p) k s (some x) else s) t s = if (bbR (bMV m i e) (bOB m i e) t).1 = -1 then s else grA (10 * w + (bbR (bMV m i e) (bOB m i e) t).1) (u + (bbR (bMV m i e) (bOB m i e) t).2) k s (some x) := by
        intro t
        induction t with
        | zero => intro _; exact (if_pos rfl).symm
        | succ t iht =>
          intro ht
          have b := bbR_n (mv := bMV m i e) (ob := bOB m i e) t (fun p a c => mv0 p a (by omega))
          have v0 := mv0 t (by omega) (by omega)
          rw [mstI_s, iht (by omega), bbR_s]
          generalize hb : bbR (bMV m i e) (bOB m i e) t = B at *
          generalize hv : bMV m i e t = V at *
          by_cases o : bOB m i e t = 0
          · rw [if_pos o]
            by_cases l : B.2 < V
            · have eb : (if bOB m i e t = 0 ∧ B.2 < V then ((t : Int), V) else B) = ((t : Int), V) := if_pos ⟨o, l⟩
              rw [eb, if_neg (show ¬ ((t : Int), V).1 = -1 by show ¬ (t : Int) = -1; omega)]
              by_cases z : B.1 = -1
              · rw [if_pos z]
              · rw [if_neg z, grA_s, grA_s, grA_s]
                show (if u + V + x.2 ≤ (if u + B.2 + x.2 ≤ s.2 then s else ((10 * w + B.1) * 10 ^ k + x.1, u + B.2 + x.2)).2 then (if u + B.2 + x.2 ≤ s.2 then s else ((10 * w + B.1) * 10 ^ k + x.1, u + B.2 + x.2)) else ((10 * w + (t : Int)) * 10 ^ k + x.1, u + V + x.2)) = (if u + V + x.2 ≤ s.2 then s else ((10 * w + (t : Int)) * 10 ^ k + x.1, u + V + x.2))
                by_cases y : u + B.2 + x.2 ≤ s.2
                · rw [if_pos y]
                · rw [if_neg y, if_neg (show ¬ u + V + x.2 ≤ u + B.2 + x.2 by omega), if_neg (by omega)]
            · have eb : (if bOB m i e t = 0 ∧ B.2 < V then ((t : Int), V) else B) = B := if_neg (fun q => l q.2)
              rw [eb]
              have z : B.1 ≠ -1 := by omega
              rw [if_neg z, grA_s, grA_s]
              by_cases y : u + B.2 + x.2 ≤ s.2
              · rw [if_pos y, if_pos (by omega)]
              · rw [if_neg y, if_pos (show u + V + x.2 ≤ u + B.2 + x.2 by omega)]
          · have eb : (if bOB m i e t = 0 ∧ B.2 < V then ((t : Int), V) else B) = B := if_neg (fun q => o q.1)
            rw [if_neg o, eb]
      rw [lp _ (by omega)]
      by_cases z : (bbR (bMV m i e) (bOB m i e) (m 5000 28).toNat).1 = -1
      · rw [if_pos z, grd_n z]; rfl
      · rw [if_neg z, grd_y z hg, grA_s, grA_s]
        generalize bbR (bMV m i e) (bOB m i e) (m 5000 28).toNat = B
        show (if u + B.2 + x.2 ≤ s.2 then s else ((10 * w + B.1) * 10 ^ k + x.1, u + B.2 + x.2)) = if u + (B.2 + x.2) ≤ s.2 then s else (w * 10 ^ (k + 1) + (B.1 * 10 ^ k + x.1), u + (B.2 + x.2))
        have e1 : (10 * w + B.1) * 10 ^ k + x.1 = w * 10 ^ (k + 1) + (B.1 * 10 ^ k + x.1) := by
          rw [Int.pow_succ]
          generalize (10 : Int) ^ k = P
          have a1 : (10 * w + B.1) * P = 10 * (w * P) + B.1 * P := by rw [Int.add_mul, Int.mul_assoc]
          have a2 : w * (P * 10) = 10 * (w * P) := by rw [← Int.mul_assoc, Int.mul_comm]
          omega
        rw [e1, Int.add_assoc u]
theorem SA_rkV {σ τ : Mem} (h : SA σ τ) (hl : lawOk σ) (a b c d e f : Int) : rkV τ a b c d e f = rkV σ a b c d e f := by
  have hS : SP σ τ 16 := ⟨SA_r h (by omega), SA_r h (by omega), SA_r h (by omega), SA_r h (by omega), SA_r h (by omega), h.2, fun hw => h.1 _ (by unfold isLw at hw; omega) (by unfold isLw at hw; omega) (by unfold isLw at hw; omega) (by unfold isLw at hw; omega) (by unfold isLw at hw; omega) (by unfold isLw at hw; omega) (by unfold isLw at hw; omega) (by unfold isLw at hw; omega)⟩
  exact SP_rkV hS hl a b c d e f
theorem eqH_c {σ τ m : Mem} (h1 : ∀ k, pcnt τ 6 k = pcnt σ 6 k) (h2 : ∀ x y z, pval τ 6 x y z = pval σ 6 x y z) (h3 : ∀ a b c d e f, rkV τ a b c d e f = rkV σ a b c d e f) (h : eqH σ m) : eqH τ m := by
  obtain ⟨a1, a2, a3, a4, a5, a6, a7⟩ := h
  exact ⟨by rw [h1]; exact a1, by rw [h1]; exact a2, by rw [h1]; exact a3, by rw [h2]; exact a4, fun p k p0 p1 k0 k1 => by rw [h2]; exact a5 p k p0 p1 k0 k1, fun t t0 t1 => by rw [h2]; exact a6 t t0 t1, fun f g d n k e hd hn => by rw [h3]; exact a7 f g d n k e hd hn⟩
theorem eqH_m {σ m m' : Mem} (h5 : ∀ k, k = 28 ∨ k = 29 ∨ k = 30 ∨ k = 38 → m' 5000 k = m 5000 k) (h0 : ∀ b, b = 5002 ∨ b = 5003 ∨ b = 5005 ∨ b = 5007 ∨ b = 5011 → m' b = m b) (h : eqH σ m) : eqH σ m' := by
  obtain ⟨a1, a2, a3, a4, a5, a6, a7⟩ := h
  unfold eqH
  rw [h5 28 (by decide), h5 29 (by decide), h5 30 (by decide), h0 5005 (by decide), h0 5007 (by decide), h0 5011 (by decide)]
  refine ⟨a1, a2, a3, a4, a5, a6, fun f g d n k e hd hn => ?_⟩
  rw [a7 f g d n k e hd hn]
  unfold mRk
  rw [mwo_c (h0 5002 (by decide)) (h0 5003 (by decide)), h5 38 (by decide)]
theorem eqH_SA {σ τ m : Mem} (h : SA σ τ) (hl : lawOk σ) (hH : eqH σ m) : eqH τ m := eqH_c (SA_pcnt h) (SA_pval h) (SA_rkV h hl) hH
theorem mX_sv {m : Mem} (hx : mX m 5015) {r : Int → Int} (hr : aR (m 5000 29) (m 5000 30) r) : mX (setv m 5016 r) 5016 := by
  have hQ : QF m (setv m 5016 r) := ⟨fun b h1 h2 h3 h4 => setv_o _ _ (by omega), fun k _ _ _ _ _ _ _ => by rw [setv_o _ _ (by decide)]⟩
  exact QF_mX hQ (mOk_sv hx.2.1.1 (Or.inr rfl) r) hx hr (fun j _ _ => by rw [setv_s])
/-- who is ILL before EVENING k -/
def illA (i : Int) (k : Nat) : Int := if k = 0 then i else 0
theorem SF_SA {σ τ : Mem} (h : SF σ τ) : SA σ τ := SW_SA (SF_SW h)
theorem shP_SA {σ τ : Mem} {p : Int} (h : shP σ τ 21 p) : SA σ τ := ⟨fun b h0 h1 h2 h3 h4 h5 h6 h7 => h.1 b (by omega) (by omega) (by omega) (by omega) (by omega) (by omega) (by omega) (by omega) h4 h5 h6 h7, h.2.1⟩
/-- the audience apart is the reference's row with i and e -/
def eqB (τ m : Mem) (i e : Int) : Prop := (∀ c, 0 ≤ c → c < m 5000 29 → τ 22 c = m 5015 (4 * c) ∧ τ 23 c = m 5015 (4 * c + 1)) ∧ τ 21 4 = i ∧ τ 21 6 = e
theorem eqB_A {τ m : Mem} {i e : Int} (n6 : m 5000 29 ≤ 6) (h : eqB τ m i e) : eqA τ (setv m 5016 (bnR m i e)) 21 5016 := by
  have so5 : setv m 5016 (bnR m i e) 5000 = m 5000 := setv_o _ _ (by decide)
  unfold eqA
  rw [so5, setv_s]
  refine ⟨fun c c0 c1 => ?_, ?_, ?_⟩
  · unfold bnR
    rw [upf_n2 _ (by omega), upf_n2 _ (by omega), upf_n2 _ (by omega), upf_n2 _ (by omega)]
    exact h.1 c c0 c1
  · unfold bnR; rw [upf_n2 _ (by decide), upf_s2]; exact h.2.1
  · unfold bnR; rw [upf_s2]; exact h.2.2
theorem eqB_bb {τ m : Mem} {i e : Int} (hx : mX m 5015) (hH : eqH τ m) (h : eqB τ m i e) (i0 : 0 ≤ i) (i1 : i < 64) (e0 : 0 ≤ e) (e1 : e ≤ 2000) {p : Int} (p0 : 0 ≤ p) (p1 : p < m 5000 28) : bMv τ p = bMV m i e p ∧ bOb τ p = bOB m i e p := by
  have n29 := hx.2.1.2.2.1
  have so : ∀ b, b ≠ 5016 → setv m 5016 (bnR m i e) b = m b := fun b hb => setv_o _ _ hb
  have hA := eqB_A n29.2 h
  have hH' : eqH τ (setv m 5016 (bnR m i e)) := eqH_m (fun k _ => by rw [so 5000 (by decide)]) (fun b hb => so b (by omega)) hH
  have hx' := mX_sv hx (aR_bn n29.2 hx.2.2 i0 i1 e0 e1)
  have p1' : p < setv m 5016 (bnR m i e) 5000 28 := by rw [so 5000 (by decide)]; exact p1
  have s1 := play_sum hH' hA hx' p0 p1'
  have s2 := play_out hH' hA hx' p0 p1'
  unfold mMi at s1 s2
  rw [so 5007 (by decide)] at s1 s2
  rw [so 5000 (by decide)] at s1
  exact ⟨s1, s2⟩
theorem bn_fwd {σ m : Mem} (hH : eqH σ m) (hA : eqA σ m 16 5015) (hx : mX m 5015) (hl : lawOk σ) (he : m 5015 26 ≤ 1000) : ∀ (k : Nat) (r q : Int) (τ : Mem), k ≤ 4 → bnX k σ r q τ → SA σ τ ∧ eqB τ m (illA (m 5015 24) k) (m 5015 26 + k) ∧ 0 ≤ q ∧ ∀ K : Nat, grd (bMV m) (bOB m) (m 5000 28).toNat (k + K) (m 5015 24) (m 5015 26) = match grd (bMV m) (bOB m) (m 5000 28).toNat K (illA (m 5015 24) k) (m 5015 26 + k) with
      | none => none
      | some x => some (r * 10 ^ K + x.1, q + x.2) := by
  have n29 := hx.2.1.2.2.1
  have n28 := hx.2.1.2.2.2.2.1
  have r24 := hx.2.2.2.1
  have r26 := hx.2.2.2.2.2.1
  intro k
  induction k with
  | zero =>
    rintro r q τ _ ⟨rfl, rfl, rfl⟩
    have ha := apM_r σ
    refine ⟨SA_set _ _, ⟨fun c c0 c1 => ?_, ?_, ?_⟩, Int.le_refl _, fun K => ?_⟩
    · have h1 := ha.1 c c0 (by omega)
      rw [h1.1, h1.2.1]; exact hA.1 c c0 c1
    · rw [ha.2.1]; exact hA.2.1
    · rw [ha.2.2.2]
      have := hA.2.2
      show σ 16 6 = m 5015 26 + ((0 : Nat) : Int)
      omega
    · rw [Nat.zero_add]
      show _ = match grd (bMV m) (bOB m) (m 5000 28).toNat K (m 5015 24) (m 5015 26 + ((0 : Nat) : Int)) with
        | none => none
        | some x => some (0 * 10 ^ K + x.1, 0 + x.2)
      rw [show m 5015 26 + ((0 : Nat) : Int) = m 5015 26 by omega]
      cases grd (bMV m) (bOB m) (m 5000 28).toNat K (m 5015 24) (m 5015 26) with
      | none => rfl
      | some x => simp
  | succ k ih =>
    rintro r q τ hk ⟨υ, r0, q0, β, h1, h2, h3, h4, rfl, rfl⟩
    obtain ⟨g1, g2, g3, g4⟩ := ih r0 q0 υ (by omega) h1
    have hHu := eqH_SA g1 hl hH
    have ib : 0 ≤ illA (m 5015 24) k ∧ illA (m 5015 24) k < 64 := by unfold illA; split <;> omega
    have bb := fun (p : Int) (p0 : 0 ≤ p) (p1 : p < m 5000 28) => eqB_bb hx hHu g2 ib.1 ib.2 (by omega) (by omega) p0 p1
    have ebb : bbR (bMv υ) (bOb υ) (pcnt υ 6 1).toNat = bbR (bMV m (illA (m 5015 24) k) (m 5015 26 + k)) (bOB m (illA (m 5015 24) k) (m 5015 26 + k)) (m 5000 28).toNat := by
      rw [hHu.2.1]
      exact bbR_cong _ (fun p a b => bb p a (by omega))
    have bn := bbR_n (mv := bMv υ) (ob := bOb υ) (pcnt υ 6 1).toNat (fun p a b => by
      rw [hHu.2.1] at b
      rw [(bb p a (by omega)).1]
      exact (rMv_b hx ⟨a, by omega⟩).1)
    have h3' : (bbR (bMv υ) (bOb υ) (pcnt υ 6 1).toNat).1 ≠ -1 := h3
    rcases bn with bn | ⟨b0, b1, b2, b3, b4⟩
    · exact absurd bn.1 h3'
    rw [hHu.2.1] at b1
    have hlu : lawOk υ := SA_lawOk g1 hl
    have pe : ∀ i, pFl β 21 (bst υ) i = pFl υ 21 (bst υ) i ∧ pOa β 21 (bst υ) i = pOa υ 21 (bst υ) i := fun i => by
      have e1 := SF_a h2 (a := 21) (Or.inr rfl)
      have gm : gmv β 21 = gmv υ 21 := by
        funext t p i n k
        unfold gmv
        rw [e1.1, e1.2.1, SF_pval h2, SF_pval h2, SF_rkV h2 hlu]
      unfold pFl pOa
      rw [gm, e1.2.2.1, SF_pval h2, SF_pval h2, SF_pcnt h2]
      exact ⟨rfl, rfl⟩
    have qe : sumC (pFl β 21 (bst υ)) (pcnt β 6 2).toNat = (bbR (bMv υ) (bOb υ) (pcnt υ 6 1).toNat).2 := by
      rw [b3, SF_pcnt h2]
      exact sumC_cong (fun i _ _ => (pe i).1)
    have hSA : SA σ τ := SA_tr g1 (SA_tr (SF_SA h2) (shP_SA h4))
    have c2 : pcnt υ 6 2 = m 5000 29 := hHu.1
    refine ⟨hSA, ⟨fun c c0 c1 => ?_, ?_, ?_⟩, by rw [qe]; omega, fun K => ?_⟩
    · have e1 := SF_a h2 (a := 21) (Or.inr rfl)
      have oa : pOa β 21 (bst υ) c = -1 := by
        rw [(pe c).2]
        have b2' : outB (pOa υ 21 (bst υ)) (pcnt υ 6 2).toNat = 0 := b2
        have gbt := gb_bit (fun i => decide (pOa υ 21 (bst υ) i ≠ -1)) c0 (by omega) (pcnt υ 6 2).toNat (by omega)
        rw [show gb (fun i => decide (pOa υ 21 (bst υ) i ≠ -1)) (pcnt υ 6 2).toNat = 0 from b2', bt_0] at gbt
        refine Classical.byContradiction (fun y => ?_)
        rw [if_pos ⟨by omega, decide_eq_true y⟩] at gbt
        omega
      have t22 := h4.2.2.2.1 c
      rw [if_neg (fun y => y.2.2 oa)] at t22
      have t23 : τ 23 = β 23 := h4.1 23 (by decide) (by decide) (by decide) (by decide) (by decide) (by decide) (by decide) (by decide) (by decide) (by decide) (by decide) (by decide)
      have e22 : β 22 = υ 22 := e1.2.1
      have e23 : β 23 = υ 23 := e1.2.2.1
      have t22' : τ 22 c = β 22 c := t22
      rw [t22', t23, e22, e23]
      exact g2.1 c c0 c1
    · have := h4.2.2.1 4
      rw [if_pos rfl] at this
      rw [this]; rfl
    · have := h4.2.2.1 6
      rw [if_neg (by decide), if_pos rfl] at this
      have e1 := SF_a h2 (a := 21) (Or.inr rfl)
      rw [this, e1.1, g2.2.2]
      omega
    · have g9 := g4 (K + 1)
      rw [show k + (K + 1) = k + 1 + K by omega] at g9
      have ez : illA (m 5015 24) (k + 1) = 0 := rfl
      rw [g9, ez, show m 5015 26 + ((k + 1 : Nat) : Int) = m 5015 26 + k + 1 by omega]
      cases hg : grd (bMV m) (bOB m) (m 5000 28).toNat K 0 (m 5015 26 + k + 1) with
      | none => rw [grd_m hg]
      | some x =>
        rw [ebb] at h3'
        rw [grd_y h3' hg, qe]
        have ebs : bst υ = (bbR (bMV m (illA (m 5015 24) k) (m 5015 26 + k)) (bOB m (illA (m 5015 24) k) (m 5015 26 + k)) (m 5000 28).toNat).1 := by
          show (bbR (bMv υ) (bOb υ) (pcnt υ 6 1).toNat).1 = _
          rw [ebb]
        rw [ebs, ebb]
        generalize bbR (bMV m (illA (m 5015 24) k) (m 5015 26 + k)) (bOB m (illA (m 5015 24) k) (m 5015 26 + k)) (m 5000 28).toNat = Y
        show some (r0 * 10 ^ (K + 1) + (Y.1 * 10 ^ K + x.1), q0 + (Y.2 + x.2)) = some ((10 * r0 + Y.1) * 10 ^ K + x.1, q0 + Y.2 + x.2)
        have a1 : (10 * r0 + Y.1) * 10 ^ K + x.1 = r0 * 10 ^ (K + 1) + (Y.1 * 10 ^ K + x.1) := by
          rw [Int.pow_succ]
          generalize (10 : Int) ^ K = P
          have a1 : (10 * r0 + Y.1) * P = 10 * (r0 * P) + Y.1 * P := by rw [Int.add_mul, Int.mul_assoc]
          have a2 : r0 * (P * 10) = 10 * (r0 * P) := by rw [← Int.mul_assoc, Int.mul_comm]
          omega
        rw [a1, Int.add_assoc q0]
/-- BORNE, when a PLAY is found for each EVENING -/
theorem borne_y {σ m : Mem} (hH : eqH σ m) (hA : eqA σ m 16 5015) (hx : mX m 5015) (hl : lawOk σ) (he : m 5015 26 ≤ 1000) {N : Nat} (N4 : N ≤ 4) {r q : Int} {τ : Mem} (h : bnX N σ r q τ) : bnF m N (m 5015 24) (m 5015 26) 0 0 (-1, -1) = (r, q) := by
  obtain ⟨g1, g2, g3, g4⟩ := bn_fwd hH hA hx hl he N r q τ N4 h
  have g5 := g4 0
  rw [Nat.add_zero] at g5
  have : grd (bMV m) (bOB m) (m 5000 28).toNat N (m 5015 24) (m 5015 26) = some (r, q) := by
    rw [g5]
    show some (r * 10 ^ 0 + 0, q + 0) = some (r, q)
    simp
  rw [bnF_gr hx, this, grA_s, if_neg (show ¬ (0 : Int) + q ≤ -1 by omega)]
  simp
/-- BORNE, when none is found for some EVENING -/
theorem borne_n {σ m : Mem} (hH : eqH σ m) (hA : eqA σ m 16 5015) (hx : mX m 5015) (hl : lawOk σ) (he : m 5015 26 ≤ 1000) {N k : Nat} (N4 : N ≤ 4) (hk : k < N) {r q : Int} {υ : Mem} (h : bnX k σ r q υ) (hb : bst υ = -1) : bnF m N (m 5015 24) (m 5015 26) 0 0 (-1, -1) = (-1, -1) := by
  obtain ⟨g1, g2, g3, g4⟩ := bn_fwd hH hA hx hl he k r q υ (by omega) h
  have n28 := hx.2.1.2.2.2.2.1
  have r24 := hx.2.2.2.1
  have r26 := hx.2.2.2.2.2.1
  have hHu := eqH_SA g1 hl hH
  have ib : 0 ≤ illA (m 5015 24) k ∧ illA (m 5015 24) k < 64 := by unfold illA; split <;> omega
  have ebb : bbR (bMv υ) (bOb υ) (pcnt υ 6 1).toNat = bbR (bMV m (illA (m 5015 24) k) (m 5015 26 + k)) (bOB m (illA (m 5015 24) k) (m 5015 26 + k)) (m 5000 28).toNat := by
    rw [hHu.2.1]
    exact bbR_cong _ (fun p a b => eqB_bb hx hHu g2 ib.1 ib.2 (by omega) (by omega) a (by omega))
  have hb' : (bbR (bMv υ) (bOb υ) (pcnt υ 6 1).toNat).1 = -1 := hb
  rw [ebb] at hb'
  have g5 := g4 (N - k - 1 + 1)
  rw [show k + (N - k - 1 + 1) = N by omega, grd_n hb'] at g5
  rw [bnF_gr hx, g5]
  rfl
