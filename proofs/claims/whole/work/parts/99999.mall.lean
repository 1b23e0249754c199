/-! the reference: all, peak, count -/
theorem wd_1919 : Cond.methodLink RX12 498 yX12_sumOf ∈ TBL := tb_tab (List.mem_of_getElem? (i := 1919) (by decide +kernel)) rfl
theorem wd_1922 : Cond.code yX12_sumOf cX12_sumOf 4 (some .int) ∈ TBL := tb_tab (List.mem_of_getElem? (i := 1922) (by decide +kernel)) rfl
theorem lk_X12_498 : amLk RX12 498 yX12_sumOf cX12_sumOf 4 (some .int) 1 := ⟨wd_1919, wd_12, wd_1922, by decide +kernel, by decide +kernel, by decide⟩
theorem wd_1921 : Cond.instanceMethod yX12_sumOf ∈ TBL := tb_tab (List.mem_of_getElem? (i := 1921) (by decide +kernel)) rfl
theorem sl_X12_sumOf : Cond.selects RX12 yX12_sumOf yX12_sumOf ∈ TBL := tb_sel (List.mem_of_getElem? (i := 103) (by decide +kernel)) rfl
def a_X12_peak : AC := [(0, vAload 0 1), (1, vI 0 2), (2, vPutI 28 0 5), (5, vAload 0 6), (6, vIload 1 7), (7, vCallM w_X12_isPlay 28 1 10), (10, vIfEq 23 13), (13, vIload 2 14), (14, vI2l 15), (15, vL 0 16), (16, vL 1 17), (17, vCallS w_X12_isIn 3 20), (20, vIfNe 25 23), (23, vI (-1) 24), (24, vIret), (25, vIload 2 26), (26, vI 1 27), (27, vIcNe 36 30), (30, vAload 0 31), (31, vIload 1 32), (32, vCallM w_X12_sumOf 28 1 35), (35, vIret), (36, vI 0 37), (37, vIstore 3 38), (38, vI 1 39), (39, vIstore 4 41), (41, vIload 4 43), (43, vAload 0 44), (44, vIload 1 45), (45, vCallM w_X12_minutes 28 1 48), (48, vIcGe 80 51), (51, vAload 0 52), (52, vIload 1 53), (53, vIload 4 55), (55, vCallM w_X12_feeling 28 2 58), (58, vAload 0 59), (59, vIload 1 60), (60, vIload 3 61), (61, vCallM w_X12_feeling 28 2 64), (64, vIcLe 72 67), (67, vIload 4 69), (69, vGoto 73), (72, vIload 3 73), (73, vIstore 3 74), (74, vIinc 4 1 77), (77, vGoto 41), (80, vIload 3 81), (81, vIret)]
theorem k_X12_peak_0 : look a_X12_peak 0 = vAload 0 1 := rfl
theorem k_X12_peak_1 : look a_X12_peak 1 = vI 0 2 := rfl
theorem k_X12_peak_2 : look a_X12_peak 2 = vPutI 28 0 5 := rfl
theorem k_X12_peak_5 : look a_X12_peak 5 = vAload 0 6 := rfl
theorem k_X12_peak_6 : look a_X12_peak 6 = vIload 1 7 := rfl
theorem k_X12_peak_7 : look a_X12_peak 7 = vCallM w_X12_isPlay 28 1 10 := rfl
theorem k_X12_peak_10 : look a_X12_peak 10 = vIfEq 23 13 := rfl
theorem k_X12_peak_13 : look a_X12_peak 13 = vIload 2 14 := rfl
theorem k_X12_peak_14 : look a_X12_peak 14 = vI2l 15 := rfl
theorem k_X12_peak_15 : look a_X12_peak 15 = vL 0 16 := rfl
theorem k_X12_peak_16 : look a_X12_peak 16 = vL 1 17 := rfl
theorem k_X12_peak_17 : look a_X12_peak 17 = vCallS w_X12_isIn 3 20 := rfl
theorem k_X12_peak_20 : look a_X12_peak 20 = vIfNe 25 23 := rfl
theorem k_X12_peak_23 : look a_X12_peak 23 = vI (-1) 24 := rfl
theorem k_X12_peak_24 : look a_X12_peak 24 = vIret := rfl
theorem k_X12_peak_25 : look a_X12_peak 25 = vIload 2 26 := rfl
theorem k_X12_peak_26 : look a_X12_peak 26 = vI 1 27 := rfl
theorem k_X12_peak_27 : look a_X12_peak 27 = vIcNe 36 30 := rfl
theorem k_X12_peak_30 : look a_X12_peak 30 = vAload 0 31 := rfl
theorem k_X12_peak_31 : look a_X12_peak 31 = vIload 1 32 := rfl
theorem k_X12_peak_32 : look a_X12_peak 32 = vCallM w_X12_sumOf 28 1 35 := rfl
theorem k_X12_peak_35 : look a_X12_peak 35 = vIret := rfl
theorem k_X12_peak_36 : look a_X12_peak 36 = vI 0 37 := rfl
theorem k_X12_peak_37 : look a_X12_peak 37 = vIstore 3 38 := rfl
theorem k_X12_peak_38 : look a_X12_peak 38 = vI 1 39 := rfl
theorem k_X12_peak_39 : look a_X12_peak 39 = vIstore 4 41 := rfl
theorem k_X12_peak_41 : look a_X12_peak 41 = vIload 4 43 := rfl
theorem k_X12_peak_43 : look a_X12_peak 43 = vAload 0 44 := rfl
theorem k_X12_peak_44 : look a_X12_peak 44 = vIload 1 45 := rfl
theorem k_X12_peak_45 : look a_X12_peak 45 = vCallM w_X12_minutes 28 1 48 := rfl
theorem k_X12_peak_48 : look a_X12_peak 48 = vIcGe 80 51 := rfl
theorem k_X12_peak_51 : look a_X12_peak 51 = vAload 0 52 := rfl
theorem k_X12_peak_52 : look a_X12_peak 52 = vIload 1 53 := rfl
theorem k_X12_peak_53 : look a_X12_peak 53 = vIload 4 55 := rfl
theorem k_X12_peak_55 : look a_X12_peak 55 = vCallM w_X12_feeling 28 2 58 := rfl
theorem k_X12_peak_58 : look a_X12_peak 58 = vAload 0 59 := rfl
theorem k_X12_peak_59 : look a_X12_peak 59 = vIload 1 60 := rfl
theorem k_X12_peak_60 : look a_X12_peak 60 = vIload 3 61 := rfl
theorem k_X12_peak_61 : look a_X12_peak 61 = vCallM w_X12_feeling 28 2 64 := rfl
theorem k_X12_peak_64 : look a_X12_peak 64 = vIcLe 72 67 := rfl
theorem k_X12_peak_67 : look a_X12_peak 67 = vIload 4 69 := rfl
theorem k_X12_peak_69 : look a_X12_peak 69 = vGoto 73 := rfl
theorem k_X12_peak_72 : look a_X12_peak 72 = vIload 3 73 := rfl
theorem k_X12_peak_73 : look a_X12_peak 73 = vIstore 3 74 := rfl
theorem k_X12_peak_74 : look a_X12_peak 74 = vIinc 4 1 77 := rfl
theorem k_X12_peak_77 : look a_X12_peak 77 = vGoto 41 := rfl
theorem k_X12_peak_80 : look a_X12_peak 80 = vIload 3 81 := rfl
theorem k_X12_peak_81 : look a_X12_peak 81 = vIret := rfl
theorem o_X12_peak {X : amX} (e1 : XT X = TT) (e2 : XD X = 2) (hB : amB X RX12 cX12_peak (some .int) 5) : ∀ pc, amOK X pc (look a_X12_peak pc) := by
  have hT : amTok (XT X) := e1 ▸ TT_ok
  refine look_ok ?_
  unfold a_X12_peak
  refine fc (ok_aload_n hB dX12_peak_0) ?_
  refine fc (ok_iconst hB dX12_peak_1) ?_
  refine fc (ok_putI hB hT fp_X12_111 rfl rfl rfl af_12_0 dX12_peak_2) ?_
  refine fc (ok_aload_n hB dX12_peak_5) ?_
  refine fc (ok_iload_n hB dX12_peak_6) ?_
  refine fc (ok_callM hB hT (e1 ▸ s_X12_isPlay) lk_X12_366 (by rw [e2]; decide) (c := 12) rfl rfl rfl wd_1652 sl_X12_isPlay dX12_peak_7) ?_
  refine fc (ok_if_eq hB (t := 23) (by decide) dX12_peak_10) ?_
  refine fc (ok_iload_n hB dX12_peak_13) ?_
  refine fc (ok_i2l hB dX12_peak_14) ?_
  refine fc (ok_lconst hB (z := 0) (by decide) dX12_peak_15) ?_
  refine fc (ok_lconst hB (z := 1) (by decide) dX12_peak_16) ?_
  refine fc (ok_callS hB (e1 ▸ s_X12_isIn) lk_X12_232 (by rw [e2]; decide) wd_1502 dX12_peak_17) ?_
  refine fc (ok_if_ne hB (t := 25) (by decide) dX12_peak_20) ?_
  refine fc (ok_iconst hB dX12_peak_23) ?_
  refine fc (ok_iret hB dX12_peak_24) ?_
  refine fc (ok_iload_n hB dX12_peak_25) ?_
  refine fc (ok_iconst hB dX12_peak_26) ?_
  refine fc (ok_icmp_ne hB (t := 36) (by decide) dX12_peak_27) ?_
  refine fc (ok_aload_n hB dX12_peak_30) ?_
  refine fc (ok_iload_n hB dX12_peak_31) ?_
  refine fc (ok_callM hB hT (e1 ▸ s_X12_sumOf) lk_X12_498 (by rw [e2]; decide) (c := 12) rfl rfl rfl wd_1921 sl_X12_sumOf dX12_peak_32) ?_
  refine fc (ok_iret hB dX12_peak_35) ?_
  refine fc (ok_iconst hB dX12_peak_36) ?_
  refine fc (ok_istore_n hB (by decide) dX12_peak_37) ?_
  refine fc (ok_iconst hB dX12_peak_38) ?_
  refine fc (ok_istore hB (by decide) dX12_peak_39) ?_
  refine fc (ok_iload hB dX12_peak_41) ?_
  refine fc (ok_aload_n hB dX12_peak_43) ?_
  refine fc (ok_iload_n hB dX12_peak_44) ?_
  refine fc (ok_callM hB hT (e1 ▸ s_X12_minutes) lk_X12_355 (by rw [e2]; decide) (c := 12) rfl rfl rfl wd_1702 sl_X12_minutes dX12_peak_45) ?_
  refine fc (ok_icmp_ge hB (t := 80) (by decide) dX12_peak_48) ?_
  refine fc (ok_aload_n hB dX12_peak_51) ?_
  refine fc (ok_iload_n hB dX12_peak_52) ?_
  refine fc (ok_iload hB dX12_peak_53) ?_
  refine fc (ok_callM hB hT (e1 ▸ s_X12_feeling) lk_X12_338 (by rw [e2]; decide) (c := 12) rfl rfl rfl wd_1714 sl_X12_feeling dX12_peak_55) ?_
  refine fc (ok_aload_n hB dX12_peak_58) ?_
  refine fc (ok_iload_n hB dX12_peak_59) ?_
  refine fc (ok_iload_n hB dX12_peak_60) ?_
  refine fc (ok_callM hB hT (e1 ▸ s_X12_feeling) lk_X12_338 (by rw [e2]; decide) (c := 12) rfl rfl rfl wd_1714 sl_X12_feeling dX12_peak_61) ?_
  refine fc (ok_icmp_le hB (t := 72) (by decide) dX12_peak_64) ?_
  refine fc (ok_iload hB dX12_peak_67) ?_
  refine fc (ok_goto hB (t := 73) (by decide) dX12_peak_69) ?_
  refine fc (ok_iload_n hB dX12_peak_72) ?_
  refine fc (ok_istore_n hB (by decide) dX12_peak_73) ?_
  refine fc (ok_iinc hB (by decide) dX12_peak_74) ?_
  refine fc (ok_goto hB (t := 41) (by decide) dX12_peak_77) ?_
  refine fc (ok_iload_n hB dX12_peak_80) ?_
  refine fc (ok_iret hB dX12_peak_81) ?_
  exact fn
def inv_pkm (σ : Mem) (p w : Int) (n pc : Nat) (ls st : List AV) (σ' : Mem) : Prop := pc = 41 ∧ st = [] ∧ σ' = th0 σ ∧ (0 ≤ p ∧ p < σ 5000 28) ∧ w = 0 ∧ ∃ k : Nat, ls = [(28, 5000), (0, p), (0, w), (0, fbest (mfe σ p) k), (0, (k : Int))] ∧ 1 ≤ k ∧ (k : Int) + n = max 1 (σ 5007 (4 * p + 3))
def w_X12_peak : WP := fun av σ Q => ∃ (p : Int) (w : Int), av = [(28, 5000), (0, p), (0, w)] ∧ (InR p ∧ InR w ∧ mX σ 5015 ∧ (¬ (0 ≤ p ∧ p < σ 5000 28 ∧ 0 ≤ w ∧ w ≤ 1) → Q (0, -1) (th0 σ)) ∧ (0 ≤ p ∧ p < σ 5000 28 ∧ w = 0 → Q (0, fbest (mfe σ p) (max 1 (σ 5007 (4 * p + 3))).toNat) (th0 σ)) ∧ (0 ≤ p ∧ p < σ 5000 28 ∧ w = 1 → Q (0, fsum (mfe σ p) (mMi σ p)) (th0 σ)))
theorem w_X12_peak_e (p : Int) (w : Int) (σ : Mem) (Q : AV → Mem → Prop) : w_X12_peak [(28, 5000), (0, p), (0, w)] σ Q = (InR p ∧ InR w ∧ mX σ 5015 ∧ (¬ (0 ≤ p ∧ p < σ 5000 28 ∧ 0 ≤ w ∧ w ≤ 1) → Q (0, -1) (th0 σ)) ∧ (0 ≤ p ∧ p < σ 5000 28 ∧ w = 0 → Q (0, fbest (mfe σ p) (max 1 (σ 5007 (4 * p + 3))).toNat) (th0 σ)) ∧ (0 ≤ p ∧ p < σ 5000 28 ∧ w = 1 → Q (0, fsum (mfe σ p) (mMi σ p)) (th0 σ))) := by
  apply propext; constructor
  · rintro ⟨p', w', h9, hb9⟩; cases h9; exact hb9
  · intro hb9; exact ⟨p, w, rfl, hb9⟩

set_option maxRecDepth 100000 in
set_option maxHeartbeats 4000000 in
theorem s_X12_peak : ∀ av σ Q, w_X12_peak av σ Q → amCall 2 0 0 TT yX12_peak cX12_peak 5 (some .int) av σ Q := by
  rintro av σ Q ⟨p, w, rfl, hp, hw, hx, h1, h2, h3⟩
  have e28 : th0 σ 5000 28 = σ 5000 28 := th_k σ (by decide)
  have t7 : th0 σ 5007 = σ 5007 := th_o σ (by decide)
  have n28 := hx.2.1.2.2.2.2.1
  have hpl := hx.2.1.2.2.2.2.2.1
  have ef : mfe (th0 σ) p = mfe σ p := by funext k; unfold mfe; rw [t7]
  have em : mMi (th0 σ) p = mMi σ p := by unfold mMi; rw [t7]
  refine am_m [41] (inv_pkm σ p w) (own := RX12) (A := look a_X12_peak) (fun X e1 e2 hB => o_X12_peak e1 e2 hB) rfl (by decide +kernel) rfl rfl ?_ ⟨60, ?_⟩ (w := 5)
  · rintro n pc ls st σ' ⟨rfl, rfl, rfl, hcd, hw0, k, rfl, hk, hn⟩
    have hM := hpl (4 * p + 3) (by omega) (by omega)
    have fb := fbest_b (mfe σ p) k
    have fs := fbest_s (mfe σ p) k
    refine ⟨60, ?_⟩
    by_cases cc : (k : Int) < σ 5007 (4 * p + 3)
    · have a1 := hpl (4 * p + (k : Int) % 3) (by omega) (by omega)
      have a2 := hpl (4 * p + fbest (mfe σ p) k % 3) (by omega) (by omega)
      have i9 : ∀ v, v = fbest (mfe σ p) (k + 1) → ∃ k', k' < n ∧ inv_pkm σ p w k' 41 [(28, 5000), (0, p), (0, w), (0, v), (0, (k : Int) + 1)] [] (th0 σ) := fun v q => ⟨n - 1, by omega, rfl, rfl, rfl, hcd, hw0, k + 1, by rw [q]; rfl, by omega, by omega⟩
      unfold mfe at fs
      generalize hB : fbest (mfe σ p) k = B at *
      unfold mfe at hB
      rw [hB] at fs
      have i1 : ¬ σ 5007 (4 * p + (k : Int) % 3) ≤ σ 5007 (4 * p + B % 3) → _ := fun q => i9 k (by unfold mfe; rw [fs, if_pos (by omega)])
      have i2 : σ 5007 (4 * p + (k : Int) % 3) ≤ σ 5007 (4 * p + B % 3) → _ := fun q => i9 B (by unfold mfe; rw [fs, if_neg (by omega)])
      simp only [↓reduceIte, inR_0, inR_1, inR_m, vSw2_e, swP_n, swP_c, vI_e, vL_e, vNull_e, vIload_e, vLload_e, vAload_e, vIstore_e, vLstore_e, vAstore_e, vIinc_e, vIadd_e, vIsub_e, vImul_e, vIand_e, vIor_e, vIxor_e, vIshl_e, vIshr_e, vIushr_e, vIdiv_e, vIrem_e, vLadd_e, vLsub_e, vLmul_e, vLand_e, vLor_e, vLxor_e, vLdiv_e, vLrem_e, vLushr_e, vLshl_e, vLcmp_e, vIneg_e, vI2l_e, vL2i_e, vI2b_e, vI2c_e, vDup_e, vPop_e, vDup2_e, vGoto_e, vIcEq_e, vIfEq_e, vIcNe_e, vIfNe_e, vIcLt_e, vIfLt_e, vIcGe_e, vIfGe_e, vIcGt_e, vIfGt_e, vIcLe_e, vIfLe_e, vNonnull_e, vSw_e, vGetI_e, vGetL_e, vGetR_e, vPutI_e, vPutZ_e, vPutL_e, vPutR_e, vIald_e, vIald_s, vLald_e, vBald_e, vBald_s, vAald_e, vIast_e, vLast_e, vBast_e, vAast_e, vAlen_e8, vAlen_e9, vAlen_e10, vAlen_e11, vAlen_e5, vAlen_e3, vGets_e, vCompact_e, vLdcS_e, vIret_e, vZret_e, vCret_e, vBret_e, vLret_e, vVret_e, vAret_e, vCallM_e0, vCallMV_e0, vCallS_e0, vCallSV_e0, vCallM_e1, vCallMV_e1, vCallS_e1, vCallSV_e1, vCallM_e2, vCallMV_e2, vCallS_e2, vCallSV_e2, vCallM_e3, vCallMV_e3, vCallS_e3, vCallSV_e3, vCallM_e4, vCallMV_e4, vCallS_e4, vCallSV_e4, vCallM_e5, vCallMV_e5, vCallS_e5, vCallSV_e5, vCallM_e6, vCallMV_e6, vCallS_e6, vCallSV_e6, vCallM_e7, vCallMV_e7, vCallS_e7, vCallSV_e7, vBad_e, vStrVal_e, vStrCod_e, vForm_e, vCallT_e0, vCallT_e1, vCallT_e2, vCopy_e, rf_0_0, rf_0_1, rf_0_2, rf_0_3, rf_0_4, rf_0_7, rf_0_10, rf_0_11, rf_0_12, rf_0_13, rf_0_14, rf_0_15, rf_0_16, rf_1_0, rf_3_0, rf_3_1, rf_6_0, rf_6_1, rf_9_0, rf_9_1, rf_9_3, rf_13_0, rf_13_1, rf_13_2, rf_16_0, rf_16_1, rf_16_2, rf_16_3, rf_21_0, rf_21_1, rf_21_2, rf_21_3, rf_26_0, rf_26_1, rf_26_2, rf_26_3, rf_26_4, rf_26_5, rf_26_6, rf_31_0, rf_31_2, rf_31_5, rf_31_6, rf_36_0, rf_36_1, rf_36_2, rf_36_3, rf_39_0, rf_39_1, rf_39_2, rf_41_0, rf_41_1, rf_41_2, rf_41_3, rf_5000_1, rf_5000_2, rf_5000_3, rf_5000_4, rf_5000_5, rf_5000_15, rf_5000_16, rf_5000_18, rf_5000_19, rf_5000_20, rf_5000_21, rf_5000_22, rf_5000_23, rf_5000_24, rf_5000_25, rf_5000_26, rf_5000_27, rf_5000_36, rf_5000_37, rf_5000_40, rf_5000_41, rf_5000_42, rf_5000_43, rf_5000_44, rf_5000_45, rf_5000_47, rf_5000_52, rf_5000_54, rf_5000_55, rf_100_0, rf_100_1, rf_103_0, rf_103_1, rf_106_0, rf_106_1, rf_109_0, rf_109_1, al_2, al_4, al_5, al_7, al_8, al_10, al_11, al_12, al_14, al_15, al_17, al_18, al_19, al_20, al_22, al_23, al_24, al_25, al_27, al_28, al_29, al_30, al_32, al_33, al_34, al_35, al_37, al_38, al_40, al_42, al_5001, al_5002, al_5003, al_5004, al_5005, al_5006, al_5007, al_5008, al_5009, al_5010, al_5011, al_5012, al_5013, al_5014, al_5015, al_5016, al_5017, al_5018, al_5019, al_5020, al_5021, al_5022, al_5023, al_5024, al_5025, al_5026, al_9000, al_101, al_102, al_104, al_105, al_107, al_108, al_110, al_111, vcs_e, lg_c0, lg_cs, lg_nil, set_c0, set_cs, okst_0, okst_s, acok_n, acok_c, List.contains_nil, List.contains_cons, Bool.or_false, Bool.false_or, Bool.false_eq_true, if_false, if_true, ite_self, ne_eq, true_and, and_true, not_false_eq_true, not_true_eq_false, false_imp_iff, true_imp_iff, Nat.ble_eq, Bool.and_eq_true, reduceCtorEq, or_false, false_or, or_true, true_or, false_and, and_false, and_self, Int.reduceLE, Int.reduceAdd, Int.reduceSub, Int.reduceMul, Int.reduceNeg, Int.reduceLT, Int.reduceEq, Int.reduceNe, Nat.reduceBEq, Nat.reduceBNe, Nat.reduceEqDiff, amCmp_in, amCmp_lt, amCmp_le, amCmp_gt, amCmp_ge, amCmp_eq, amCmp_ne, Nat.reduceLeDiff, Nat.reduceSub, Bool.and_true, Bool.true_and, Bool.and_self, Bool.or_true, Bool.true_or, isRf_3, isRf_4, isRf_5, isRf_8, isRf_9, isRf_10, isRf_11, isRf_15, isRf_16, isRf_17, isRf_18, isRf_19, isRf_20, isRf_21, isRf_22, isRf_23, isRf_24, isRf_25, isRf_26, isRf_27, isRf_28, k_X12_peak_0, k_X12_peak_1, k_X12_peak_2, k_X12_peak_5, k_X12_peak_6, k_X12_peak_7, k_X12_peak_10, k_X12_peak_13, k_X12_peak_14, k_X12_peak_15, k_X12_peak_16, k_X12_peak_17, k_X12_peak_20, k_X12_peak_23, k_X12_peak_24, k_X12_peak_25, k_X12_peak_26, k_X12_peak_27, k_X12_peak_30, k_X12_peak_31, k_X12_peak_32, k_X12_peak_35, k_X12_peak_36, k_X12_peak_37, k_X12_peak_38, k_X12_peak_39, k_X12_peak_41, k_X12_peak_43, k_X12_peak_44, k_X12_peak_45, k_X12_peak_48, k_X12_peak_51, k_X12_peak_52, k_X12_peak_53, k_X12_peak_55, k_X12_peak_58, k_X12_peak_59, k_X12_peak_60, k_X12_peak_61, k_X12_peak_64, k_X12_peak_67, k_X12_peak_69, k_X12_peak_72, k_X12_peak_73, k_X12_peak_74, k_X12_peak_77, k_X12_peak_80, k_X12_peak_81, w_X12_feeling_e, w_X12_isIn_e, w_X12_isPlay_e, w_X12_minutes_e, w_X12_sumOf_e, t7]
      repeat' (first | apply And.intro | intro _)
      all_goals first | omega | exact absurd trivial (by assumption) | exact i1 (by assumption) | exact i2 (by assumption)
    · rw [show (max 1 (σ 5007 (4 * p + 3))).toNat = k by omega] at h2
      have q8 := h2 ⟨hcd.1, hcd.2, hw0⟩
      simp only [↓reduceIte, inR_0, inR_1, inR_m, vSw2_e, swP_n, swP_c, vI_e, vL_e, vNull_e, vIload_e, vLload_e, vAload_e, vIstore_e, vLstore_e, vAstore_e, vIinc_e, vIadd_e, vIsub_e, vImul_e, vIand_e, vIor_e, vIxor_e, vIshl_e, vIshr_e, vIushr_e, vIdiv_e, vIrem_e, vLadd_e, vLsub_e, vLmul_e, vLand_e, vLor_e, vLxor_e, vLdiv_e, vLrem_e, vLushr_e, vLshl_e, vLcmp_e, vIneg_e, vI2l_e, vL2i_e, vI2b_e, vI2c_e, vDup_e, vPop_e, vDup2_e, vGoto_e, vIcEq_e, vIfEq_e, vIcNe_e, vIfNe_e, vIcLt_e, vIfLt_e, vIcGe_e, vIfGe_e, vIcGt_e, vIfGt_e, vIcLe_e, vIfLe_e, vNonnull_e, vSw_e, vGetI_e, vGetL_e, vGetR_e, vPutI_e, vPutZ_e, vPutL_e, vPutR_e, vIald_e, vIald_s, vLald_e, vBald_e, vBald_s, vAald_e, vIast_e, vLast_e, vBast_e, vAast_e, vAlen_e8, vAlen_e9, vAlen_e10, vAlen_e11, vAlen_e5, vAlen_e3, vGets_e, vCompact_e, vLdcS_e, vIret_e, vZret_e, vCret_e, vBret_e, vLret_e, vVret_e, vAret_e, vCallM_e0, vCallMV_e0, vCallS_e0, vCallSV_e0, vCallM_e1, vCallMV_e1, vCallS_e1, vCallSV_e1, vCallM_e2, vCallMV_e2, vCallS_e2, vCallSV_e2, vCallM_e3, vCallMV_e3, vCallS_e3, vCallSV_e3, vCallM_e4, vCallMV_e4, vCallS_e4, vCallSV_e4, vCallM_e5, vCallMV_e5, vCallS_e5, vCallSV_e5, vCallM_e6, vCallMV_e6, vCallS_e6, vCallSV_e6, vCallM_e7, vCallMV_e7, vCallS_e7, vCallSV_e7, vBad_e, vStrVal_e, vStrCod_e, vForm_e, vCallT_e0, vCallT_e1, vCallT_e2, vCopy_e, rf_0_0, rf_0_1, rf_0_2, rf_0_3, rf_0_4, rf_0_7, rf_0_10, rf_0_11, rf_0_12, rf_0_13, rf_0_14, rf_0_15, rf_0_16, rf_1_0, rf_3_0, rf_3_1, rf_6_0, rf_6_1, rf_9_0, rf_9_1, rf_9_3, rf_13_0, rf_13_1, rf_13_2, rf_16_0, rf_16_1, rf_16_2, rf_16_3, rf_21_0, rf_21_1, rf_21_2, rf_21_3, rf_26_0, rf_26_1, rf_26_2, rf_26_3, rf_26_4, rf_26_5, rf_26_6, rf_31_0, rf_31_2, rf_31_5, rf_31_6, rf_36_0, rf_36_1, rf_36_2, rf_36_3, rf_39_0, rf_39_1, rf_39_2, rf_41_0, rf_41_1, rf_41_2, rf_41_3, rf_5000_1, rf_5000_2, rf_5000_3, rf_5000_4, rf_5000_5, rf_5000_15, rf_5000_16, rf_5000_18, rf_5000_19, rf_5000_20, rf_5000_21, rf_5000_22, rf_5000_23, rf_5000_24, rf_5000_25, rf_5000_26, rf_5000_27, rf_5000_36, rf_5000_37, rf_5000_40, rf_5000_41, rf_5000_42, rf_5000_43, rf_5000_44, rf_5000_45, rf_5000_47, rf_5000_52, rf_5000_54, rf_5000_55, rf_100_0, rf_100_1, rf_103_0, rf_103_1, rf_106_0, rf_106_1, rf_109_0, rf_109_1, al_2, al_4, al_5, al_7, al_8, al_10, al_11, al_12, al_14, al_15, al_17, al_18, al_19, al_20, al_22, al_23, al_24, al_25, al_27, al_28, al_29, al_30, al_32, al_33, al_34, al_35, al_37, al_38, al_40, al_42, al_5001, al_5002, al_5003, al_5004, al_5005, al_5006, al_5007, al_5008, al_5009, al_5010, al_5011, al_5012, al_5013, al_5014, al_5015, al_5016, al_5017, al_5018, al_5019, al_5020, al_5021, al_5022, al_5023, al_5024, al_5025, al_5026, al_9000, al_101, al_102, al_104, al_105, al_107, al_108, al_110, al_111, vcs_e, lg_c0, lg_cs, lg_nil, set_c0, set_cs, okst_0, okst_s, acok_n, acok_c, List.contains_nil, List.contains_cons, Bool.or_false, Bool.false_or, Bool.false_eq_true, if_false, if_true, ite_self, ne_eq, true_and, and_true, not_false_eq_true, not_true_eq_false, false_imp_iff, true_imp_iff, Nat.ble_eq, Bool.and_eq_true, reduceCtorEq, or_false, false_or, or_true, true_or, false_and, and_false, and_self, Int.reduceLE, Int.reduceAdd, Int.reduceSub, Int.reduceMul, Int.reduceNeg, Int.reduceLT, Int.reduceEq, Int.reduceNe, Nat.reduceBEq, Nat.reduceBNe, Nat.reduceEqDiff, amCmp_in, amCmp_lt, amCmp_le, amCmp_gt, amCmp_ge, amCmp_eq, amCmp_ne, Nat.reduceLeDiff, Nat.reduceSub, Bool.and_true, Bool.true_and, Bool.and_self, Bool.or_true, Bool.true_or, isRf_3, isRf_4, isRf_5, isRf_8, isRf_9, isRf_10, isRf_11, isRf_15, isRf_16, isRf_17, isRf_18, isRf_19, isRf_20, isRf_21, isRf_22, isRf_23, isRf_24, isRf_25, isRf_26, isRf_27, isRf_28, k_X12_peak_0, k_X12_peak_1, k_X12_peak_2, k_X12_peak_5, k_X12_peak_6, k_X12_peak_7, k_X12_peak_10, k_X12_peak_13, k_X12_peak_14, k_X12_peak_15, k_X12_peak_16, k_X12_peak_17, k_X12_peak_20, k_X12_peak_23, k_X12_peak_24, k_X12_peak_25, k_X12_peak_26, k_X12_peak_27, k_X12_peak_30, k_X12_peak_31, k_X12_peak_32, k_X12_peak_35, k_X12_peak_36, k_X12_peak_37, k_X12_peak_38, k_X12_peak_39, k_X12_peak_41, k_X12_peak_43, k_X12_peak_44, k_X12_peak_45, k_X12_peak_48, k_X12_peak_51, k_X12_peak_52, k_X12_peak_53, k_X12_peak_55, k_X12_peak_58, k_X12_peak_59, k_X12_peak_60, k_X12_peak_61, k_X12_peak_64, k_X12_peak_67, k_X12_peak_69, k_X12_peak_72, k_X12_peak_73, k_X12_peak_74, k_X12_peak_77, k_X12_peak_80, k_X12_peak_81, w_X12_feeling_e, w_X12_isIn_e, w_X12_isPlay_e, w_X12_minutes_e, w_X12_sumOf_e, t7]
      repeat' (first | apply And.intro | intro _)
      all_goals first | omega | exact absurd trivial (by assumption) | exact q8
  · change vcs _ _ _ _ 60 0 [(28, 5000), (0, p), (0, w), (6, 0), (6, 0)] [] σ
    by_cases d : 0 ≤ p ∧ p < σ 5000 28
    · have hM := hpl (4 * p + 3) (by omega) (by omega)
      by_cases g : 0 ≤ w ∧ w ≤ 1
      · by_cases w1 : w = 1
        · have q8 := h3 ⟨d.1, d.2, w1⟩
          subst w1
          simp only [↓reduceIte, inR_0, inR_1, inR_m, vSw2_e, swP_n, swP_c, vI_e, vL_e, vNull_e, vIload_e, vLload_e, vAload_e, vIstore_e, vLstore_e, vAstore_e, vIinc_e, vIadd_e, vIsub_e, vImul_e, vIand_e, vIor_e, vIxor_e, vIshl_e, vIshr_e, vIushr_e, vIdiv_e, vIrem_e, vLadd_e, vLsub_e, vLmul_e, vLand_e, vLor_e, vLxor_e, vLdiv_e, vLrem_e, vLushr_e, vLshl_e, vLcmp_e, vIneg_e, vI2l_e, vL2i_e, vI2b_e, vI2c_e, vDup_e, vPop_e, vDup2_e, vGoto_e, vIcEq_e, vIfEq_e, vIcNe_e, vIfNe_e, vIcLt_e, vIfLt_e, vIcGe_e, vIfGe_e, vIcGt_e, vIfGt_e, vIcLe_e, vIfLe_e, vNonnull_e, vSw_e, vGetI_e, vGetL_e, vGetR_e, vPutI_e, vPutZ_e, vPutL_e, vPutR_e, vIald_e, vIald_s, vLald_e, vBald_e, vBald_s, vAald_e, vIast_e, vLast_e, vBast_e, vAast_e, vAlen_e8, vAlen_e9, vAlen_e10, vAlen_e11, vAlen_e5, vAlen_e3, vGets_e, vCompact_e, vLdcS_e, vIret_e, vZret_e, vCret_e, vBret_e, vLret_e, vVret_e, vAret_e, vCallM_e0, vCallMV_e0, vCallS_e0, vCallSV_e0, vCallM_e1, vCallMV_e1, vCallS_e1, vCallSV_e1, vCallM_e2, vCallMV_e2, vCallS_e2, vCallSV_e2, vCallM_e3, vCallMV_e3, vCallS_e3, vCallSV_e3, vCallM_e4, vCallMV_e4, vCallS_e4, vCallSV_e4, vCallM_e5, vCallMV_e5, vCallS_e5, vCallSV_e5, vCallM_e6, vCallMV_e6, vCallS_e6, vCallSV_e6, vCallM_e7, vCallMV_e7, vCallS_e7, vCallSV_e7, vBad_e, vStrVal_e, vStrCod_e, vForm_e, vCallT_e0, vCallT_e1, vCallT_e2, vCopy_e, rf_0_0, rf_0_1, rf_0_2, rf_0_3, rf_0_4, rf_0_7, rf_0_10, rf_0_11, rf_0_12, rf_0_13, rf_0_14, rf_0_15, rf_0_16, rf_1_0, rf_3_0, rf_3_1, rf_6_0, rf_6_1, rf_9_0, rf_9_1, rf_9_3, rf_13_0, rf_13_1, rf_13_2, rf_16_0, rf_16_1, rf_16_2, rf_16_3, rf_21_0, rf_21_1, rf_21_2, rf_21_3, rf_26_0, rf_26_1, rf_26_2, rf_26_3, rf_26_4, rf_26_5, rf_26_6, rf_31_0, rf_31_2, rf_31_5, rf_31_6, rf_36_0, rf_36_1, rf_36_2, rf_36_3, rf_39_0, rf_39_1, rf_39_2, rf_41_0, rf_41_1, rf_41_2, rf_41_3, rf_5000_1, rf_5000_2, rf_5000_3, rf_5000_4, rf_5000_5, rf_5000_15, rf_5000_16, rf_5000_18, rf_5000_19, rf_5000_20, rf_5000_21, rf_5000_22, rf_5000_23, rf_5000_24, rf_5000_25, rf_5000_26, rf_5000_27, rf_5000_36, rf_5000_37, rf_5000_40, rf_5000_41, rf_5000_42, rf_5000_43, rf_5000_44, rf_5000_45, rf_5000_47, rf_5000_52, rf_5000_54, rf_5000_55, rf_100_0, rf_100_1, rf_103_0, rf_103_1, rf_106_0, rf_106_1, rf_109_0, rf_109_1, al_2, al_4, al_5, al_7, al_8, al_10, al_11, al_12, al_14, al_15, al_17, al_18, al_19, al_20, al_22, al_23, al_24, al_25, al_27, al_28, al_29, al_30, al_32, al_33, al_34, al_35, al_37, al_38, al_40, al_42, al_5001, al_5002, al_5003, al_5004, al_5005, al_5006, al_5007, al_5008, al_5009, al_5010, al_5011, al_5012, al_5013, al_5014, al_5015, al_5016, al_5017, al_5018, al_5019, al_5020, al_5021, al_5022, al_5023, al_5024, al_5025, al_5026, al_9000, al_101, al_102, al_104, al_105, al_107, al_108, al_110, al_111, vcs_e, lg_c0, lg_cs, lg_nil, set_c0, set_cs, okst_0, okst_s, acok_n, acok_c, List.contains_nil, List.contains_cons, Bool.or_false, Bool.false_or, Bool.false_eq_true, if_false, if_true, ite_self, ne_eq, true_and, and_true, not_false_eq_true, not_true_eq_false, false_imp_iff, true_imp_iff, Nat.ble_eq, Bool.and_eq_true, reduceCtorEq, or_false, false_or, or_true, true_or, false_and, and_false, and_self, Int.reduceLE, Int.reduceAdd, Int.reduceSub, Int.reduceMul, Int.reduceNeg, Int.reduceLT, Int.reduceEq, Int.reduceNe, Nat.reduceBEq, Nat.reduceBNe, Nat.reduceEqDiff, amCmp_in, amCmp_lt, amCmp_le, amCmp_gt, amCmp_ge, amCmp_eq, amCmp_ne, Nat.reduceLeDiff, Nat.reduceSub, Bool.and_true, Bool.true_and, Bool.and_self, Bool.or_true, Bool.true_or, isRf_3, isRf_4, isRf_5, isRf_8, isRf_9, isRf_10, isRf_11, isRf_15, isRf_16, isRf_17, isRf_18, isRf_19, isRf_20, isRf_21, isRf_22, isRf_23, isRf_24, isRf_25, isRf_26, isRf_27, isRf_28, k_X12_peak_0, k_X12_peak_1, k_X12_peak_2, k_X12_peak_5, k_X12_peak_6, k_X12_peak_7, k_X12_peak_10, k_X12_peak_13, k_X12_peak_14, k_X12_peak_15, k_X12_peak_16, k_X12_peak_17, k_X12_peak_20, k_X12_peak_23, k_X12_peak_24, k_X12_peak_25, k_X12_peak_26, k_X12_peak_27, k_X12_peak_30, k_X12_peak_31, k_X12_peak_32, k_X12_peak_35, k_X12_peak_36, k_X12_peak_37, k_X12_peak_38, k_X12_peak_39, k_X12_peak_41, k_X12_peak_43, k_X12_peak_44, k_X12_peak_45, k_X12_peak_48, k_X12_peak_51, k_X12_peak_52, k_X12_peak_53, k_X12_peak_55, k_X12_peak_58, k_X12_peak_59, k_X12_peak_60, k_X12_peak_61, k_X12_peak_64, k_X12_peak_67, k_X12_peak_69, k_X12_peak_72, k_X12_peak_73, k_X12_peak_74, k_X12_peak_77, k_X12_peak_80, k_X12_peak_81, w_X12_feeling_e, w_X12_isIn_e, w_X12_isPlay_e, w_X12_minutes_e, w_X12_sumOf_e, e28, t7, ef, em, if_pos d, if_pos g]
          repeat' (first | apply And.intro | intro _)
          all_goals first | omega | exact absurd trivial (by assumption) | exact q8
        · have w0 : w = 0 := by omega
          subst w0
          have i9 : ∃ k', inv_pkm σ p 0 k' 41 [(28, 5000), (0, p), (0, 0), (0, 0), (0, 1)] [] (th0 σ) := ⟨(max 1 (σ 5007 (4 * p + 3)) - 1).toNat, rfl, rfl, rfl, d, rfl, 1, by rw [fbest_1]; rfl, by omega, by omega⟩
          simp only [↓reduceIte, inR_0, inR_1, inR_m, vSw2_e, swP_n, swP_c, vI_e, vL_e, vNull_e, vIload_e, vLload_e, vAload_e, vIstore_e, vLstore_e, vAstore_e, vIinc_e, vIadd_e, vIsub_e, vImul_e, vIand_e, vIor_e, vIxor_e, vIshl_e, vIshr_e, vIushr_e, vIdiv_e, vIrem_e, vLadd_e, vLsub_e, vLmul_e, vLand_e, vLor_e, vLxor_e, vLdiv_e, vLrem_e, vLushr_e, vLshl_e, vLcmp_e, vIneg_e, vI2l_e, vL2i_e, vI2b_e, vI2c_e, vDup_e, vPop_e, vDup2_e, vGoto_e, vIcEq_e, vIfEq_e, vIcNe_e, vIfNe_e, vIcLt_e, vIfLt_e, vIcGe_e, vIfGe_e, vIcGt_e, vIfGt_e, vIcLe_e, vIfLe_e, vNonnull_e, vSw_e, vGetI_e, vGetL_e, vGetR_e, vPutI_e, vPutZ_e, vPutL_e, vPutR_e, vIald_e, vIald_s, vLald_e, vBald_e, vBald_s, vAald_e, vIast_e, vLast_e, vBast_e, vAast_e, vAlen_e8, vAlen_e9, vAlen_e10, vAlen_e11, vAlen_e5, vAlen_e3, vGets_e, vCompact_e, vLdcS_e, vIret_e, vZret_e, vCret_e, vBret_e, vLret_e, vVret_e, vAret_e, vCallM_e0, vCallMV_e0, vCallS_e0, vCallSV_e0, vCallM_e1, vCallMV_e1, vCallS_e1, vCallSV_e1, vCallM_e2, vCallMV_e2, vCallS_e2, vCallSV_e2, vCallM_e3, vCallMV_e3, vCallS_e3, vCallSV_e3, vCallM_e4, vCallMV_e4, vCallS_e4, vCallSV_e4, vCallM_e5, vCallMV_e5, vCallS_e5, vCallSV_e5, vCallM_e6, vCallMV_e6, vCallS_e6, vCallSV_e6, vCallM_e7, vCallMV_e7, vCallS_e7, vCallSV_e7, vBad_e, vStrVal_e, vStrCod_e, vForm_e, vCallT_e0, vCallT_e1, vCallT_e2, vCopy_e, rf_0_0, rf_0_1, rf_0_2, rf_0_3, rf_0_4, rf_0_7, rf_0_10, rf_0_11, rf_0_12, rf_0_13, rf_0_14, rf_0_15, rf_0_16, rf_1_0, rf_3_0, rf_3_1, rf_6_0, rf_6_1, rf_9_0, rf_9_1, rf_9_3, rf_13_0, rf_13_1, rf_13_2, rf_16_0, rf_16_1, rf_16_2, rf_16_3, rf_21_0, rf_21_1, rf_21_2, rf_21_3, rf_26_0, rf_26_1, rf_26_2, rf_26_3, rf_26_4, rf_26_5, rf_26_6, rf_31_0, rf_31_2, rf_31_5, rf_31_6, rf_36_0, rf_36_1, rf_36_2, rf_36_3, rf_39_0, rf_39_1, rf_39_2, rf_41_0, rf_41_1, rf_41_2, rf_41_3, rf_5000_1, rf_5000_2, rf_5000_3, rf_5000_4, rf_5000_5, rf_5000_15, rf_5000_16, rf_5000_18, rf_5000_19, rf_5000_20, rf_5000_21, rf_5000_22, rf_5000_23, rf_5000_24, rf_5000_25, rf_5000_26, rf_5000_27, rf_5000_36, rf_5000_37, rf_5000_40, rf_5000_41, rf_5000_42, rf_5000_43, rf_5000_44, rf_5000_45, rf_5000_47, rf_5000_52, rf_5000_54, rf_5000_55, rf_100_0, rf_100_1, rf_103_0, rf_103_1, rf_106_0, rf_106_1, rf_109_0, rf_109_1, al_2, al_4, al_5, al_7, al_8, al_10, al_11, al_12, al_14, al_15, al_17, al_18, al_19, al_20, al_22, al_23, al_24, al_25, al_27, al_28, al_29, al_30, al_32, al_33, al_34, al_35, al_37, al_38, al_40, al_42, al_5001, al_5002, al_5003, al_5004, al_5005, al_5006, al_5007, al_5008, al_5009, al_5010, al_5011, al_5012, al_5013, al_5014, al_5015, al_5016, al_5017, al_5018, al_5019, al_5020, al_5021, al_5022, al_5023, al_5024, al_5025, al_5026, al_9000, al_101, al_102, al_104, al_105, al_107, al_108, al_110, al_111, vcs_e, lg_c0, lg_cs, lg_nil, set_c0, set_cs, okst_0, okst_s, acok_n, acok_c, List.contains_nil, List.contains_cons, Bool.or_false, Bool.false_or, Bool.false_eq_true, if_false, if_true, ite_self, ne_eq, true_and, and_true, not_false_eq_true, not_true_eq_false, false_imp_iff, true_imp_iff, Nat.ble_eq, Bool.and_eq_true, reduceCtorEq, or_false, false_or, or_true, true_or, false_and, and_false, and_self, Int.reduceLE, Int.reduceAdd, Int.reduceSub, Int.reduceMul, Int.reduceNeg, Int.reduceLT, Int.reduceEq, Int.reduceNe, Nat.reduceBEq, Nat.reduceBNe, Nat.reduceEqDiff, amCmp_in, amCmp_lt, amCmp_le, amCmp_gt, amCmp_ge, amCmp_eq, amCmp_ne, Nat.reduceLeDiff, Nat.reduceSub, Bool.and_true, Bool.true_and, Bool.and_self, Bool.or_true, Bool.true_or, isRf_3, isRf_4, isRf_5, isRf_8, isRf_9, isRf_10, isRf_11, isRf_15, isRf_16, isRf_17, isRf_18, isRf_19, isRf_20, isRf_21, isRf_22, isRf_23, isRf_24, isRf_25, isRf_26, isRf_27, isRf_28, k_X12_peak_0, k_X12_peak_1, k_X12_peak_2, k_X12_peak_5, k_X12_peak_6, k_X12_peak_7, k_X12_peak_10, k_X12_peak_13, k_X12_peak_14, k_X12_peak_15, k_X12_peak_16, k_X12_peak_17, k_X12_peak_20, k_X12_peak_23, k_X12_peak_24, k_X12_peak_25, k_X12_peak_26, k_X12_peak_27, k_X12_peak_30, k_X12_peak_31, k_X12_peak_32, k_X12_peak_35, k_X12_peak_36, k_X12_peak_37, k_X12_peak_38, k_X12_peak_39, k_X12_peak_41, k_X12_peak_43, k_X12_peak_44, k_X12_peak_45, k_X12_peak_48, k_X12_peak_51, k_X12_peak_52, k_X12_peak_53, k_X12_peak_55, k_X12_peak_58, k_X12_peak_59, k_X12_peak_60, k_X12_peak_61, k_X12_peak_64, k_X12_peak_67, k_X12_peak_69, k_X12_peak_72, k_X12_peak_73, k_X12_peak_74, k_X12_peak_77, k_X12_peak_80, k_X12_peak_81, w_X12_feeling_e, w_X12_isIn_e, w_X12_isPlay_e, w_X12_minutes_e, w_X12_sumOf_e, e28, t7, if_pos d, if_pos g]
          repeat' (first | apply And.intro | intro _)
          all_goals first | omega | exact absurd trivial (by assumption) | exact i9
      · have q8 := h1 (by omega)
        simp only [↓reduceIte, inR_0, inR_1, inR_m, vSw2_e, swP_n, swP_c, vI_e, vL_e, vNull_e, vIload_e, vLload_e, vAload_e, vIstore_e, vLstore_e, vAstore_e, vIinc_e, vIadd_e, vIsub_e, vImul_e, vIand_e, vIor_e, vIxor_e, vIshl_e, vIshr_e, vIushr_e, vIdiv_e, vIrem_e, vLadd_e, vLsub_e, vLmul_e, vLand_e, vLor_e, vLxor_e, vLdiv_e, vLrem_e, vLushr_e, vLshl_e, vLcmp_e, vIneg_e, vI2l_e, vL2i_e, vI2b_e, vI2c_e, vDup_e, vPop_e, vDup2_e, vGoto_e, vIcEq_e, vIfEq_e, vIcNe_e, vIfNe_e, vIcLt_e, vIfLt_e, vIcGe_e, vIfGe_e, vIcGt_e, vIfGt_e, vIcLe_e, vIfLe_e, vNonnull_e, vSw_e, vGetI_e, vGetL_e, vGetR_e, vPutI_e, vPutZ_e, vPutL_e, vPutR_e, vIald_e, vIald_s, vLald_e, vBald_e, vBald_s, vAald_e, vIast_e, vLast_e, vBast_e, vAast_e, vAlen_e8, vAlen_e9, vAlen_e10, vAlen_e11, vAlen_e5, vAlen_e3, vGets_e, vCompact_e, vLdcS_e, vIret_e, vZret_e, vCret_e, vBret_e, vLret_e, vVret_e, vAret_e, vCallM_e0, vCallMV_e0, vCallS_e0, vCallSV_e0, vCallM_e1, vCallMV_e1, vCallS_e1, vCallSV_e1, vCallM_e2, vCallMV_e2, vCallS_e2, vCallSV_e2, vCallM_e3, vCallMV_e3, vCallS_e3, vCallSV_e3, vCallM_e4, vCallMV_e4, vCallS_e4, vCallSV_e4, vCallM_e5, vCallMV_e5, vCallS_e5, vCallSV_e5, vCallM_e6, vCallMV_e6, vCallS_e6, vCallSV_e6, vCallM_e7, vCallMV_e7, vCallS_e7, vCallSV_e7, vBad_e, vStrVal_e, vStrCod_e, vForm_e, vCallT_e0, vCallT_e1, vCallT_e2, vCopy_e, rf_0_0, rf_0_1, rf_0_2, rf_0_3, rf_0_4, rf_0_7, rf_0_10, rf_0_11, rf_0_12, rf_0_13, rf_0_14, rf_0_15, rf_0_16, rf_1_0, rf_3_0, rf_3_1, rf_6_0, rf_6_1, rf_9_0, rf_9_1, rf_9_3, rf_13_0, rf_13_1, rf_13_2, rf_16_0, rf_16_1, rf_16_2, rf_16_3, rf_21_0, rf_21_1, rf_21_2, rf_21_3, rf_26_0, rf_26_1, rf_26_2, rf_26_3, rf_26_4, rf_26_5, rf_26_6, rf_31_0, rf_31_2, rf_31_5, rf_31_6, rf_36_0, rf_36_1, rf_36_2, rf_36_3, rf_39_0, rf_39_1, rf_39_2, rf_41_0, rf_41_1, rf_41_2, rf_41_3, rf_5000_1, rf_5000_2, rf_5000_3, rf_5000_4, rf_5000_5, rf_5000_15, rf_5000_16, rf_5000_18, rf_5000_19, rf_5000_20, rf_5000_21, rf_5000_22, rf_5000_23, rf_5000_24, rf_5000_25, rf_5000_26, rf_5000_27, rf_5000_36, rf_5000_37, rf_5000_40, rf_5000_41, rf_5000_42, rf_5000_43, rf_5000_44, rf_5000_45, rf_5000_47, rf_5000_52, rf_5000_54, rf_5000_55, rf_100_0, rf_100_1, rf_103_0, rf_103_1, rf_106_0, rf_106_1, rf_109_0, rf_109_1, al_2, al_4, al_5, al_7, al_8, al_10, al_11, al_12, al_14, al_15, al_17, al_18, al_19, al_20, al_22, al_23, al_24, al_25, al_27, al_28, al_29, al_30, al_32, al_33, al_34, al_35, al_37, al_38, al_40, al_42, al_5001, al_5002, al_5003, al_5004, al_5005, al_5006, al_5007, al_5008, al_5009, al_5010, al_5011, al_5012, al_5013, al_5014, al_5015, al_5016, al_5017, al_5018, al_5019, al_5020, al_5021, al_5022, al_5023, al_5024, al_5025, al_5026, al_9000, al_101, al_102, al_104, al_105, al_107, al_108, al_110, al_111, vcs_e, lg_c0, lg_cs, lg_nil, set_c0, set_cs, okst_0, okst_s, acok_n, acok_c, List.contains_nil, List.contains_cons, Bool.or_false, Bool.false_or, Bool.false_eq_true, if_false, if_true, ite_self, ne_eq, true_and, and_true, not_false_eq_true, not_true_eq_false, false_imp_iff, true_imp_iff, Nat.ble_eq, Bool.and_eq_true, reduceCtorEq, or_false, false_or, or_true, true_or, false_and, and_false, and_self, Int.reduceLE, Int.reduceAdd, Int.reduceSub, Int.reduceMul, Int.reduceNeg, Int.reduceLT, Int.reduceEq, Int.reduceNe, Nat.reduceBEq, Nat.reduceBNe, Nat.reduceEqDiff, amCmp_in, amCmp_lt, amCmp_le, amCmp_gt, amCmp_ge, amCmp_eq, amCmp_ne, Nat.reduceLeDiff, Nat.reduceSub, Bool.and_true, Bool.true_and, Bool.and_self, Bool.or_true, Bool.true_or, isRf_3, isRf_4, isRf_5, isRf_8, isRf_9, isRf_10, isRf_11, isRf_15, isRf_16, isRf_17, isRf_18, isRf_19, isRf_20, isRf_21, isRf_22, isRf_23, isRf_24, isRf_25, isRf_26, isRf_27, isRf_28, k_X12_peak_0, k_X12_peak_1, k_X12_peak_2, k_X12_peak_5, k_X12_peak_6, k_X12_peak_7, k_X12_peak_10, k_X12_peak_13, k_X12_peak_14, k_X12_peak_15, k_X12_peak_16, k_X12_peak_17, k_X12_peak_20, k_X12_peak_23, k_X12_peak_24, k_X12_peak_25, k_X12_peak_26, k_X12_peak_27, k_X12_peak_30, k_X12_peak_31, k_X12_peak_32, k_X12_peak_35, k_X12_peak_36, k_X12_peak_37, k_X12_peak_38, k_X12_peak_39, k_X12_peak_41, k_X12_peak_43, k_X12_peak_44, k_X12_peak_45, k_X12_peak_48, k_X12_peak_51, k_X12_peak_52, k_X12_peak_53, k_X12_peak_55, k_X12_peak_58, k_X12_peak_59, k_X12_peak_60, k_X12_peak_61, k_X12_peak_64, k_X12_peak_67, k_X12_peak_69, k_X12_peak_72, k_X12_peak_73, k_X12_peak_74, k_X12_peak_77, k_X12_peak_80, k_X12_peak_81, w_X12_feeling_e, w_X12_isIn_e, w_X12_isPlay_e, w_X12_minutes_e, w_X12_sumOf_e, e28, t7, if_pos d, if_neg g]
        repeat' (first | apply And.intro | intro _)
        all_goals first | omega | exact absurd trivial (by assumption) | exact q8
    · have q8 := h1 (by omega)
      simp only [↓reduceIte, inR_0, inR_1, inR_m, vSw2_e, swP_n, swP_c, vI_e, vL_e, vNull_e, vIload_e, vLload_e, vAload_e, vIstore_e, vLstore_e, vAstore_e, vIinc_e, vIadd_e, vIsub_e, vImul_e, vIand_e, vIor_e, vIxor_e, vIshl_e, vIshr_e, vIushr_e, vIdiv_e, vIrem_e, vLadd_e, vLsub_e, vLmul_e, vLand_e, vLor_e, vLxor_e, vLdiv_e, vLrem_e, vLushr_e, vLshl_e, vLcmp_e, vIneg_e, vI2l_e, vL2i_e, vI2b_e, vI2c_e, vDup_e, vPop_e, vDup2_e, vGoto_e, vIcEq_e, vIfEq_e, vIcNe_e, vIfNe_e, vIcLt_e, vIfLt_e, vIcGe_e, vIfGe_e, vIcGt_e, vIfGt_e, vIcLe_e, vIfLe_e, vNonnull_e, vSw_e, vGetI_e, vGetL_e, vGetR_e, vPutI_e, vPutZ_e, vPutL_e, vPutR_e, vIald_e, vIald_s, vLald_e, vBald_e, vBald_s, vAald_e, vIast_e, vLast_e, vBast_e, vAast_e, vAlen_e8, vAlen_e9, vAlen_e10, vAlen_e11, vAlen_e5, vAlen_e3, vGets_e, vCompact_e, vLdcS_e, vIret_e, vZret_e, vCret_e, vBret_e, vLret_e, vVret_e, vAret_e, vCallM_e0, vCallMV_e0, vCallS_e0, vCallSV_e0, vCallM_e1, vCallMV_e1, vCallS_e1, vCallSV_e1, vCallM_e2, vCallMV_e2, vCallS_e2, vCallSV_e2, vCallM_e3, vCallMV_e3, vCallS_e3, vCallSV_e3, vCallM_e4, vCallMV_e4, vCallS_e4, vCallSV_e4, vCallM_e5, vCallMV_e5, vCallS_e5, vCallSV_e5, vCallM_e6, vCallMV_e6, vCallS_e6, vCallSV_e6, vCallM_e7, vCallMV_e7, vCallS_e7, vCallSV_e7, vBad_e, vStrVal_e, vStrCod_e, vForm_e, vCallT_e0, vCallT_e1, vCallT_e2, vCopy_e, rf_0_0, rf_0_1, rf_0_2, rf_0_3, rf_0_4, rf_0_7, rf_0_10, rf_0_11, rf_0_12, rf_0_13, rf_0_14, rf_0_15, rf_0_16, rf_1_0, rf_3_0, rf_3_1, rf_6_0, rf_6_1, rf_9_0, rf_9_1, rf_9_3, rf_13_0, rf_13_1, rf_13_2, rf_16_0, rf_16_1, rf_16_2, rf_16_3, rf_21_0, rf_21_1, rf_21_2, rf_21_3, rf_26_0, rf_26_1, rf_26_2, rf_26_3, rf_26_4, rf_26_5, rf_26_6, rf_31_0, rf_31_2, rf_31_5, rf_31_6, rf_36_0, rf_36_1, rf_36_2, rf_36_3, rf_39_0, rf_39_1, rf_39_2, rf_41_0, rf_41_1, rf_41_2, rf_41_3, rf_5000_1, rf_5000_2, rf_5000_3, rf_5000_4, rf_5000_5, rf_5000_15, rf_5000_16, rf_5000_18, rf_5000_19, rf_5000_20, rf_5000_21, rf_5000_22, rf_5000_23, rf_5000_24, rf_5000_25, rf_5000_26, rf_5000_27, rf_5000_36, rf_5000_37, rf_5000_40, rf_5000_41, rf_5000_42, rf_5000_43, rf_5000_44, rf_5000_45, rf_5000_47, rf_5000_52, rf_5000_54, rf_5000_55, rf_100_0, rf_100_1, rf_103_0, rf_103_1, rf_106_0, rf_106_1, rf_109_0, rf_109_1, al_2, al_4, al_5, al_7, al_8, al_10, al_11, al_12, al_14, al_15, al_17, al_18, al_19, al_20, al_22, al_23, al_24, al_25, al_27, al_28, al_29, al_30, al_32, al_33, al_34, al_35, al_37, al_38, al_40, al_42, al_5001, al_5002, al_5003, al_5004, al_5005, al_5006, al_5007, al_5008, al_5009, al_5010, al_5011, al_5012, al_5013, al_5014, al_5015, al_5016, al_5017, al_5018, al_5019, al_5020, al_5021, al_5022, al_5023, al_5024, al_5025, al_5026, al_9000, al_101, al_102, al_104, al_105, al_107, al_108, al_110, al_111, vcs_e, lg_c0, lg_cs, lg_nil, set_c0, set_cs, okst_0, okst_s, acok_n, acok_c, List.contains_nil, List.contains_cons, Bool.or_false, Bool.false_or, Bool.false_eq_true, if_false, if_true, ite_self, ne_eq, true_and, and_true, not_false_eq_true, not_true_eq_false, false_imp_iff, true_imp_iff, Nat.ble_eq, Bool.and_eq_true, reduceCtorEq, or_false, false_or, or_true, true_or, false_and, and_false, and_self, Int.reduceLE, Int.reduceAdd, Int.reduceSub, Int.reduceMul, Int.reduceNeg, Int.reduceLT, Int.reduceEq, Int.reduceNe, Nat.reduceBEq, Nat.reduceBNe, Nat.reduceEqDiff, amCmp_in, amCmp_lt, amCmp_le, amCmp_gt, amCmp_ge, amCmp_eq, amCmp_ne, Nat.reduceLeDiff, Nat.reduceSub, Bool.and_true, Bool.true_and, Bool.and_self, Bool.or_true, Bool.true_or, isRf_3, isRf_4, isRf_5, isRf_8, isRf_9, isRf_10, isRf_11, isRf_15, isRf_16, isRf_17, isRf_18, isRf_19, isRf_20, isRf_21, isRf_22, isRf_23, isRf_24, isRf_25, isRf_26, isRf_27, isRf_28, k_X12_peak_0, k_X12_peak_1, k_X12_peak_2, k_X12_peak_5, k_X12_peak_6, k_X12_peak_7, k_X12_peak_10, k_X12_peak_13, k_X12_peak_14, k_X12_peak_15, k_X12_peak_16, k_X12_peak_17, k_X12_peak_20, k_X12_peak_23, k_X12_peak_24, k_X12_peak_25, k_X12_peak_26, k_X12_peak_27, k_X12_peak_30, k_X12_peak_31, k_X12_peak_32, k_X12_peak_35, k_X12_peak_36, k_X12_peak_37, k_X12_peak_38, k_X12_peak_39, k_X12_peak_41, k_X12_peak_43, k_X12_peak_44, k_X12_peak_45, k_X12_peak_48, k_X12_peak_51, k_X12_peak_52, k_X12_peak_53, k_X12_peak_55, k_X12_peak_58, k_X12_peak_59, k_X12_peak_60, k_X12_peak_61, k_X12_peak_64, k_X12_peak_67, k_X12_peak_69, k_X12_peak_72, k_X12_peak_73, k_X12_peak_74, k_X12_peak_77, k_X12_peak_80, k_X12_peak_81, w_X12_feeling_e, w_X12_isIn_e, w_X12_isPlay_e, w_X12_minutes_e, w_X12_sumOf_e, e28, t7, if_neg d]
      repeat' (first | apply And.intro | intro _)
      all_goals first | omega | exact absurd trivial (by assumption) | exact q8
def a_X12_count : AC := [(0, vAload 0 1), (1, vI 0 2), (2, vPutI 28 0 5), (5, vIload 1 6), (6, vSw2 [(0, 76), (1, 81), (2, 86), (3, 91), (4, 96), (5, 101), (6, 106), (7, 111), (8, 119), (9, 152), (10, 160), (11, 165), (12, 170), (13, 178)] 183), (76, vAload 0 77), (77, vGetI 28 29 80), (80, vIret), (81, vAload 0 82), (82, vGetI 28 30 85), (85, vIret), (86, vAload 0 87), (87, vGetI 28 28 90), (90, vIret), (91, vAload 0 92), (92, vGetI 28 7 95), (95, vIret), (96, vAload 0 97), (97, vGetI 28 34 100), (100, vIret), (101, vAload 0 102), (102, vGetI 28 6 105), (105, vIret), (106, vAload 0 107), (107, vGetI 28 38 110), (110, vIret), (111, vAload 0 112), (112, vGetR TT 28 36 8 115), (115, vI 26 117), (117, vIald TT 118), (118, vIret), (119, vI 0 120), (120, vIstore 2 121), (121, vI 0 122), (122, vIstore 3 123), (123, vIload 3 124), (124, vAload 0 125), (125, vGetI 28 29 128), (128, vIcGe 150 131), (131, vIload 2 132), (132, vAload 0 133), (133, vGetR TT 28 36 8 136), (136, vI 4 137), (137, vIload 3 138), (138, vImul 139), (139, vI 3 140), (140, vIadd 141), (141, vIald TT 142), (142, vIadd 143), (143, vIstore 2 144), (144, vIinc 3 1 147), (147, vGoto 123), (150, vIload 2 151), (151, vIret), (152, vAload 0 153), (153, vGetR TT 28 36 8 156), (156, vI 24 158), (158, vIald TT 159), (159, vIret), (160, vAload 0 161), (161, vGetI 28 39 164), (164, vIret), (165, vAload 0 166), (166, vGetI 28 53 169), (169, vIret), (170, vAload 0 171), (171, vGetR TT 28 36 8 174), (174, vI 27 176), (176, vIald TT 177), (177, vIret), (178, vAload 0 179), (179, vGetI 28 48 182), (182, vIret), (183, vI (-1000000) 186), (186, vIret)]
theorem k_X12_count_0 : look a_X12_count 0 = vAload 0 1 := rfl
theorem k_X12_count_1 : look a_X12_count 1 = vI 0 2 := rfl
theorem k_X12_count_2 : look a_X12_count 2 = vPutI 28 0 5 := rfl
theorem k_X12_count_5 : look a_X12_count 5 = vIload 1 6 := rfl
theorem k_X12_count_6 : look a_X12_count 6 = vSw2 [(0, 76), (1, 81), (2, 86), (3, 91), (4, 96), (5, 101), (6, 106), (7, 111), (8, 119), (9, 152), (10, 160), (11, 165), (12, 170), (13, 178)] 183 := rfl
theorem k_X12_count_76 : look a_X12_count 76 = vAload 0 77 := rfl
theorem k_X12_count_77 : look a_X12_count 77 = vGetI 28 29 80 := rfl
theorem k_X12_count_80 : look a_X12_count 80 = vIret := rfl
theorem k_X12_count_81 : look a_X12_count 81 = vAload 0 82 := rfl
theorem k_X12_count_82 : look a_X12_count 82 = vGetI 28 30 85 := rfl
theorem k_X12_count_85 : look a_X12_count 85 = vIret := rfl
theorem k_X12_count_86 : look a_X12_count 86 = vAload 0 87 := rfl
theorem k_X12_count_87 : look a_X12_count 87 = vGetI 28 28 90 := rfl
theorem k_X12_count_90 : look a_X12_count 90 = vIret := rfl
theorem k_X12_count_91 : look a_X12_count 91 = vAload 0 92 := rfl
theorem k_X12_count_92 : look a_X12_count 92 = vGetI 28 7 95 := rfl
theorem k_X12_count_95 : look a_X12_count 95 = vIret := rfl
theorem k_X12_count_96 : look a_X12_count 96 = vAload 0 97 := rfl
theorem k_X12_count_97 : look a_X12_count 97 = vGetI 28 34 100 := rfl
theorem k_X12_count_100 : look a_X12_count 100 = vIret := rfl
theorem k_X12_count_101 : look a_X12_count 101 = vAload 0 102 := rfl
theorem k_X12_count_102 : look a_X12_count 102 = vGetI 28 6 105 := rfl
theorem k_X12_count_105 : look a_X12_count 105 = vIret := rfl
theorem k_X12_count_106 : look a_X12_count 106 = vAload 0 107 := rfl
theorem k_X12_count_107 : look a_X12_count 107 = vGetI 28 38 110 := rfl
theorem k_X12_count_110 : look a_X12_count 110 = vIret := rfl
theorem k_X12_count_111 : look a_X12_count 111 = vAload 0 112 := rfl
theorem k_X12_count_112 : look a_X12_count 112 = vGetR TT 28 36 8 115 := rfl
theorem k_X12_count_115 : look a_X12_count 115 = vI 26 117 := rfl
theorem k_X12_count_117 : look a_X12_count 117 = vIald TT 118 := rfl
theorem k_X12_count_118 : look a_X12_count 118 = vIret := rfl
theorem k_X12_count_119 : look a_X12_count 119 = vI 0 120 := rfl
theorem k_X12_count_120 : look a_X12_count 120 = vIstore 2 121 := rfl
theorem k_X12_count_121 : look a_X12_count 121 = vI 0 122 := rfl
theorem k_X12_count_122 : look a_X12_count 122 = vIstore 3 123 := rfl
theorem k_X12_count_123 : look a_X12_count 123 = vIload 3 124 := rfl
theorem k_X12_count_124 : look a_X12_count 124 = vAload 0 125 := rfl
theorem k_X12_count_125 : look a_X12_count 125 = vGetI 28 29 128 := rfl
theorem k_X12_count_128 : look a_X12_count 128 = vIcGe 150 131 := rfl
theorem k_X12_count_131 : look a_X12_count 131 = vIload 2 132 := rfl
theorem k_X12_count_132 : look a_X12_count 132 = vAload 0 133 := rfl
theorem k_X12_count_133 : look a_X12_count 133 = vGetR TT 28 36 8 136 := rfl
theorem k_X12_count_136 : look a_X12_count 136 = vI 4 137 := rfl
theorem k_X12_count_137 : look a_X12_count 137 = vIload 3 138 := rfl
theorem k_X12_count_138 : look a_X12_count 138 = vImul 139 := rfl
theorem k_X12_count_139 : look a_X12_count 139 = vI 3 140 := rfl
theorem k_X12_count_140 : look a_X12_count 140 = vIadd 141 := rfl
theorem k_X12_count_141 : look a_X12_count 141 = vIald TT 142 := rfl
theorem k_X12_count_142 : look a_X12_count 142 = vIadd 143 := rfl
theorem k_X12_count_143 : look a_X12_count 143 = vIstore 2 144 := rfl
theorem k_X12_count_144 : look a_X12_count 144 = vIinc 3 1 147 := rfl
theorem k_X12_count_147 : look a_X12_count 147 = vGoto 123 := rfl
theorem k_X12_count_150 : look a_X12_count 150 = vIload 2 151 := rfl
theorem k_X12_count_151 : look a_X12_count 151 = vIret := rfl
theorem k_X12_count_152 : look a_X12_count 152 = vAload 0 153 := rfl
theorem k_X12_count_153 : look a_X12_count 153 = vGetR TT 28 36 8 156 := rfl
theorem k_X12_count_156 : look a_X12_count 156 = vI 24 158 := rfl
theorem k_X12_count_158 : look a_X12_count 158 = vIald TT 159 := rfl
theorem k_X12_count_159 : look a_X12_count 159 = vIret := rfl
theorem k_X12_count_160 : look a_X12_count 160 = vAload 0 161 := rfl
theorem k_X12_count_161 : look a_X12_count 161 = vGetI 28 39 164 := rfl
theorem k_X12_count_164 : look a_X12_count 164 = vIret := rfl
theorem k_X12_count_165 : look a_X12_count 165 = vAload 0 166 := rfl
theorem k_X12_count_166 : look a_X12_count 166 = vGetI 28 53 169 := rfl
theorem k_X12_count_169 : look a_X12_count 169 = vIret := rfl
theorem k_X12_count_170 : look a_X12_count 170 = vAload 0 171 := rfl
theorem k_X12_count_171 : look a_X12_count 171 = vGetR TT 28 36 8 174 := rfl
theorem k_X12_count_174 : look a_X12_count 174 = vI 27 176 := rfl
theorem k_X12_count_176 : look a_X12_count 176 = vIald TT 177 := rfl
theorem k_X12_count_177 : look a_X12_count 177 = vIret := rfl
theorem k_X12_count_178 : look a_X12_count 178 = vAload 0 179 := rfl
theorem k_X12_count_179 : look a_X12_count 179 = vGetI 28 48 182 := rfl
theorem k_X12_count_182 : look a_X12_count 182 = vIret := rfl
theorem k_X12_count_183 : look a_X12_count 183 = vI (-1000000) 186 := rfl
theorem k_X12_count_186 : look a_X12_count 186 = vIret := rfl
theorem o_X12_count {X : amX} (e1 : XT X = TT) (e2 : XD X = 0) (hB : amB X RX12 cX12_count (some .int) 4) : ∀ pc, amOK X pc (look a_X12_count pc) := by
  have hT : amTok (XT X) := e1 ▸ TT_ok
  refine look_ok ?_
  unfold a_X12_count
  refine fc (ok_aload_n hB dX12_count_0) ?_
  refine fc (ok_iconst hB dX12_count_1) ?_
  refine fc (ok_putI hB hT fp_X12_111 rfl rfl rfl af_12_0 dX12_count_2) ?_
  refine fc (ok_iload_n hB dX12_count_5) ?_
  refine fc (ok_sw2 (by decide) (ok_tableswitch hB [(0, 76), (1, 81), (2, 86), (3, 91), (4, 96), (5, 101), (6, 106), (7, 111), (8, 119), (9, 152), (10, 160), (11, 165), (12, 170), (13, 178)] dX12_count_6 (by decide) (by decide) (by decide) (by decide))) ?_
  refine fc (ok_aload_n hB dX12_count_76) ?_
  refine fc (ok_getI hB hT fl_X12_317 rfl rfl (Or.inl af_12_29) dX12_count_77) ?_
  refine fc (ok_iret hB dX12_count_80) ?_
  refine fc (ok_aload_n hB dX12_count_81) ?_
  refine fc (ok_getI hB hT fl_X12_320 rfl rfl (Or.inl af_12_30) dX12_count_82) ?_
  refine fc (ok_iret hB dX12_count_85) ?_
  refine fc (ok_aload_n hB dX12_count_86) ?_
  refine fc (ok_getI hB hT fl_X12_314 rfl rfl (Or.inl af_12_28) dX12_count_87) ?_
  refine fc (ok_iret hB dX12_count_90) ?_
  refine fc (ok_aload_n hB dX12_count_91) ?_
  refine fc (ok_getI hB hT fl_X12_306 rfl rfl (Or.inl af_12_7) dX12_count_92) ?_
  refine fc (ok_iret hB dX12_count_95) ?_
  refine fc (ok_aload_n hB dX12_count_96) ?_
  refine fc (ok_getI hB hT fl_X12_309 rfl rfl (Or.inl af_12_34) dX12_count_97) ?_
  refine fc (ok_iret hB dX12_count_100) ?_
  refine fc (ok_aload_n hB dX12_count_101) ?_
  refine fc (ok_getI hB hT fl_X12_124 rfl rfl (Or.inl af_12_6) dX12_count_102) ?_
  refine fc (ok_iret hB dX12_count_105) ?_
  refine fc (ok_aload_n hB dX12_count_106) ?_
  refine fc (ok_getI hB hT fl_X12_73 rfl rfl (Or.inl af_12_38) dX12_count_107) ?_
  refine fc (ok_iret hB dX12_count_110) ?_
  refine fc (ok_aload_n hB dX12_count_111) ?_
  refine fc (okt_getR e1 hB hT fl_X12_67 rfl af_12_36 at_12_36 (by decide) dX12_count_112) ?_
  refine fc (ok_bipush hB dX12_count_115 (by decide)) ?_
  refine fc (okt_iaload e1 hB dX12_count_117) ?_
  refine fc (ok_iret hB dX12_count_118) ?_
  refine fc (ok_iconst hB dX12_count_119) ?_
  refine fc (ok_istore_n hB (by decide) dX12_count_120) ?_
  refine fc (ok_iconst hB dX12_count_121) ?_
  refine fc (ok_istore_n hB (by decide) dX12_count_122) ?_
  refine fc (ok_iload_n hB dX12_count_123) ?_
  refine fc (ok_aload_n hB dX12_count_124) ?_
  refine fc (ok_getI hB hT fl_X12_317 rfl rfl (Or.inl af_12_29) dX12_count_125) ?_
  refine fc (ok_icmp_ge hB (t := 150) (by decide) dX12_count_128) ?_
  refine fc (ok_iload_n hB dX12_count_131) ?_
  refine fc (ok_aload_n hB dX12_count_132) ?_
  refine fc (okt_getR e1 hB hT fl_X12_67 rfl af_12_36 at_12_36 (by decide) dX12_count_133) ?_
  refine fc (ok_iconst hB dX12_count_136) ?_
  refine fc (ok_iload_n hB dX12_count_137) ?_
  refine fc (ok_imul hB dX12_count_138) ?_
  refine fc (ok_iconst hB dX12_count_139) ?_
  refine fc (ok_iadd hB dX12_count_140) ?_
  refine fc (okt_iaload e1 hB dX12_count_141) ?_
  refine fc (ok_iadd hB dX12_count_142) ?_
  refine fc (ok_istore_n hB (by decide) dX12_count_143) ?_
  refine fc (ok_iinc hB (by decide) dX12_count_144) ?_
  refine fc (ok_goto hB (t := 123) (by decide) dX12_count_147) ?_
  refine fc (ok_iload_n hB dX12_count_150) ?_
  refine fc (ok_iret hB dX12_count_151) ?_
  refine fc (ok_aload_n hB dX12_count_152) ?_
  refine fc (okt_getR e1 hB hT fl_X12_67 rfl af_12_36 at_12_36 (by decide) dX12_count_153) ?_
  refine fc (ok_bipush hB dX12_count_156 (by decide)) ?_
  refine fc (okt_iaload e1 hB dX12_count_158) ?_
  refine fc (ok_iret hB dX12_count_159) ?_
  refine fc (ok_aload_n hB dX12_count_160) ?_
  refine fc (ok_getI hB hT fl_X12_77 rfl rfl (Or.inl af_12_39) dX12_count_161) ?_
  refine fc (ok_iret hB dX12_count_164) ?_
  refine fc (ok_aload_n hB dX12_count_165) ?_
  refine fc (ok_getI hB hT fl_X12_323 rfl rfl (Or.inl af_12_53) dX12_count_166) ?_
  refine fc (ok_iret hB dX12_count_169) ?_
  refine fc (ok_aload_n hB dX12_count_170) ?_
  refine fc (okt_getR e1 hB hT fl_X12_67 rfl af_12_36 at_12_36 (by decide) dX12_count_171) ?_
  refine fc (ok_bipush hB dX12_count_174 (by decide)) ?_
  refine fc (okt_iaload e1 hB dX12_count_176) ?_
  refine fc (ok_iret hB dX12_count_177) ?_
  refine fc (ok_aload_n hB dX12_count_178) ?_
  refine fc (ok_getI hB hT fl_X12_326 rfl rfl (Or.inl af_12_48) dX12_count_179) ?_
  refine fc (ok_iret hB dX12_count_182) ?_
  refine fc (ok_ldcw hB wd_1784 rfl dX12_count_183) ?_
  refine fc (ok_iret hB dX12_count_186) ?_
  exact fn
def inv_ctm (σ : Mem) (w : Int) (n pc : Nat) (ls st : List AV) (σ' : Mem) : Prop := pc = 123 ∧ st = [] ∧ σ' = th0 σ ∧ w = 8 ∧ ∃ k : Nat, ls = [(28, 5000), (0, w), (0, sumC (fun c => σ 5015 (4 * c + 3)) k), (0, (k : Int))] ∧ (k : Int) + n = σ 5000 29
def w_X12_count : WP := fun av σ Q => ∃ (w : Int), av = [(28, 5000), (0, w)] ∧ (InR w ∧ 0 ≤ σ 5000 29 ∧ σ 5000 29 ≤ 6 ∧ (w = 0 → Q (0, σ 5000 29) (th0 σ)) ∧ (w = 1 → Q (0, σ 5000 30) (th0 σ)) ∧ (w = 2 → Q (0, σ 5000 28) (th0 σ)) ∧ (w = 3 → Q (0, σ 5000 7) (th0 σ)) ∧ (w = 4 → Q (0, σ 5000 34) (th0 σ)) ∧ (w = 5 → Q (0, σ 5000 6) (th0 σ)) ∧ (w = 6 → Q (0, σ 5000 38) (th0 σ)) ∧ (w = 7 → Q (0, σ 5015 26) (th0 σ)) ∧ (w = 8 → Q (0, sumC (fun c => σ 5015 (4 * c + 3)) (σ 5000 29).toNat) (th0 σ)) ∧ (w = 9 → Q (0, σ 5015 24) (th0 σ)) ∧ (w = 10 → Q (0, σ 5000 39) (th0 σ)) ∧ (w = 11 → Q (0, σ 5000 53) (th0 σ)) ∧ (w = 12 → Q (0, σ 5015 27) (th0 σ)) ∧ (w = 13 → Q (0, σ 5000 48) (th0 σ)) ∧ (w < 0 ∨ 13 < w → Q (0, -1000000) (th0 σ)))
theorem w_X12_count_e (w : Int) (σ : Mem) (Q : AV → Mem → Prop) : w_X12_count [(28, 5000), (0, w)] σ Q = (InR w ∧ 0 ≤ σ 5000 29 ∧ σ 5000 29 ≤ 6 ∧ (w = 0 → Q (0, σ 5000 29) (th0 σ)) ∧ (w = 1 → Q (0, σ 5000 30) (th0 σ)) ∧ (w = 2 → Q (0, σ 5000 28) (th0 σ)) ∧ (w = 3 → Q (0, σ 5000 7) (th0 σ)) ∧ (w = 4 → Q (0, σ 5000 34) (th0 σ)) ∧ (w = 5 → Q (0, σ 5000 6) (th0 σ)) ∧ (w = 6 → Q (0, σ 5000 38) (th0 σ)) ∧ (w = 7 → Q (0, σ 5015 26) (th0 σ)) ∧ (w = 8 → Q (0, sumC (fun c => σ 5015 (4 * c + 3)) (σ 5000 29).toNat) (th0 σ)) ∧ (w = 9 → Q (0, σ 5015 24) (th0 σ)) ∧ (w = 10 → Q (0, σ 5000 39) (th0 σ)) ∧ (w = 11 → Q (0, σ 5000 53) (th0 σ)) ∧ (w = 12 → Q (0, σ 5015 27) (th0 σ)) ∧ (w = 13 → Q (0, σ 5000 48) (th0 σ)) ∧ (w < 0 ∨ 13 < w → Q (0, -1000000) (th0 σ))) := by
  apply propext; constructor
  · rintro ⟨w', h9, hb9⟩; cases h9; exact hb9
  · intro hb9; exact ⟨w, rfl, hb9⟩

set_option maxRecDepth 100000 in
set_option maxHeartbeats 4000000 in
theorem s_X12_count : ∀ av σ Q, w_X12_count av σ Q → amCall 0 0 0 TT yX12_count cX12_count 4 (some .int) av σ Q := by
  rintro av σ Q ⟨w, rfl, hw, c0, c1, q0, q1, q2, q3, q4, q5, q6, q7, q8, q9, q10, q11, q12, q13, q14⟩
  have t15 : th0 σ 5015 = σ 5015 := th_o σ (by decide)
  have e29 : th0 σ 5000 29 = σ 5000 29 := th_k σ (by decide)
  refine am_m [123] (inv_ctm σ w) (own := RX12) (A := look a_X12_count) (fun X e1 e2 hB => o_X12_count e1 e2 hB) rfl (by decide +kernel) rfl rfl ?_ ⟨60, ?_⟩ (w := 4)
  · rintro n pc ls st σ' ⟨rfl, rfl, rfl, w8, k, rfl, hn⟩
    refine ⟨60, ?_⟩
    by_cases cc : (k : Int) < σ 5000 29
    · have i9 : ∃ k', k' < n ∧ inv_ctm σ w k' 123 [(28, 5000), (0, w), (0, sumC (fun c => σ 5015 (4 * c + 3)) k + σ 5015 (4 * k + 3)), (0, (k : Int) + 1)] [] (th0 σ) := ⟨n - 1, by omega, rfl, rfl, rfl, w8, k + 1, rfl, by omega⟩
      simp only [↓reduceIte, inR_0, inR_1, inR_m, vSw2_e, swP_n, swP_c, vI_e, vL_e, vNull_e, vIload_e, vLload_e, vAload_e, vIstore_e, vLstore_e, vAstore_e, vIinc_e, vIadd_e, vIsub_e, vImul_e, vIand_e, vIor_e, vIxor_e, vIshl_e, vIshr_e, vIushr_e, vIdiv_e, vIrem_e, vLadd_e, vLsub_e, vLmul_e, vLand_e, vLor_e, vLxor_e, vLdiv_e, vLrem_e, vLushr_e, vLshl_e, vLcmp_e, vIneg_e, vI2l_e, vL2i_e, vI2b_e, vI2c_e, vDup_e, vPop_e, vDup2_e, vGoto_e, vIcEq_e, vIfEq_e, vIcNe_e, vIfNe_e, vIcLt_e, vIfLt_e, vIcGe_e, vIfGe_e, vIcGt_e, vIfGt_e, vIcLe_e, vIfLe_e, vNonnull_e, vSw_e, vGetI_e, vGetL_e, vGetR_e, vPutI_e, vPutZ_e, vPutL_e, vPutR_e, vIald_e, vIald_s, vLald_e, vBald_e, vBald_s, vAald_e, vIast_e, vLast_e, vBast_e, vAast_e, vAlen_e8, vAlen_e9, vAlen_e10, vAlen_e11, vAlen_e5, vAlen_e3, vGets_e, vCompact_e, vLdcS_e, vIret_e, vZret_e, vCret_e, vBret_e, vLret_e, vVret_e, vAret_e, vCallM_e0, vCallMV_e0, vCallS_e0, vCallSV_e0, vCallM_e1, vCallMV_e1, vCallS_e1, vCallSV_e1, vCallM_e2, vCallMV_e2, vCallS_e2, vCallSV_e2, vCallM_e3, vCallMV_e3, vCallS_e3, vCallSV_e3, vCallM_e4, vCallMV_e4, vCallS_e4, vCallSV_e4, vCallM_e5, vCallMV_e5, vCallS_e5, vCallSV_e5, vCallM_e6, vCallMV_e6, vCallS_e6, vCallSV_e6, vCallM_e7, vCallMV_e7, vCallS_e7, vCallSV_e7, vBad_e, vStrVal_e, vStrCod_e, vForm_e, vCallT_e0, vCallT_e1, vCallT_e2, vCopy_e, rf_0_0, rf_0_1, rf_0_2, rf_0_3, rf_0_4, rf_0_7, rf_0_10, rf_0_11, rf_0_12, rf_0_13, rf_0_14, rf_0_15, rf_0_16, rf_1_0, rf_3_0, rf_3_1, rf_6_0, rf_6_1, rf_9_0, rf_9_1, rf_9_3, rf_13_0, rf_13_1, rf_13_2, rf_16_0, rf_16_1, rf_16_2, rf_16_3, rf_21_0, rf_21_1, rf_21_2, rf_21_3, rf_26_0, rf_26_1, rf_26_2, rf_26_3, rf_26_4, rf_26_5, rf_26_6, rf_31_0, rf_31_2, rf_31_5, rf_31_6, rf_36_0, rf_36_1, rf_36_2, rf_36_3, rf_39_0, rf_39_1, rf_39_2, rf_41_0, rf_41_1, rf_41_2, rf_41_3, rf_5000_1, rf_5000_2, rf_5000_3, rf_5000_4, rf_5000_5, rf_5000_15, rf_5000_16, rf_5000_18, rf_5000_19, rf_5000_20, rf_5000_21, rf_5000_22, rf_5000_23, rf_5000_24, rf_5000_25, rf_5000_26, rf_5000_27, rf_5000_36, rf_5000_37, rf_5000_40, rf_5000_41, rf_5000_42, rf_5000_43, rf_5000_44, rf_5000_45, rf_5000_47, rf_5000_52, rf_5000_54, rf_5000_55, rf_100_0, rf_100_1, rf_103_0, rf_103_1, rf_106_0, rf_106_1, rf_109_0, rf_109_1, al_2, al_4, al_5, al_7, al_8, al_10, al_11, al_12, al_14, al_15, al_17, al_18, al_19, al_20, al_22, al_23, al_24, al_25, al_27, al_28, al_29, al_30, al_32, al_33, al_34, al_35, al_37, al_38, al_40, al_42, al_5001, al_5002, al_5003, al_5004, al_5005, al_5006, al_5007, al_5008, al_5009, al_5010, al_5011, al_5012, al_5013, al_5014, al_5015, al_5016, al_5017, al_5018, al_5019, al_5020, al_5021, al_5022, al_5023, al_5024, al_5025, al_5026, al_9000, al_101, al_102, al_104, al_105, al_107, al_108, al_110, al_111, vcs_e, lg_c0, lg_cs, lg_nil, set_c0, set_cs, okst_0, okst_s, acok_n, acok_c, List.contains_nil, List.contains_cons, Bool.or_false, Bool.false_or, Bool.false_eq_true, if_false, if_true, ite_self, ne_eq, true_and, and_true, not_false_eq_true, not_true_eq_false, false_imp_iff, true_imp_iff, Nat.ble_eq, Bool.and_eq_true, reduceCtorEq, or_false, false_or, or_true, true_or, false_and, and_false, and_self, Int.reduceLE, Int.reduceAdd, Int.reduceSub, Int.reduceMul, Int.reduceNeg, Int.reduceLT, Int.reduceEq, Int.reduceNe, Nat.reduceBEq, Nat.reduceBNe, Nat.reduceEqDiff, amCmp_in, amCmp_lt, amCmp_le, amCmp_gt, amCmp_ge, amCmp_eq, amCmp_ne, Nat.reduceLeDiff, Nat.reduceSub, Bool.and_true, Bool.true_and, Bool.and_self, Bool.or_true, Bool.true_or, isRf_3, isRf_4, isRf_5, isRf_8, isRf_9, isRf_10, isRf_11, isRf_15, isRf_16, isRf_17, isRf_18, isRf_19, isRf_20, isRf_21, isRf_22, isRf_23, isRf_24, isRf_25, isRf_26, isRf_27, isRf_28, k_X12_count_0, k_X12_count_1, k_X12_count_2, k_X12_count_5, k_X12_count_6, k_X12_count_76, k_X12_count_77, k_X12_count_80, k_X12_count_81, k_X12_count_82, k_X12_count_85, k_X12_count_86, k_X12_count_87, k_X12_count_90, k_X12_count_91, k_X12_count_92, k_X12_count_95, k_X12_count_96, k_X12_count_97, k_X12_count_100, k_X12_count_101, k_X12_count_102, k_X12_count_105, k_X12_count_106, k_X12_count_107, k_X12_count_110, k_X12_count_111, k_X12_count_112, k_X12_count_115, k_X12_count_117, k_X12_count_118, k_X12_count_119, k_X12_count_120, k_X12_count_121, k_X12_count_122, k_X12_count_123, k_X12_count_124, k_X12_count_125, k_X12_count_128, k_X12_count_131, k_X12_count_132, k_X12_count_133, k_X12_count_136, k_X12_count_137, k_X12_count_138, k_X12_count_139, k_X12_count_140, k_X12_count_141, k_X12_count_142, k_X12_count_143, k_X12_count_144, k_X12_count_147, k_X12_count_150, k_X12_count_151, k_X12_count_152, k_X12_count_153, k_X12_count_156, k_X12_count_158, k_X12_count_159, k_X12_count_160, k_X12_count_161, k_X12_count_164, k_X12_count_165, k_X12_count_166, k_X12_count_169, k_X12_count_170, k_X12_count_171, k_X12_count_174, k_X12_count_176, k_X12_count_177, k_X12_count_178, k_X12_count_179, k_X12_count_182, k_X12_count_183, k_X12_count_186, e29, t15]
      repeat' (first | apply And.intro | intro _)
      all_goals first | omega | exact absurd trivial (by assumption) | exact i9
    · have q := q8 w8
      rw [show (σ 5000 29).toNat = k by omega] at q
      simp only [↓reduceIte, inR_0, inR_1, inR_m, vSw2_e, swP_n, swP_c, vI_e, vL_e, vNull_e, vIload_e, vLload_e, vAload_e, vIstore_e, vLstore_e, vAstore_e, vIinc_e, vIadd_e, vIsub_e, vImul_e, vIand_e, vIor_e, vIxor_e, vIshl_e, vIshr_e, vIushr_e, vIdiv_e, vIrem_e, vLadd_e, vLsub_e, vLmul_e, vLand_e, vLor_e, vLxor_e, vLdiv_e, vLrem_e, vLushr_e, vLshl_e, vLcmp_e, vIneg_e, vI2l_e, vL2i_e, vI2b_e, vI2c_e, vDup_e, vPop_e, vDup2_e, vGoto_e, vIcEq_e, vIfEq_e, vIcNe_e, vIfNe_e, vIcLt_e, vIfLt_e, vIcGe_e, vIfGe_e, vIcGt_e, vIfGt_e, vIcLe_e, vIfLe_e, vNonnull_e, vSw_e, vGetI_e, vGetL_e, vGetR_e, vPutI_e, vPutZ_e, vPutL_e, vPutR_e, vIald_e, vIald_s, vLald_e, vBald_e, vBald_s, vAald_e, vIast_e, vLast_e, vBast_e, vAast_e, vAlen_e8, vAlen_e9, vAlen_e10, vAlen_e11, vAlen_e5, vAlen_e3, vGets_e, vCompact_e, vLdcS_e, vIret_e, vZret_e, vCret_e, vBret_e, vLret_e, vVret_e, vAret_e, vCallM_e0, vCallMV_e0, vCallS_e0, vCallSV_e0, vCallM_e1, vCallMV_e1, vCallS_e1, vCallSV_e1, vCallM_e2, vCallMV_e2, vCallS_e2, vCallSV_e2, vCallM_e3, vCallMV_e3, vCallS_e3, vCallSV_e3, vCallM_e4, vCallMV_e4, vCallS_e4, vCallSV_e4, vCallM_e5, vCallMV_e5, vCallS_e5, vCallSV_e5, vCallM_e6, vCallMV_e6, vCallS_e6, vCallSV_e6, vCallM_e7, vCallMV_e7, vCallS_e7, vCallSV_e7, vBad_e, vStrVal_e, vStrCod_e, vForm_e, vCallT_e0, vCallT_e1, vCallT_e2, vCopy_e, rf_0_0, rf_0_1, rf_0_2, rf_0_3, rf_0_4, rf_0_7, rf_0_10, rf_0_11, rf_0_12, rf_0_13, rf_0_14, rf_0_15, rf_0_16, rf_1_0, rf_3_0, rf_3_1, rf_6_0, rf_6_1, rf_9_0, rf_9_1, rf_9_3, rf_13_0, rf_13_1, rf_13_2, rf_16_0, rf_16_1, rf_16_2, rf_16_3, rf_21_0, rf_21_1, rf_21_2, rf_21_3, rf_26_0, rf_26_1, rf_26_2, rf_26_3, rf_26_4, rf_26_5, rf_26_6, rf_31_0, rf_31_2, rf_31_5, rf_31_6, rf_36_0, rf_36_1, rf_36_2, rf_36_3, rf_39_0, rf_39_1, rf_39_2, rf_41_0, rf_41_1, rf_41_2, rf_41_3, rf_5000_1, rf_5000_2, rf_5000_3, rf_5000_4, rf_5000_5, rf_5000_15, rf_5000_16, rf_5000_18, rf_5000_19, rf_5000_20, rf_5000_21, rf_5000_22, rf_5000_23, rf_5000_24, rf_5000_25, rf_5000_26, rf_5000_27, rf_5000_36, rf_5000_37, rf_5000_40, rf_5000_41, rf_5000_42, rf_5000_43, rf_5000_44, rf_5000_45, rf_5000_47, rf_5000_52, rf_5000_54, rf_5000_55, rf_100_0, rf_100_1, rf_103_0, rf_103_1, rf_106_0, rf_106_1, rf_109_0, rf_109_1, al_2, al_4, al_5, al_7, al_8, al_10, al_11, al_12, al_14, al_15, al_17, al_18, al_19, al_20, al_22, al_23, al_24, al_25, al_27, al_28, al_29, al_30, al_32, al_33, al_34, al_35, al_37, al_38, al_40, al_42, al_5001, al_5002, al_5003, al_5004, al_5005, al_5006, al_5007, al_5008, al_5009, al_5010, al_5011, al_5012, al_5013, al_5014, al_5015, al_5016, al_5017, al_5018, al_5019, al_5020, al_5021, al_5022, al_5023, al_5024, al_5025, al_5026, al_9000, al_101, al_102, al_104, al_105, al_107, al_108, al_110, al_111, vcs_e, lg_c0, lg_cs, lg_nil, set_c0, set_cs, okst_0, okst_s, acok_n, acok_c, List.contains_nil, List.contains_cons, Bool.or_false, Bool.false_or, Bool.false_eq_true, if_false, if_true, ite_self, ne_eq, true_and, and_true, not_false_eq_true, not_true_eq_false, false_imp_iff, true_imp_iff, Nat.ble_eq, Bool.and_eq_true, reduceCtorEq, or_false, false_or, or_true, true_or, false_and, and_false, and_self, Int.reduceLE, Int.reduceAdd, Int.reduceSub, Int.reduceMul, Int.reduceNeg, Int.reduceLT, Int.reduceEq, Int.reduceNe, Nat.reduceBEq, Nat.reduceBNe, Nat.reduceEqDiff, amCmp_in, amCmp_lt, amCmp_le, amCmp_gt, amCmp_ge, amCmp_eq, amCmp_ne, Nat.reduceLeDiff, Nat.reduceSub, Bool.and_true, Bool.true_and, Bool.and_self, Bool.or_true, Bool.true_or, isRf_3, isRf_4, isRf_5, isRf_8, isRf_9, isRf_10, isRf_11, isRf_15, isRf_16, isRf_17, isRf_18, isRf_19, isRf_20, isRf_21, isRf_22, isRf_23, isRf_24, isRf_25, isRf_26, isRf_27, isRf_28, k_X12_count_0, k_X12_count_1, k_X12_count_2, k_X12_count_5, k_X12_count_6, k_X12_count_76, k_X12_count_77, k_X12_count_80, k_X12_count_81, k_X12_count_82, k_X12_count_85, k_X12_count_86, k_X12_count_87, k_X12_count_90, k_X12_count_91, k_X12_count_92, k_X12_count_95, k_X12_count_96, k_X12_count_97, k_X12_count_100, k_X12_count_101, k_X12_count_102, k_X12_count_105, k_X12_count_106, k_X12_count_107, k_X12_count_110, k_X12_count_111, k_X12_count_112, k_X12_count_115, k_X12_count_117, k_X12_count_118, k_X12_count_119, k_X12_count_120, k_X12_count_121, k_X12_count_122, k_X12_count_123, k_X12_count_124, k_X12_count_125, k_X12_count_128, k_X12_count_131, k_X12_count_132, k_X12_count_133, k_X12_count_136, k_X12_count_137, k_X12_count_138, k_X12_count_139, k_X12_count_140, k_X12_count_141, k_X12_count_142, k_X12_count_143, k_X12_count_144, k_X12_count_147, k_X12_count_150, k_X12_count_151, k_X12_count_152, k_X12_count_153, k_X12_count_156, k_X12_count_158, k_X12_count_159, k_X12_count_160, k_X12_count_161, k_X12_count_164, k_X12_count_165, k_X12_count_166, k_X12_count_169, k_X12_count_170, k_X12_count_171, k_X12_count_174, k_X12_count_176, k_X12_count_177, k_X12_count_178, k_X12_count_179, k_X12_count_182, k_X12_count_183, k_X12_count_186, e29, t15]
      repeat' (first | apply And.intro | intro _)
      all_goals first | omega | exact absurd trivial (by assumption) | exact q
  · change vcs _ _ _ _ 60 0 [(28, 5000), (0, w), (6, 0), (6, 0)] [] σ
    have i9 : w = 8 → ∃ k', inv_ctm σ w k' 123 [(28, 5000), (0, w), (0, 0), (0, 0)] [] (th0 σ) := fun q => ⟨(σ 5000 29).toNat, rfl, rfl, rfl, q, 0, rfl, by omega⟩
    simp only [↓reduceIte, inR_0, inR_1, inR_m, vSw2_e, swP_n, swP_c, vI_e, vL_e, vNull_e, vIload_e, vLload_e, vAload_e, vIstore_e, vLstore_e, vAstore_e, vIinc_e, vIadd_e, vIsub_e, vImul_e, vIand_e, vIor_e, vIxor_e, vIshl_e, vIshr_e, vIushr_e, vIdiv_e, vIrem_e, vLadd_e, vLsub_e, vLmul_e, vLand_e, vLor_e, vLxor_e, vLdiv_e, vLrem_e, vLushr_e, vLshl_e, vLcmp_e, vIneg_e, vI2l_e, vL2i_e, vI2b_e, vI2c_e, vDup_e, vPop_e, vDup2_e, vGoto_e, vIcEq_e, vIfEq_e, vIcNe_e, vIfNe_e, vIcLt_e, vIfLt_e, vIcGe_e, vIfGe_e, vIcGt_e, vIfGt_e, vIcLe_e, vIfLe_e, vNonnull_e, vSw_e, vGetI_e, vGetL_e, vGetR_e, vPutI_e, vPutZ_e, vPutL_e, vPutR_e, vIald_e, vIald_s, vLald_e, vBald_e, vBald_s, vAald_e, vIast_e, vLast_e, vBast_e, vAast_e, vAlen_e8, vAlen_e9, vAlen_e10, vAlen_e11, vAlen_e5, vAlen_e3, vGets_e, vCompact_e, vLdcS_e, vIret_e, vZret_e, vCret_e, vBret_e, vLret_e, vVret_e, vAret_e, vCallM_e0, vCallMV_e0, vCallS_e0, vCallSV_e0, vCallM_e1, vCallMV_e1, vCallS_e1, vCallSV_e1, vCallM_e2, vCallMV_e2, vCallS_e2, vCallSV_e2, vCallM_e3, vCallMV_e3, vCallS_e3, vCallSV_e3, vCallM_e4, vCallMV_e4, vCallS_e4, vCallSV_e4, vCallM_e5, vCallMV_e5, vCallS_e5, vCallSV_e5, vCallM_e6, vCallMV_e6, vCallS_e6, vCallSV_e6, vCallM_e7, vCallMV_e7, vCallS_e7, vCallSV_e7, vBad_e, vStrVal_e, vStrCod_e, vForm_e, vCallT_e0, vCallT_e1, vCallT_e2, vCopy_e, rf_0_0, rf_0_1, rf_0_2, rf_0_3, rf_0_4, rf_0_7, rf_0_10, rf_0_11, rf_0_12, rf_0_13, rf_0_14, rf_0_15, rf_0_16, rf_1_0, rf_3_0, rf_3_1, rf_6_0, rf_6_1, rf_9_0, rf_9_1, rf_9_3, rf_13_0, rf_13_1, rf_13_2, rf_16_0, rf_16_1, rf_16_2, rf_16_3, rf_21_0, rf_21_1, rf_21_2, rf_21_3, rf_26_0, rf_26_1, rf_26_2, rf_26_3, rf_26_4, rf_26_5, rf_26_6, rf_31_0, rf_31_2, rf_31_5, rf_31_6, rf_36_0, rf_36_1, rf_36_2, rf_36_3, rf_39_0, rf_39_1, rf_39_2, rf_41_0, rf_41_1, rf_41_2, rf_41_3, rf_5000_1, rf_5000_2, rf_5000_3, rf_5000_4, rf_5000_5, rf_5000_15, rf_5000_16, rf_5000_18, rf_5000_19, rf_5000_20, rf_5000_21, rf_5000_22, rf_5000_23, rf_5000_24, rf_5000_25, rf_5000_26, rf_5000_27, rf_5000_36, rf_5000_37, rf_5000_40, rf_5000_41, rf_5000_42, rf_5000_43, rf_5000_44, rf_5000_45, rf_5000_47, rf_5000_52, rf_5000_54, rf_5000_55, rf_100_0, rf_100_1, rf_103_0, rf_103_1, rf_106_0, rf_106_1, rf_109_0, rf_109_1, al_2, al_4, al_5, al_7, al_8, al_10, al_11, al_12, al_14, al_15, al_17, al_18, al_19, al_20, al_22, al_23, al_24, al_25, al_27, al_28, al_29, al_30, al_32, al_33, al_34, al_35, al_37, al_38, al_40, al_42, al_5001, al_5002, al_5003, al_5004, al_5005, al_5006, al_5007, al_5008, al_5009, al_5010, al_5011, al_5012, al_5013, al_5014, al_5015, al_5016, al_5017, al_5018, al_5019, al_5020, al_5021, al_5022, al_5023, al_5024, al_5025, al_5026, al_9000, al_101, al_102, al_104, al_105, al_107, al_108, al_110, al_111, vcs_e, lg_c0, lg_cs, lg_nil, set_c0, set_cs, okst_0, okst_s, acok_n, acok_c, List.contains_nil, List.contains_cons, Bool.or_false, Bool.false_or, Bool.false_eq_true, if_false, if_true, ite_self, ne_eq, true_and, and_true, not_false_eq_true, not_true_eq_false, false_imp_iff, true_imp_iff, Nat.ble_eq, Bool.and_eq_true, reduceCtorEq, or_false, false_or, or_true, true_or, false_and, and_false, and_self, Int.reduceLE, Int.reduceAdd, Int.reduceSub, Int.reduceMul, Int.reduceNeg, Int.reduceLT, Int.reduceEq, Int.reduceNe, Nat.reduceBEq, Nat.reduceBNe, Nat.reduceEqDiff, amCmp_in, amCmp_lt, amCmp_le, amCmp_gt, amCmp_ge, amCmp_eq, amCmp_ne, Nat.reduceLeDiff, Nat.reduceSub, Bool.and_true, Bool.true_and, Bool.and_self, Bool.or_true, Bool.true_or, isRf_3, isRf_4, isRf_5, isRf_8, isRf_9, isRf_10, isRf_11, isRf_15, isRf_16, isRf_17, isRf_18, isRf_19, isRf_20, isRf_21, isRf_22, isRf_23, isRf_24, isRf_25, isRf_26, isRf_27, isRf_28, k_X12_count_0, k_X12_count_1, k_X12_count_2, k_X12_count_5, k_X12_count_6, k_X12_count_76, k_X12_count_77, k_X12_count_80, k_X12_count_81, k_X12_count_82, k_X12_count_85, k_X12_count_86, k_X12_count_87, k_X12_count_90, k_X12_count_91, k_X12_count_92, k_X12_count_95, k_X12_count_96, k_X12_count_97, k_X12_count_100, k_X12_count_101, k_X12_count_102, k_X12_count_105, k_X12_count_106, k_X12_count_107, k_X12_count_110, k_X12_count_111, k_X12_count_112, k_X12_count_115, k_X12_count_117, k_X12_count_118, k_X12_count_119, k_X12_count_120, k_X12_count_121, k_X12_count_122, k_X12_count_123, k_X12_count_124, k_X12_count_125, k_X12_count_128, k_X12_count_131, k_X12_count_132, k_X12_count_133, k_X12_count_136, k_X12_count_137, k_X12_count_138, k_X12_count_139, k_X12_count_140, k_X12_count_141, k_X12_count_142, k_X12_count_143, k_X12_count_144, k_X12_count_147, k_X12_count_150, k_X12_count_151, k_X12_count_152, k_X12_count_153, k_X12_count_156, k_X12_count_158, k_X12_count_159, k_X12_count_160, k_X12_count_161, k_X12_count_164, k_X12_count_165, k_X12_count_166, k_X12_count_169, k_X12_count_170, k_X12_count_171, k_X12_count_174, k_X12_count_176, k_X12_count_177, k_X12_count_178, k_X12_count_179, k_X12_count_182, k_X12_count_183, k_X12_count_186, up_s, up_nj, up_na, up_up, savR_o, cpy_o, fillm_o, setAud_o, setv_o, setv_s, Int.reduceNe, Int.reduceEq, Int.reduceLT, Int.reduceAdd, not_false_eq_true, ne_eq, or_true, true_or, e29, t15]
    repeat' (first | apply And.intro | intro _)
    all_goals first | omega | exact absurd trivial (by assumption) | exact q0 (by omega) | exact q1 (by omega) | exact q2 (by omega) | exact q3 (by omega) | exact q4 (by omega) | exact q5 (by omega) | exact q6 (by omega) | exact q7 (by omega) | exact i9 (by omega) | exact q9 (by omega) | exact q10 (by omega) | exact q11 (by omega) | exact q12 (by omega) | exact q13 (by omega) | exact q14 (by omega)
/-- PLAYS by all their FEELING, CHAIRS with MONEY -/
def lnF (σ : Mem) (p : Int) : Int := fsum (mfe σ p) (mMi σ p)
def mnB (σ : Mem) (c : Int) : Bool := decide (σ 5015 25 ≤ σ 5015 (4 * c + 2))
theorem lnF_b {σ : Mem} (h : ∀ j, 0 ≤ j → j < min 16 (4 * σ 5000 28) → 0 ≤ σ 5007 j ∧ σ 5007 j ≤ 9) {p : Int} (p0 : 0 ≤ p) (p1 : p < 4 ∧ p < σ 5000 28) : 0 ≤ lnF σ p ∧ lnF σ p ≤ 1000 := by
  have hM := h (4 * p + 3) (by omega) (by omega)
  have key : ∀ n : Nat, 0 ≤ fsum (mfe σ p) n ∧ fsum (mfe σ p) n ≤ 9 * n := by
    intro n
    induction n with
    | zero => unfold fsum; omega
    | succ n ih =>
      have := h (4 * p + (n : Int) % 3) (by omega) (by omega)
      unfold fsum mfe
      unfold mfe at ih
      omega
  have := key (mMi σ p)
  have h9 : mMi σ p ≤ 9 := by unfold mMi; omega
  unfold lnF; omega
theorem wd_1903 : Cond.methodLink RX12 489 yX12_greatest ∈ TBL := tb_tab (List.mem_of_getElem? (i := 1903) (by decide +kernel)) rfl
theorem wd_1906 : Cond.code yX12_greatest cX12_greatest 4 (some .int) ∈ TBL := tb_tab (List.mem_of_getElem? (i := 1906) (by decide +kernel)) rfl
theorem lk_X12_489 : amLk RX12 489 yX12_greatest cX12_greatest 4 (some .int) 1 := ⟨wd_1903, wd_12, wd_1906, by decide +kernel, by decide +kernel, by decide⟩
theorem wd_1905 : Cond.instanceMethod yX12_greatest ∈ TBL := tb_tab (List.mem_of_getElem? (i := 1905) (by decide +kernel)) rfl
theorem sl_X12_greatest : Cond.selects RX12 yX12_greatest yX12_greatest ∈ TBL := tb_sel (List.mem_of_getElem? (i := 99) (by decide +kernel)) rfl
theorem wd_1907 : Cond.methodLink RX12 492 yX12_dullest ∈ TBL := tb_tab (List.mem_of_getElem? (i := 1907) (by decide +kernel)) rfl
theorem wd_1910 : Cond.code yX12_dullest cX12_dullest 3 (some .int) ∈ TBL := tb_tab (List.mem_of_getElem? (i := 1910) (by decide +kernel)) rfl
theorem lk_X12_492 : amLk RX12 492 yX12_dullest cX12_dullest 3 (some .int) 0 := ⟨wd_1907, wd_12, wd_1910, by decide +kernel, by decide +kernel, by decide⟩
theorem wd_1909 : Cond.instanceMethod yX12_dullest ∈ TBL := tb_tab (List.mem_of_getElem? (i := 1909) (by decide +kernel)) rfl
theorem sl_X12_dullest : Cond.selects RX12 yX12_dullest yX12_dullest ∈ TBL := tb_sel (List.mem_of_getElem? (i := 100) (by decide +kernel)) rfl
theorem wd_1911 : Cond.methodLink RX12 495 yX12_soldTo ∈ TBL := tb_tab (List.mem_of_getElem? (i := 1911) (by decide +kernel)) rfl
theorem wd_1914 : Cond.code yX12_soldTo cX12_soldTo 5 (some .int) ∈ TBL := tb_tab (List.mem_of_getElem? (i := 1914) (by decide +kernel)) rfl
theorem lk_X12_495 : amLk RX12 495 yX12_soldTo cX12_soldTo 5 (some .int) 2 := ⟨wd_1911, wd_12, wd_1914, by decide +kernel, by decide +kernel, by decide⟩
theorem wd_1913 : Cond.instanceMethod yX12_soldTo ∈ TBL := tb_tab (List.mem_of_getElem? (i := 1913) (by decide +kernel)) rfl
theorem sl_X12_soldTo : Cond.selects RX12 yX12_soldTo yX12_soldTo ∈ TBL := tb_sel (List.mem_of_getElem? (i := 101) (by decide +kernel)) rfl
def a_X12_all : AC := [(0, vAload 0 1), (1, vI 0 2), (2, vPutI 28 0 5), (5, vAload 0 6), (6, vGetI 28 29 9), (9, vIfNe 14 12), (12, vI (-1) 13), (13, vIret), (14, vI 0 15), (15, vIstore 2 16), (16, vIload 1 17), (17, vSw2 [(0, 64), (1, 70), (2, 76), (3, 82), (4, 87), (5, 94), (6, 131), (7, 179)] 187), (64, vAload 0 65), (65, vI 0 66), (66, vCallM w_X12_greatest 28 1 69), (69, vIret), (70, vAload 0 71), (71, vI 2 72), (72, vCallM w_X12_greatest 28 1 75), (75, vIret), (76, vAload 0 77), (77, vI 3 78), (78, vCallM w_X12_greatest 28 1 81), (81, vIret), (82, vAload 0 83), (83, vCallM w_X12_dullest 28 0 86), (86, vIret), (87, vAload 0 88), (88, vI 0 89), (89, vI 0 90), (90, vCallM w_X12_soldTo 28 2 93), (93, vIret), (94, vI 1 95), (95, vIstore 3 96), (96, vIload 3 97), (97, vAload 0 98), (98, vGetI 28 28 101), (101, vIcGe 129 104), (104, vAload 0 105), (105, vIload 3 106), (106, vCallM w_X12_sumOf 28 1 109), (109, vAload 0 110), (110, vIload 2 111), (111, vCallM w_X12_sumOf 28 1 114), (114, vIcLe 121 117), (117, vIload 3 118), (118, vGoto 122), (121, vIload 2 122), (122, vIstore 2 123), (123, vIinc 3 1 126), (126, vGoto 96), (129, vIload 2 130), (130, vIret), (131, vI 0 132), (132, vIstore 3 133), (133, vIload 3 134), (134, vAload 0 135), (135, vGetI 28 29 138), (138, vIcGe 177 141), (141, vIload 2 142), (142, vAload 0 143), (143, vGetR TT 28 36 8 146), (146, vI 4 147), (147, vIload 3 148), (148, vImul 149), (149, vI 2 150), (150, vIadd 151), (151, vIald TT 152), (152, vAload 0 153), (153, vGetR TT 28 36 8 156), (156, vI 25 158), (158, vIald TT 159), (159, vIcLt 168 162), (162, vI 1 163), (163, vIload 3 164), (164, vIshl 165), (165, vGoto 169), (168, vI 0 169), (169, vIor 170), (170, vIstore 2 171), (171, vIinc 3 1 174), (174, vGoto 133), (177, vIload 2 178), (178, vIret), (179, vAload 0 180), (180, vI 2 181), (181, vI 6 183), (183, vCallM w_X12_soldTo 28 2 186), (186, vIret), (187, vI (-1) 188), (188, vIret)]
theorem k_X12_all_0 : look a_X12_all 0 = vAload 0 1 := rfl
theorem k_X12_all_1 : look a_X12_all 1 = vI 0 2 := rfl
theorem k_X12_all_2 : look a_X12_all 2 = vPutI 28 0 5 := rfl
theorem k_X12_all_5 : look a_X12_all 5 = vAload 0 6 := rfl
theorem k_X12_all_6 : look a_X12_all 6 = vGetI 28 29 9 := rfl
theorem k_X12_all_9 : look a_X12_all 9 = vIfNe 14 12 := rfl
theorem k_X12_all_12 : look a_X12_all 12 = vI (-1) 13 := rfl
theorem k_X12_all_13 : look a_X12_all 13 = vIret := rfl
theorem k_X12_all_14 : look a_X12_all 14 = vI 0 15 := rfl
theorem k_X12_all_15 : look a_X12_all 15 = vIstore 2 16 := rfl
theorem k_X12_all_16 : look a_X12_all 16 = vIload 1 17 := rfl
theorem k_X12_all_17 : look a_X12_all 17 = vSw2 [(0, 64), (1, 70), (2, 76), (3, 82), (4, 87), (5, 94), (6, 131), (7, 179)] 187 := rfl
theorem k_X12_all_64 : look a_X12_all 64 = vAload 0 65 := rfl
theorem k_X12_all_65 : look a_X12_all 65 = vI 0 66 := rfl
theorem k_X12_all_66 : look a_X12_all 66 = vCallM w_X12_greatest 28 1 69 := rfl
theorem k_X12_all_69 : look a_X12_all 69 = vIret := rfl
theorem k_X12_all_70 : look a_X12_all 70 = vAload 0 71 := rfl
theorem k_X12_all_71 : look a_X12_all 71 = vI 2 72 := rfl
theorem k_X12_all_72 : look a_X12_all 72 = vCallM w_X12_greatest 28 1 75 := rfl
theorem k_X12_all_75 : look a_X12_all 75 = vIret := rfl
theorem k_X12_all_76 : look a_X12_all 76 = vAload 0 77 := rfl
theorem k_X12_all_77 : look a_X12_all 77 = vI 3 78 := rfl
theorem k_X12_all_78 : look a_X12_all 78 = vCallM w_X12_greatest 28 1 81 := rfl
theorem k_X12_all_81 : look a_X12_all 81 = vIret := rfl
theorem k_X12_all_82 : look a_X12_all 82 = vAload 0 83 := rfl
theorem k_X12_all_83 : look a_X12_all 83 = vCallM w_X12_dullest 28 0 86 := rfl
theorem k_X12_all_86 : look a_X12_all 86 = vIret := rfl
theorem k_X12_all_87 : look a_X12_all 87 = vAload 0 88 := rfl
theorem k_X12_all_88 : look a_X12_all 88 = vI 0 89 := rfl
theorem k_X12_all_89 : look a_X12_all 89 = vI 0 90 := rfl
theorem k_X12_all_90 : look a_X12_all 90 = vCallM w_X12_soldTo 28 2 93 := rfl
theorem k_X12_all_93 : look a_X12_all 93 = vIret := rfl
theorem k_X12_all_94 : look a_X12_all 94 = vI 1 95 := rfl
theorem k_X12_all_95 : look a_X12_all 95 = vIstore 3 96 := rfl
theorem k_X12_all_96 : look a_X12_all 96 = vIload 3 97 := rfl
theorem k_X12_all_97 : look a_X12_all 97 = vAload 0 98 := rfl
theorem k_X12_all_98 : look a_X12_all 98 = vGetI 28 28 101 := rfl
theorem k_X12_all_101 : look a_X12_all 101 = vIcGe 129 104 := rfl
theorem k_X12_all_104 : look a_X12_all 104 = vAload 0 105 := rfl
theorem k_X12_all_105 : look a_X12_all 105 = vIload 3 106 := rfl
theorem k_X12_all_106 : look a_X12_all 106 = vCallM w_X12_sumOf 28 1 109 := rfl
theorem k_X12_all_109 : look a_X12_all 109 = vAload 0 110 := rfl
theorem k_X12_all_110 : look a_X12_all 110 = vIload 2 111 := rfl
theorem k_X12_all_111 : look a_X12_all 111 = vCallM w_X12_sumOf 28 1 114 := rfl
theorem k_X12_all_114 : look a_X12_all 114 = vIcLe 121 117 := rfl
theorem k_X12_all_117 : look a_X12_all 117 = vIload 3 118 := rfl
theorem k_X12_all_118 : look a_X12_all 118 = vGoto 122 := rfl
theorem k_X12_all_121 : look a_X12_all 121 = vIload 2 122 := rfl
theorem k_X12_all_122 : look a_X12_all 122 = vIstore 2 123 := rfl
theorem k_X12_all_123 : look a_X12_all 123 = vIinc 3 1 126 := rfl
theorem k_X12_all_126 : look a_X12_all 126 = vGoto 96 := rfl
theorem k_X12_all_129 : look a_X12_all 129 = vIload 2 130 := rfl
theorem k_X12_all_130 : look a_X12_all 130 = vIret := rfl
theorem k_X12_all_131 : look a_X12_all 131 = vI 0 132 := rfl
theorem k_X12_all_132 : look a_X12_all 132 = vIstore 3 133 := rfl
theorem k_X12_all_133 : look a_X12_all 133 = vIload 3 134 := rfl
theorem k_X12_all_134 : look a_X12_all 134 = vAload 0 135 := rfl
theorem k_X12_all_135 : look a_X12_all 135 = vGetI 28 29 138 := rfl
theorem k_X12_all_138 : look a_X12_all 138 = vIcGe 177 141 := rfl
theorem k_X12_all_141 : look a_X12_all 141 = vIload 2 142 := rfl
theorem k_X12_all_142 : look a_X12_all 142 = vAload 0 143 := rfl
theorem k_X12_all_143 : look a_X12_all 143 = vGetR TT 28 36 8 146 := rfl
theorem k_X12_all_146 : look a_X12_all 146 = vI 4 147 := rfl
theorem k_X12_all_147 : look a_X12_all 147 = vIload 3 148 := rfl
theorem k_X12_all_148 : look a_X12_all 148 = vImul 149 := rfl
theorem k_X12_all_149 : look a_X12_all 149 = vI 2 150 := rfl
theorem k_X12_all_150 : look a_X12_all 150 = vIadd 151 := rfl
theorem k_X12_all_151 : look a_X12_all 151 = vIald TT 152 := rfl
theorem k_X12_all_152 : look a_X12_all 152 = vAload 0 153 := rfl
theorem k_X12_all_153 : look a_X12_all 153 = vGetR TT 28 36 8 156 := rfl
theorem k_X12_all_156 : look a_X12_all 156 = vI 25 158 := rfl
theorem k_X12_all_158 : look a_X12_all 158 = vIald TT 159 := rfl
theorem k_X12_all_159 : look a_X12_all 159 = vIcLt 168 162 := rfl
theorem k_X12_all_162 : look a_X12_all 162 = vI 1 163 := rfl
theorem k_X12_all_163 : look a_X12_all 163 = vIload 3 164 := rfl
theorem k_X12_all_164 : look a_X12_all 164 = vIshl 165 := rfl
theorem k_X12_all_165 : look a_X12_all 165 = vGoto 169 := rfl
theorem k_X12_all_168 : look a_X12_all 168 = vI 0 169 := rfl
theorem k_X12_all_169 : look a_X12_all 169 = vIor 170 := rfl
theorem k_X12_all_170 : look a_X12_all 170 = vIstore 2 171 := rfl
theorem k_X12_all_171 : look a_X12_all 171 = vIinc 3 1 174 := rfl
theorem k_X12_all_174 : look a_X12_all 174 = vGoto 133 := rfl
theorem k_X12_all_177 : look a_X12_all 177 = vIload 2 178 := rfl
theorem k_X12_all_178 : look a_X12_all 178 = vIret := rfl
theorem k_X12_all_179 : look a_X12_all 179 = vAload 0 180 := rfl
theorem k_X12_all_180 : look a_X12_all 180 = vI 2 181 := rfl
theorem k_X12_all_181 : look a_X12_all 181 = vI 6 183 := rfl
theorem k_X12_all_183 : look a_X12_all 183 = vCallM w_X12_soldTo 28 2 186 := rfl
theorem k_X12_all_186 : look a_X12_all 186 = vIret := rfl
theorem k_X12_all_187 : look a_X12_all 187 = vI (-1) 188 := rfl
theorem k_X12_all_188 : look a_X12_all 188 = vIret := rfl
theorem o_X12_all {X : amX} (e1 : XT X = TT) (e2 : XD X = 2) (hB : amB X RX12 cX12_all (some .int) 4) : ∀ pc, amOK X pc (look a_X12_all pc) := by
  have hT : amTok (XT X) := e1 ▸ TT_ok
  refine look_ok ?_
  unfold a_X12_all
  refine fc (ok_aload_n hB dX12_all_0) ?_
  refine fc (ok_iconst hB dX12_all_1) ?_
  refine fc (ok_putI hB hT fp_X12_111 rfl rfl rfl af_12_0 dX12_all_2) ?_
  refine fc (ok_aload_n hB dX12_all_5) ?_
  refine fc (ok_getI hB hT fl_X12_317 rfl rfl (Or.inl af_12_29) dX12_all_6) ?_
  refine fc (ok_if_ne hB (t := 14) (by decide) dX12_all_9) ?_
  refine fc (ok_iconst hB dX12_all_12) ?_
  refine fc (ok_iret hB dX12_all_13) ?_
  refine fc (ok_iconst hB dX12_all_14) ?_
  refine fc (ok_istore_n hB (by decide) dX12_all_15) ?_
  refine fc (ok_iload_n hB dX12_all_16) ?_
  refine fc (ok_sw2 (by decide) (ok_tableswitch hB [(0, 64), (1, 70), (2, 76), (3, 82), (4, 87), (5, 94), (6, 131), (7, 179)] dX12_all_17 (by decide) (by decide) (by decide) (by decide))) ?_
  refine fc (ok_aload_n hB dX12_all_64) ?_
  refine fc (ok_iconst hB dX12_all_65) ?_
  refine fc (ok_callM hB hT (e1 ▸ s_X12_greatest) lk_X12_489 (by rw [e2]; decide) (c := 12) rfl rfl rfl wd_1905 sl_X12_greatest dX12_all_66) ?_
  refine fc (ok_iret hB dX12_all_69) ?_
  refine fc (ok_aload_n hB dX12_all_70) ?_
  refine fc (ok_iconst hB dX12_all_71) ?_
  refine fc (ok_callM hB hT (e1 ▸ s_X12_greatest) lk_X12_489 (by rw [e2]; decide) (c := 12) rfl rfl rfl wd_1905 sl_X12_greatest dX12_all_72) ?_
  refine fc (ok_iret hB dX12_all_75) ?_
  refine fc (ok_aload_n hB dX12_all_76) ?_
  refine fc (ok_iconst hB dX12_all_77) ?_
  refine fc (ok_callM hB hT (e1 ▸ s_X12_greatest) lk_X12_489 (by rw [e2]; decide) (c := 12) rfl rfl rfl wd_1905 sl_X12_greatest dX12_all_78) ?_
  refine fc (ok_iret hB dX12_all_81) ?_
  refine fc (ok_aload_n hB dX12_all_82) ?_
  refine fc (ok_callM hB hT (e1 ▸ s_X12_dullest) lk_X12_492 (by rw [e2]; decide) (c := 12) rfl rfl rfl wd_1909 sl_X12_dullest dX12_all_83) ?_
  refine fc (ok_iret hB dX12_all_86) ?_
  refine fc (ok_aload_n hB dX12_all_87) ?_
  refine fc (ok_iconst hB dX12_all_88) ?_
  refine fc (ok_iconst hB dX12_all_89) ?_
  refine fc (ok_callM hB hT (e1 ▸ s_X12_soldTo) lk_X12_495 (by rw [e2]; decide) (c := 12) rfl rfl rfl wd_1913 sl_X12_soldTo dX12_all_90) ?_
  refine fc (ok_iret hB dX12_all_93) ?_
  refine fc (ok_iconst hB dX12_all_94) ?_
  refine fc (ok_istore_n hB (by decide) dX12_all_95) ?_
  refine fc (ok_iload_n hB dX12_all_96) ?_
  refine fc (ok_aload_n hB dX12_all_97) ?_
  refine fc (ok_getI hB hT fl_X12_314 rfl rfl (Or.inl af_12_28) dX12_all_98) ?_
  refine fc (ok_icmp_ge hB (t := 129) (by decide) dX12_all_101) ?_
  refine fc (ok_aload_n hB dX12_all_104) ?_
  refine fc (ok_iload_n hB dX12_all_105) ?_
  refine fc (ok_callM hB hT (e1 ▸ s_X12_sumOf) lk_X12_498 (by rw [e2]; decide) (c := 12) rfl rfl rfl wd_1921 sl_X12_sumOf dX12_all_106) ?_
  refine fc (ok_aload_n hB dX12_all_109) ?_
  refine fc (ok_iload_n hB dX12_all_110) ?_
  refine fc (ok_callM hB hT (e1 ▸ s_X12_sumOf) lk_X12_498 (by rw [e2]; decide) (c := 12) rfl rfl rfl wd_1921 sl_X12_sumOf dX12_all_111) ?_
  refine fc (ok_icmp_le hB (t := 121) (by decide) dX12_all_114) ?_
  refine fc (ok_iload_n hB dX12_all_117) ?_
  refine fc (ok_goto hB (t := 122) (by decide) dX12_all_118) ?_
  refine fc (ok_iload_n hB dX12_all_121) ?_
  refine fc (ok_istore_n hB (by decide) dX12_all_122) ?_
  refine fc (ok_iinc hB (by decide) dX12_all_123) ?_
  refine fc (ok_goto hB (t := 96) (by decide) dX12_all_126) ?_
  refine fc (ok_iload_n hB dX12_all_129) ?_
  refine fc (ok_iret hB dX12_all_130) ?_
  refine fc (ok_iconst hB dX12_all_131) ?_
  refine fc (ok_istore_n hB (by decide) dX12_all_132) ?_
  refine fc (ok_iload_n hB dX12_all_133) ?_
  refine fc (ok_aload_n hB dX12_all_134) ?_
  refine fc (ok_getI hB hT fl_X12_317 rfl rfl (Or.inl af_12_29) dX12_all_135) ?_
  refine fc (ok_icmp_ge hB (t := 177) (by decide) dX12_all_138) ?_
  refine fc (ok_iload_n hB dX12_all_141) ?_
  refine fc (ok_aload_n hB dX12_all_142) ?_
  refine fc (okt_getR e1 hB hT fl_X12_67 rfl af_12_36 at_12_36 (by decide) dX12_all_143) ?_
  refine fc (ok_iconst hB dX12_all_146) ?_
  refine fc (ok_iload_n hB dX12_all_147) ?_
  refine fc (ok_imul hB dX12_all_148) ?_
  refine fc (ok_iconst hB dX12_all_149) ?_
  refine fc (ok_iadd hB dX12_all_150) ?_
  refine fc (okt_iaload e1 hB dX12_all_151) ?_
  refine fc (ok_aload_n hB dX12_all_152) ?_
  refine fc (okt_getR e1 hB hT fl_X12_67 rfl af_12_36 at_12_36 (by decide) dX12_all_153) ?_
  refine fc (ok_bipush hB dX12_all_156 (by decide)) ?_
  refine fc (okt_iaload e1 hB dX12_all_158) ?_
  refine fc (ok_icmp_lt hB (t := 168) (by decide) dX12_all_159) ?_
  refine fc (ok_iconst hB dX12_all_162) ?_
  refine fc (ok_iload_n hB dX12_all_163) ?_
  refine fc (ok_ishl hB dX12_all_164) ?_
  refine fc (ok_goto hB (t := 169) (by decide) dX12_all_165) ?_
  refine fc (ok_iconst hB dX12_all_168) ?_
  refine fc (ok_ior hB dX12_all_169) ?_
  refine fc (ok_istore_n hB (by decide) dX12_all_170) ?_
  refine fc (ok_iinc hB (by decide) dX12_all_171) ?_
  refine fc (ok_goto hB (t := 133) (by decide) dX12_all_174) ?_
  refine fc (ok_iload_n hB dX12_all_177) ?_
  refine fc (ok_iret hB dX12_all_178) ?_
  refine fc (ok_aload_n hB dX12_all_179) ?_
  refine fc (ok_iconst hB dX12_all_180) ?_
  refine fc (ok_bipush hB dX12_all_181 (by decide)) ?_
  refine fc (ok_callM hB hT (e1 ▸ s_X12_soldTo) lk_X12_495 (by rw [e2]; decide) (c := 12) rfl rfl rfl wd_1913 sl_X12_soldTo dX12_all_183) ?_
  refine fc (ok_iret hB dX12_all_186) ?_
  refine fc (ok_iconst hB dX12_all_187) ?_
  refine fc (ok_iret hB dX12_all_188) ?_
  exact fn
def inv_alm (σ : Mem) (w : Int) (n pc : Nat) (ls st : List AV) (σ' : Mem) : Prop := st = [] ∧ σ' = th0 σ ∧ σ 5000 29 ≠ 0 ∧
  ((∃ k : Nat, pc = 96 ∧ w = 5 ∧ ls = [(28, 5000), (0, w), (0, fbest (lnF σ) k), (0, (k : Int))] ∧ 1 ≤ k ∧ (k : Int) + n = max 1 (σ 5000 28)) ∨
   (∃ k : Nat, pc = 133 ∧ w = 6 ∧ ls = [(28, 5000), (0, w), (0, gb (mnB σ) k), (0, (k : Int))] ∧ (k : Int) + n = σ 5000 29))
def w_X12_all : WP := fun av σ Q => ∃ (w : Int), av = [(28, 5000), (0, w)] ∧ (InR w ∧ mX σ 5015 ∧ (σ 5000 29 = 0 ∨ w < 0 ∨ 7 < w → Q (0, -1) (th0 σ)) ∧ (σ 5000 29 ≠ 0 → (w = 0 → Q (0, fbest (fun c => σ 5015 (4 * c + 0)) (max 1 (σ 5000 29)).toNat) (th0 σ)) ∧ (w = 1 → Q (0, fbest (fun c => σ 5015 (4 * c + 2)) (max 1 (σ 5000 29)).toNat) (th0 σ)) ∧ (w = 2 → Q (0, fbest (fun c => σ 5015 (4 * c + 3)) (max 1 (σ 5000 29)).toNat) (th0 σ)) ∧ (w = 3 → Q (0, fbest (σ 5011) (max 1 (σ 5000 30)).toNat) (th0 σ)) ∧ (w = 4 → Q (0, gb (sdB σ 0 0) (σ 5000 30).toNat) (th0 σ)) ∧ (w = 5 → Q (0, fbest (lnF σ) (max 1 (σ 5000 28)).toNat) (th0 σ)) ∧ (w = 6 → Q (0, gb (mnB σ) (σ 5000 29).toNat) (th0 σ)) ∧ (w = 7 → Q (0, gb (sdB σ 2 6) (σ 5000 30).toNat) (th0 σ))))
theorem w_X12_all_e (w : Int) (σ : Mem) (Q : AV → Mem → Prop) : w_X12_all [(28, 5000), (0, w)] σ Q = (InR w ∧ mX σ 5015 ∧ (σ 5000 29 = 0 ∨ w < 0 ∨ 7 < w → Q (0, -1) (th0 σ)) ∧ (σ 5000 29 ≠ 0 → (w = 0 → Q (0, fbest (fun c => σ 5015 (4 * c + 0)) (max 1 (σ 5000 29)).toNat) (th0 σ)) ∧ (w = 1 → Q (0, fbest (fun c => σ 5015 (4 * c + 2)) (max 1 (σ 5000 29)).toNat) (th0 σ)) ∧ (w = 2 → Q (0, fbest (fun c => σ 5015 (4 * c + 3)) (max 1 (σ 5000 29)).toNat) (th0 σ)) ∧ (w = 3 → Q (0, fbest (σ 5011) (max 1 (σ 5000 30)).toNat) (th0 σ)) ∧ (w = 4 → Q (0, gb (sdB σ 0 0) (σ 5000 30).toNat) (th0 σ)) ∧ (w = 5 → Q (0, fbest (lnF σ) (max 1 (σ 5000 28)).toNat) (th0 σ)) ∧ (w = 6 → Q (0, gb (mnB σ) (σ 5000 29).toNat) (th0 σ)) ∧ (w = 7 → Q (0, gb (sdB σ 2 6) (σ 5000 30).toNat) (th0 σ)))) := by
  apply propext; constructor
  · rintro ⟨w', h9, hb9⟩; cases h9; exact hb9
  · intro hb9; exact ⟨w, rfl, hb9⟩

set_option maxRecDepth 100000 in
set_option maxHeartbeats 4000000 in
theorem s_X12_all : ∀ av σ Q, w_X12_all av σ Q → amCall 2 0 0 TT yX12_all cX12_all 4 (some .int) av σ Q := by
  rintro av σ Q ⟨w, rfl, hw, hx, h1, h2⟩
  have t15 : th0 σ 5015 = σ 5015 := th_o σ (by decide)
  have t11 : th0 σ 5011 = σ 5011 := th_o σ (by decide)
  have t7 : th0 σ 5007 = σ 5007 := th_o σ (by decide)
  have e28 : th0 σ 5000 28 = σ 5000 28 := th_k σ (by decide)
  have e29 : th0 σ 5000 29 = σ 5000 29 := th_k σ (by decide)
  have e30 : th0 σ 5000 30 = σ 5000 30 := th_k σ (by decide)
  have es : ∀ f g, sdB (th0 σ) f g = sdB σ f g := fun f g => by funext t; unfold sdB tkN; rw [t15, e29]
  have el : ∀ p, fsum (mfe (th0 σ) p) (mMi (th0 σ) p) = lnF σ p := fun p => by
    have : mfe (th0 σ) p = mfe σ p := by funext k; unfold mfe; rw [t7]
    unfold lnF mMi; rw [this, t7]
  obtain ⟨hw15, hh, hr⟩ := id hx
  have n29 := hh.2.2.1
  have n30 := hh.2.2.2.1
  have n28 := hh.2.2.2.2.1
  have hpl := hh.2.2.2.2.2.1
  have hsi := hh.2.2.2.2.2.2.1
  have j0 : ∀ c, 0 ≤ c → c < σ 5000 29 → InR (σ 5015 (4 * c + 0)) := fun c a b => by have := (hr.1 c a b).1; rw [Int.add_zero]; exact ⟨by omega, by omega⟩
  have j1 : ∀ c, 0 ≤ c → c < σ 5000 29 → InR (σ 5015 (4 * c + 1)) := fun c a b => by have := (hr.1 c a b).2.1; exact ⟨by omega, by omega⟩
  have j2 : ∀ c, 0 ≤ c → c < σ 5000 29 → InR (σ 5015 (4 * c + 2)) := fun c a b => by have := (hr.1 c a b).2.2.1; exact ⟨by omega, by omega⟩
  have j3 : ∀ c, 0 ≤ c → c < σ 5000 29 → InR (σ 5015 (4 * c + 3)) := fun c a b => by have := (hr.1 c a b).2.2.2; exact ⟨by omega, by omega⟩
  have n30 := hh.2.2.2.1
  have j11 : ∀ t, 0 ≤ t → t < σ 5000 30 → InR (σ 5011 t) := fun t a b => by have := hsi t a (by omega); exact ⟨by omega, by omega⟩
  have r25 := hr.2.2.1
  refine am_m [96, 133] (inv_alm σ w) (own := RX12) (A := look a_X12_all) (fun X e1 e2 hB => o_X12_all e1 e2 hB) rfl (by decide +kernel) rfl rfl ?_ ⟨60, ?_⟩ (w := 4)
  · rintro n pc ls st σ' ⟨rfl, rfl, h29, ⟨k, rfl, w5, rfl, hk, hn⟩ | ⟨k, rfl, w6, rfl, hn⟩⟩
    · have fb := fbest_b (lnF σ) k
      have fs := fbest_s (lnF σ) k
      refine ⟨60, ?_⟩
      by_cases cc : (k : Int) < σ 5000 28
      · have a1 := lnF_b hpl (p := k) (by omega) (by omega)
        have a2 := lnF_b hpl (p := fbest (lnF σ) k) fb.1 (by omega)
        have m1 := hpl (4 * (k : Int) + 3) (by omega) (by omega)
        have m2 := hpl (4 * fbest (lnF σ) k + 3) (by omega) (by omega)
        have i9 : ∀ v, v = fbest (lnF σ) (k + 1) → ∃ k', k' < n ∧ inv_alm σ w k' 96 [(28, 5000), (0, w), (0, v), (0, (k : Int) + 1)] [] (th0 σ) := fun v q => ⟨n - 1, by omega, rfl, rfl, h29, Or.inl ⟨k + 1, rfl, w5, by rw [q]; rfl, by omega, by omega⟩⟩
        generalize hB : fbest (lnF σ) k = B at *
        have i1 : ¬ lnF σ k ≤ lnF σ B → _ := fun q => i9 k (by rw [fs, if_pos (by omega)])
        have i2 : lnF σ k ≤ lnF σ B → _ := fun q => i9 B (by rw [fs, if_neg (by omega)])
        simp only [↓reduceIte, inR_0, inR_1, inR_m, vSw2_e, swP_n, swP_c, vI_e, vL_e, vNull_e, vIload_e, vLload_e, vAload_e, vIstore_e, vLstore_e, vAstore_e, vIinc_e, vIadd_e, vIsub_e, vImul_e, vIand_e, vIor_e, vIxor_e, vIshl_e, vIshr_e, vIushr_e, vIdiv_e, vIrem_e, vLadd_e, vLsub_e, vLmul_e, vLand_e, vLor_e, vLxor_e, vLdiv_e, vLrem_e, vLushr_e, vLshl_e, vLcmp_e, vIneg_e, vI2l_e, vL2i_e, vI2b_e, vI2c_e, vDup_e, vPop_e, vDup2_e, vGoto_e, vIcEq_e, vIfEq_e, vIcNe_e, vIfNe_e, vIcLt_e, vIfLt_e, vIcGe_e, vIfGe_e, vIcGt_e, vIfGt_e, vIcLe_e, vIfLe_e, vNonnull_e, vSw_e, vGetI_e, vGetL_e, vGetR_e, vPutI_e, vPutZ_e, vPutL_e, vPutR_e, vIald_e, vIald_s, vLald_e, vBald_e, vBald_s, vAald_e, vIast_e, vLast_e, vBast_e, vAast_e, vAlen_e8, vAlen_e9, vAlen_e10, vAlen_e11, vAlen_e5, vAlen_e3, vGets_e, vCompact_e, vLdcS_e, vIret_e, vZret_e, vCret_e, vBret_e, vLret_e, vVret_e, vAret_e, vCallM_e0, vCallMV_e0, vCallS_e0, vCallSV_e0, vCallM_e1, vCallMV_e1, vCallS_e1, vCallSV_e1, vCallM_e2, vCallMV_e2, vCallS_e2, vCallSV_e2, vCallM_e3, vCallMV_e3, vCallS_e3, vCallSV_e3, vCallM_e4, vCallMV_e4, vCallS_e4, vCallSV_e4, vCallM_e5, vCallMV_e5, vCallS_e5, vCallSV_e5, vCallM_e6, vCallMV_e6, vCallS_e6, vCallSV_e6, vCallM_e7, vCallMV_e7, vCallS_e7, vCallSV_e7, vBad_e, vStrVal_e, vStrCod_e, vForm_e, vCallT_e0, vCallT_e1, vCallT_e2, vCopy_e, rf_0_0, rf_0_1, rf_0_2, rf_0_3, rf_0_4, rf_0_7, rf_0_10, rf_0_11, rf_0_12, rf_0_13, rf_0_14, rf_0_15, rf_0_16, rf_1_0, rf_3_0, rf_3_1, rf_6_0, rf_6_1, rf_9_0, rf_9_1, rf_9_3, rf_13_0, rf_13_1, rf_13_2, rf_16_0, rf_16_1, rf_16_2, rf_16_3, rf_21_0, rf_21_1, rf_21_2, rf_21_3, rf_26_0, rf_26_1, rf_26_2, rf_26_3, rf_26_4, rf_26_5, rf_26_6, rf_31_0, rf_31_2, rf_31_5, rf_31_6, rf_36_0, rf_36_1, rf_36_2, rf_36_3, rf_39_0, rf_39_1, rf_39_2, rf_41_0, rf_41_1, rf_41_2, rf_41_3, rf_5000_1, rf_5000_2, rf_5000_3, rf_5000_4, rf_5000_5, rf_5000_15, rf_5000_16, rf_5000_18, rf_5000_19, rf_5000_20, rf_5000_21, rf_5000_22, rf_5000_23, rf_5000_24, rf_5000_25, rf_5000_26, rf_5000_27, rf_5000_36, rf_5000_37, rf_5000_40, rf_5000_41, rf_5000_42, rf_5000_43, rf_5000_44, rf_5000_45, rf_5000_47, rf_5000_52, rf_5000_54, rf_5000_55, rf_100_0, rf_100_1, rf_103_0, rf_103_1, rf_106_0, rf_106_1, rf_109_0, rf_109_1, al_2, al_4, al_5, al_7, al_8, al_10, al_11, al_12, al_14, al_15, al_17, al_18, al_19, al_20, al_22, al_23, al_24, al_25, al_27, al_28, al_29, al_30, al_32, al_33, al_34, al_35, al_37, al_38, al_40, al_42, al_5001, al_5002, al_5003, al_5004, al_5005, al_5006, al_5007, al_5008, al_5009, al_5010, al_5011, al_5012, al_5013, al_5014, al_5015, al_5016, al_5017, al_5018, al_5019, al_5020, al_5021, al_5022, al_5023, al_5024, al_5025, al_5026, al_9000, al_101, al_102, al_104, al_105, al_107, al_108, al_110, al_111, vcs_e, lg_c0, lg_cs, lg_nil, set_c0, set_cs, okst_0, okst_s, acok_n, acok_c, List.contains_nil, List.contains_cons, Bool.or_false, Bool.false_or, Bool.false_eq_true, if_false, if_true, ite_self, ne_eq, true_and, and_true, not_false_eq_true, not_true_eq_false, false_imp_iff, true_imp_iff, Nat.ble_eq, Bool.and_eq_true, reduceCtorEq, or_false, false_or, or_true, true_or, false_and, and_false, and_self, Int.reduceLE, Int.reduceAdd, Int.reduceSub, Int.reduceMul, Int.reduceNeg, Int.reduceLT, Int.reduceEq, Int.reduceNe, Nat.reduceBEq, Nat.reduceBNe, Nat.reduceEqDiff, amCmp_in, amCmp_lt, amCmp_le, amCmp_gt, amCmp_ge, amCmp_eq, amCmp_ne, Nat.reduceLeDiff, Nat.reduceSub, Bool.and_true, Bool.true_and, Bool.and_self, Bool.or_true, Bool.true_or, isRf_3, isRf_4, isRf_5, isRf_8, isRf_9, isRf_10, isRf_11, isRf_15, isRf_16, isRf_17, isRf_18, isRf_19, isRf_20, isRf_21, isRf_22, isRf_23, isRf_24, isRf_25, isRf_26, isRf_27, isRf_28, k_X12_all_0, k_X12_all_1, k_X12_all_2, k_X12_all_5, k_X12_all_6, k_X12_all_9, k_X12_all_12, k_X12_all_13, k_X12_all_14, k_X12_all_15, k_X12_all_16, k_X12_all_17, k_X12_all_64, k_X12_all_65, k_X12_all_66, k_X12_all_69, k_X12_all_70, k_X12_all_71, k_X12_all_72, k_X12_all_75, k_X12_all_76, k_X12_all_77, k_X12_all_78, k_X12_all_81, k_X12_all_82, k_X12_all_83, k_X12_all_86, k_X12_all_87, k_X12_all_88, k_X12_all_89, k_X12_all_90, k_X12_all_93, k_X12_all_94, k_X12_all_95, k_X12_all_96, k_X12_all_97, k_X12_all_98, k_X12_all_101, k_X12_all_104, k_X12_all_105, k_X12_all_106, k_X12_all_109, k_X12_all_110, k_X12_all_111, k_X12_all_114, k_X12_all_117, k_X12_all_118, k_X12_all_121, k_X12_all_122, k_X12_all_123, k_X12_all_126, k_X12_all_129, k_X12_all_130, k_X12_all_131, k_X12_all_132, k_X12_all_133, k_X12_all_134, k_X12_all_135, k_X12_all_138, k_X12_all_141, k_X12_all_142, k_X12_all_143, k_X12_all_146, k_X12_all_147, k_X12_all_148, k_X12_all_149, k_X12_all_150, k_X12_all_151, k_X12_all_152, k_X12_all_153, k_X12_all_156, k_X12_all_158, k_X12_all_159, k_X12_all_162, k_X12_all_163, k_X12_all_164, k_X12_all_165, k_X12_all_168, k_X12_all_169, k_X12_all_170, k_X12_all_171, k_X12_all_174, k_X12_all_177, k_X12_all_178, k_X12_all_179, k_X12_all_180, k_X12_all_181, k_X12_all_183, k_X12_all_186, k_X12_all_187, k_X12_all_188, w_X12_dullest_e, w_X12_greatest_e, w_X12_soldTo_e, w_X12_sumOf_e, e28, el, t7]
        repeat' (first | apply And.intro | intro _)
        all_goals first | omega | exact absurd trivial (by assumption) | exact i1 (by assumption) | exact i2 (by assumption)
      · have q := (h2 h29).2.2.2.2.2.1 w5
        rw [show (max 1 (σ 5000 28)).toNat = k by omega] at q
        simp only [↓reduceIte, inR_0, inR_1, inR_m, vSw2_e, swP_n, swP_c, vI_e, vL_e, vNull_e, vIload_e, vLload_e, vAload_e, vIstore_e, vLstore_e, vAstore_e, vIinc_e, vIadd_e, vIsub_e, vImul_e, vIand_e, vIor_e, vIxor_e, vIshl_e, vIshr_e, vIushr_e, vIdiv_e, vIrem_e, vLadd_e, vLsub_e, vLmul_e, vLand_e, vLor_e, vLxor_e, vLdiv_e, vLrem_e, vLushr_e, vLshl_e, vLcmp_e, vIneg_e, vI2l_e, vL2i_e, vI2b_e, vI2c_e, vDup_e, vPop_e, vDup2_e, vGoto_e, vIcEq_e, vIfEq_e, vIcNe_e, vIfNe_e, vIcLt_e, vIfLt_e, vIcGe_e, vIfGe_e, vIcGt_e, vIfGt_e, vIcLe_e, vIfLe_e, vNonnull_e, vSw_e, vGetI_e, vGetL_e, vGetR_e, vPutI_e, vPutZ_e, vPutL_e, vPutR_e, vIald_e, vIald_s, vLald_e, vBald_e, vBald_s, vAald_e, vIast_e, vLast_e, vBast_e, vAast_e, vAlen_e8, vAlen_e9, vAlen_e10, vAlen_e11, vAlen_e5, vAlen_e3, vGets_e, vCompact_e, vLdcS_e, vIret_e, vZret_e, vCret_e, vBret_e, vLret_e, vVret_e, vAret_e, vCallM_e0, vCallMV_e0, vCallS_e0, vCallSV_e0, vCallM_e1, vCallMV_e1, vCallS_e1, vCallSV_e1, vCallM_e2, vCallMV_e2, vCallS_e2, vCallSV_e2, vCallM_e3, vCallMV_e3, vCallS_e3, vCallSV_e3, vCallM_e4, vCallMV_e4, vCallS_e4, vCallSV_e4, vCallM_e5, vCallMV_e5, vCallS_e5, vCallSV_e5, vCallM_e6, vCallMV_e6, vCallS_e6, vCallSV_e6, vCallM_e7, vCallMV_e7, vCallS_e7, vCallSV_e7, vBad_e, vStrVal_e, vStrCod_e, vForm_e, vCallT_e0, vCallT_e1, vCallT_e2, vCopy_e, rf_0_0, rf_0_1, rf_0_2, rf_0_3, rf_0_4, rf_0_7, rf_0_10, rf_0_11, rf_0_12, rf_0_13, rf_0_14, rf_0_15, rf_0_16, rf_1_0, rf_3_0, rf_3_1, rf_6_0, rf_6_1, rf_9_0, rf_9_1, rf_9_3, rf_13_0, rf_13_1, rf_13_2, rf_16_0, rf_16_1, rf_16_2, rf_16_3, rf_21_0, rf_21_1, rf_21_2, rf_21_3, rf_26_0, rf_26_1, rf_26_2, rf_26_3, rf_26_4, rf_26_5, rf_26_6, rf_31_0, rf_31_2, rf_31_5, rf_31_6, rf_36_0, rf_36_1, rf_36_2, rf_36_3, rf_39_0, rf_39_1, rf_39_2, rf_41_0, rf_41_1, rf_41_2, rf_41_3, rf_5000_1, rf_5000_2, rf_5000_3, rf_5000_4, rf_5000_5, rf_5000_15, rf_5000_16, rf_5000_18, rf_5000_19, rf_5000_20, rf_5000_21, rf_5000_22, rf_5000_23, rf_5000_24, rf_5000_25, rf_5000_26, rf_5000_27, rf_5000_36, rf_5000_37, rf_5000_40, rf_5000_41, rf_5000_42, rf_5000_43, rf_5000_44, rf_5000_45, rf_5000_47, rf_5000_52, rf_5000_54, rf_5000_55, rf_100_0, rf_100_1, rf_103_0, rf_103_1, rf_106_0, rf_106_1, rf_109_0, rf_109_1, al_2, al_4, al_5, al_7, al_8, al_10, al_11, al_12, al_14, al_15, al_17, al_18, al_19, al_20, al_22, al_23, al_24, al_25, al_27, al_28, al_29, al_30, al_32, al_33, al_34, al_35, al_37, al_38, al_40, al_42, al_5001, al_5002, al_5003, al_5004, al_5005, al_5006, al_5007, al_5008, al_5009, al_5010, al_5011, al_5012, al_5013, al_5014, al_5015, al_5016, al_5017, al_5018, al_5019, al_5020, al_5021, al_5022, al_5023, al_5024, al_5025, al_5026, al_9000, al_101, al_102, al_104, al_105, al_107, al_108, al_110, al_111, vcs_e, lg_c0, lg_cs, lg_nil, set_c0, set_cs, okst_0, okst_s, acok_n, acok_c, List.contains_nil, List.contains_cons, Bool.or_false, Bool.false_or, Bool.false_eq_true, if_false, if_true, ite_self, ne_eq, true_and, and_true, not_false_eq_true, not_true_eq_false, false_imp_iff, true_imp_iff, Nat.ble_eq, Bool.and_eq_true, reduceCtorEq, or_false, false_or, or_true, true_or, false_and, and_false, and_self, Int.reduceLE, Int.reduceAdd, Int.reduceSub, Int.reduceMul, Int.reduceNeg, Int.reduceLT, Int.reduceEq, Int.reduceNe, Nat.reduceBEq, Nat.reduceBNe, Nat.reduceEqDiff, amCmp_in, amCmp_lt, amCmp_le, amCmp_gt, amCmp_ge, amCmp_eq, amCmp_ne, Nat.reduceLeDiff, Nat.reduceSub, Bool.and_true, Bool.true_and, Bool.and_self, Bool.or_true, Bool.true_or, isRf_3, isRf_4, isRf_5, isRf_8, isRf_9, isRf_10, isRf_11, isRf_15, isRf_16, isRf_17, isRf_18, isRf_19, isRf_20, isRf_21, isRf_22, isRf_23, isRf_24, isRf_25, isRf_26, isRf_27, isRf_28, k_X12_all_0, k_X12_all_1, k_X12_all_2, k_X12_all_5, k_X12_all_6, k_X12_all_9, k_X12_all_12, k_X12_all_13, k_X12_all_14, k_X12_all_15, k_X12_all_16, k_X12_all_17, k_X12_all_64, k_X12_all_65, k_X12_all_66, k_X12_all_69, k_X12_all_70, k_X12_all_71, k_X12_all_72, k_X12_all_75, k_X12_all_76, k_X12_all_77, k_X12_all_78, k_X12_all_81, k_X12_all_82, k_X12_all_83, k_X12_all_86, k_X12_all_87, k_X12_all_88, k_X12_all_89, k_X12_all_90, k_X12_all_93, k_X12_all_94, k_X12_all_95, k_X12_all_96, k_X12_all_97, k_X12_all_98, k_X12_all_101, k_X12_all_104, k_X12_all_105, k_X12_all_106, k_X12_all_109, k_X12_all_110, k_X12_all_111, k_X12_all_114, k_X12_all_117, k_X12_all_118, k_X12_all_121, k_X12_all_122, k_X12_all_123, k_X12_all_126, k_X12_all_129, k_X12_all_130, k_X12_all_131, k_X12_all_132, k_X12_all_133, k_X12_all_134, k_X12_all_135, k_X12_all_138, k_X12_all_141, k_X12_all_142, k_X12_all_143, k_X12_all_146, k_X12_all_147, k_X12_all_148, k_X12_all_149, k_X12_all_150, k_X12_all_151, k_X12_all_152, k_X12_all_153, k_X12_all_156, k_X12_all_158, k_X12_all_159, k_X12_all_162, k_X12_all_163, k_X12_all_164, k_X12_all_165, k_X12_all_168, k_X12_all_169, k_X12_all_170, k_X12_all_171, k_X12_all_174, k_X12_all_177, k_X12_all_178, k_X12_all_179, k_X12_all_180, k_X12_all_181, k_X12_all_183, k_X12_all_186, k_X12_all_187, k_X12_all_188, w_X12_dullest_e, w_X12_greatest_e, w_X12_soldTo_e, w_X12_sumOf_e, e28]
        repeat' (first | apply And.intro | intro _)
        all_goals first | omega | exact absurd trivial (by assumption) | exact q
    · refine ⟨60, ?_⟩
      by_cases cc : (k : Int) < σ 5000 29
      · have a1 := j2 k (by omega) cc
        have hb := gb_b (mnB σ) k
        have h64 := gb_64 (mnB σ) (n := k) (by omega)
        have e : gb (mnB σ) (k + 1) = gb (mnB σ) k + if decide (σ 5015 25 ≤ σ 5015 (4 * k + 2)) = true then 2 ^ k else 0 := rfl
        have i9 : ∀ v, v = gb (mnB σ) (k + 1) → ∃ k', k' < n ∧ inv_alm σ w k' 133 [(28, 5000), (0, w), (0, v), (0, (k : Int) + 1)] [] (th0 σ) := fun v q => ⟨n - 1, by omega, rfl, rfl, h29, Or.inr ⟨k + 1, rfl, w6, by rw [q]; rfl, by omega⟩⟩
        have b6 := bor6' (i := k) (by omega) hb.1 hb.2
        have bz := bor_z h64.1 h64.2
        generalize hB : gb (mnB σ) k = B at *
        have i1 : ¬ σ 5015 (4 * k + 2) < σ 5015 25 → _ := fun q => i9 (B + 2 ^ k) (by rw [e, if_pos (decide_eq_true (by omega))])
        have i2 : σ 5015 (4 * k + 2) < σ 5015 25 → _ := fun q => i9 B (by rw [e, if_neg (fun o => by have := of_decide_eq_true o; omega), Int.add_zero])
        simp only [↓reduceIte, inR_0, inR_1, inR_m, vSw2_e, swP_n, swP_c, vI_e, vL_e, vNull_e, vIload_e, vLload_e, vAload_e, vIstore_e, vLstore_e, vAstore_e, vIinc_e, vIadd_e, vIsub_e, vImul_e, vIand_e, vIor_e, vIxor_e, vIshl_e, vIshr_e, vIushr_e, vIdiv_e, vIrem_e, vLadd_e, vLsub_e, vLmul_e, vLand_e, vLor_e, vLxor_e, vLdiv_e, vLrem_e, vLushr_e, vLshl_e, vLcmp_e, vIneg_e, vI2l_e, vL2i_e, vI2b_e, vI2c_e, vDup_e, vPop_e, vDup2_e, vGoto_e, vIcEq_e, vIfEq_e, vIcNe_e, vIfNe_e, vIcLt_e, vIfLt_e, vIcGe_e, vIfGe_e, vIcGt_e, vIfGt_e, vIcLe_e, vIfLe_e, vNonnull_e, vSw_e, vGetI_e, vGetL_e, vGetR_e, vPutI_e, vPutZ_e, vPutL_e, vPutR_e, vIald_e, vIald_s, vLald_e, vBald_e, vBald_s, vAald_e, vIast_e, vLast_e, vBast_e, vAast_e, vAlen_e8, vAlen_e9, vAlen_e10, vAlen_e11, vAlen_e5, vAlen_e3, vGets_e, vCompact_e, vLdcS_e, vIret_e, vZret_e, vCret_e, vBret_e, vLret_e, vVret_e, vAret_e, vCallM_e0, vCallMV_e0, vCallS_e0, vCallSV_e0, vCallM_e1, vCallMV_e1, vCallS_e1, vCallSV_e1, vCallM_e2, vCallMV_e2, vCallS_e2, vCallSV_e2, vCallM_e3, vCallMV_e3, vCallS_e3, vCallSV_e3, vCallM_e4, vCallMV_e4, vCallS_e4, vCallSV_e4, vCallM_e5, vCallMV_e5, vCallS_e5, vCallSV_e5, vCallM_e6, vCallMV_e6, vCallS_e6, vCallSV_e6, vCallM_e7, vCallMV_e7, vCallS_e7, vCallSV_e7, vBad_e, vStrVal_e, vStrCod_e, vForm_e, vCallT_e0, vCallT_e1, vCallT_e2, vCopy_e, rf_0_0, rf_0_1, rf_0_2, rf_0_3, rf_0_4, rf_0_7, rf_0_10, rf_0_11, rf_0_12, rf_0_13, rf_0_14, rf_0_15, rf_0_16, rf_1_0, rf_3_0, rf_3_1, rf_6_0, rf_6_1, rf_9_0, rf_9_1, rf_9_3, rf_13_0, rf_13_1, rf_13_2, rf_16_0, rf_16_1, rf_16_2, rf_16_3, rf_21_0, rf_21_1, rf_21_2, rf_21_3, rf_26_0, rf_26_1, rf_26_2, rf_26_3, rf_26_4, rf_26_5, rf_26_6, rf_31_0, rf_31_2, rf_31_5, rf_31_6, rf_36_0, rf_36_1, rf_36_2, rf_36_3, rf_39_0, rf_39_1, rf_39_2, rf_41_0, rf_41_1, rf_41_2, rf_41_3, rf_5000_1, rf_5000_2, rf_5000_3, rf_5000_4, rf_5000_5, rf_5000_15, rf_5000_16, rf_5000_18, rf_5000_19, rf_5000_20, rf_5000_21, rf_5000_22, rf_5000_23, rf_5000_24, rf_5000_25, rf_5000_26, rf_5000_27, rf_5000_36, rf_5000_37, rf_5000_40, rf_5000_41, rf_5000_42, rf_5000_43, rf_5000_44, rf_5000_45, rf_5000_47, rf_5000_52, rf_5000_54, rf_5000_55, rf_100_0, rf_100_1, rf_103_0, rf_103_1, rf_106_0, rf_106_1, rf_109_0, rf_109_1, al_2, al_4, al_5, al_7, al_8, al_10, al_11, al_12, al_14, al_15, al_17, al_18, al_19, al_20, al_22, al_23, al_24, al_25, al_27, al_28, al_29, al_30, al_32, al_33, al_34, al_35, al_37, al_38, al_40, al_42, al_5001, al_5002, al_5003, al_5004, al_5005, al_5006, al_5007, al_5008, al_5009, al_5010, al_5011, al_5012, al_5013, al_5014, al_5015, al_5016, al_5017, al_5018, al_5019, al_5020, al_5021, al_5022, al_5023, al_5024, al_5025, al_5026, al_9000, al_101, al_102, al_104, al_105, al_107, al_108, al_110, al_111, vcs_e, lg_c0, lg_cs, lg_nil, set_c0, set_cs, okst_0, okst_s, acok_n, acok_c, List.contains_nil, List.contains_cons, Bool.or_false, Bool.false_or, Bool.false_eq_true, if_false, if_true, ite_self, ne_eq, true_and, and_true, not_false_eq_true, not_true_eq_false, false_imp_iff, true_imp_iff, Nat.ble_eq, Bool.and_eq_true, reduceCtorEq, or_false, false_or, or_true, true_or, false_and, and_false, and_self, Int.reduceLE, Int.reduceAdd, Int.reduceSub, Int.reduceMul, Int.reduceNeg, Int.reduceLT, Int.reduceEq, Int.reduceNe, Nat.reduceBEq, Nat.reduceBNe, Nat.reduceEqDiff, amCmp_in, amCmp_lt, amCmp_le, amCmp_gt, amCmp_ge, amCmp_eq, amCmp_ne, Nat.reduceLeDiff, Nat.reduceSub, Bool.and_true, Bool.true_and, Bool.and_self, Bool.or_true, Bool.true_or, isRf_3, isRf_4, isRf_5, isRf_8, isRf_9, isRf_10, isRf_11, isRf_15, isRf_16, isRf_17, isRf_18, isRf_19, isRf_20, isRf_21, isRf_22, isRf_23, isRf_24, isRf_25, isRf_26, isRf_27, isRf_28, k_X12_all_0, k_X12_all_1, k_X12_all_2, k_X12_all_5, k_X12_all_6, k_X12_all_9, k_X12_all_12, k_X12_all_13, k_X12_all_14, k_X12_all_15, k_X12_all_16, k_X12_all_17, k_X12_all_64, k_X12_all_65, k_X12_all_66, k_X12_all_69, k_X12_all_70, k_X12_all_71, k_X12_all_72, k_X12_all_75, k_X12_all_76, k_X12_all_77, k_X12_all_78, k_X12_all_81, k_X12_all_82, k_X12_all_83, k_X12_all_86, k_X12_all_87, k_X12_all_88, k_X12_all_89, k_X12_all_90, k_X12_all_93, k_X12_all_94, k_X12_all_95, k_X12_all_96, k_X12_all_97, k_X12_all_98, k_X12_all_101, k_X12_all_104, k_X12_all_105, k_X12_all_106, k_X12_all_109, k_X12_all_110, k_X12_all_111, k_X12_all_114, k_X12_all_117, k_X12_all_118, k_X12_all_121, k_X12_all_122, k_X12_all_123, k_X12_all_126, k_X12_all_129, k_X12_all_130, k_X12_all_131, k_X12_all_132, k_X12_all_133, k_X12_all_134, k_X12_all_135, k_X12_all_138, k_X12_all_141, k_X12_all_142, k_X12_all_143, k_X12_all_146, k_X12_all_147, k_X12_all_148, k_X12_all_149, k_X12_all_150, k_X12_all_151, k_X12_all_152, k_X12_all_153, k_X12_all_156, k_X12_all_158, k_X12_all_159, k_X12_all_162, k_X12_all_163, k_X12_all_164, k_X12_all_165, k_X12_all_168, k_X12_all_169, k_X12_all_170, k_X12_all_171, k_X12_all_174, k_X12_all_177, k_X12_all_178, k_X12_all_179, k_X12_all_180, k_X12_all_181, k_X12_all_183, k_X12_all_186, k_X12_all_187, k_X12_all_188, w_X12_dullest_e, w_X12_greatest_e, w_X12_soldTo_e, w_X12_sumOf_e, e29, t15, b6, bz]
        repeat' (first | apply And.intro | intro _)
        all_goals first | omega | exact absurd trivial (by assumption) | exact i1 (by assumption) | exact i2 (by assumption)
      · have q := (h2 h29).2.2.2.2.2.2.1 w6
        rw [show (σ 5000 29).toNat = k by omega] at q
        simp only [↓reduceIte, inR_0, inR_1, inR_m, vSw2_e, swP_n, swP_c, vI_e, vL_e, vNull_e, vIload_e, vLload_e, vAload_e, vIstore_e, vLstore_e, vAstore_e, vIinc_e, vIadd_e, vIsub_e, vImul_e, vIand_e, vIor_e, vIxor_e, vIshl_e, vIshr_e, vIushr_e, vIdiv_e, vIrem_e, vLadd_e, vLsub_e, vLmul_e, vLand_e, vLor_e, vLxor_e, vLdiv_e, vLrem_e, vLushr_e, vLshl_e, vLcmp_e, vIneg_e, vI2l_e, vL2i_e, vI2b_e, vI2c_e, vDup_e, vPop_e, vDup2_e, vGoto_e, vIcEq_e, vIfEq_e, vIcNe_e, vIfNe_e, vIcLt_e, vIfLt_e, vIcGe_e, vIfGe_e, vIcGt_e, vIfGt_e, vIcLe_e, vIfLe_e, vNonnull_e, vSw_e, vGetI_e, vGetL_e, vGetR_e, vPutI_e, vPutZ_e, vPutL_e, vPutR_e, vIald_e, vIald_s, vLald_e, vBald_e, vBald_s, vAald_e, vIast_e, vLast_e, vBast_e, vAast_e, vAlen_e8, vAlen_e9, vAlen_e10, vAlen_e11, vAlen_e5, vAlen_e3, vGets_e, vCompact_e, vLdcS_e, vIret_e, vZret_e, vCret_e, vBret_e, vLret_e, vVret_e, vAret_e, vCallM_e0, vCallMV_e0, vCallS_e0, vCallSV_e0, vCallM_e1, vCallMV_e1, vCallS_e1, vCallSV_e1, vCallM_e2, vCallMV_e2, vCallS_e2, vCallSV_e2, vCallM_e3, vCallMV_e3, vCallS_e3, vCallSV_e3, vCallM_e4, vCallMV_e4, vCallS_e4, vCallSV_e4, vCallM_e5, vCallMV_e5, vCallS_e5, vCallSV_e5, vCallM_e6, vCallMV_e6, vCallS_e6, vCallSV_e6, vCallM_e7, vCallMV_e7, vCallS_e7, vCallSV_e7, vBad_e, vStrVal_e, vStrCod_e, vForm_e, vCallT_e0, vCallT_e1, vCallT_e2, vCopy_e, rf_0_0, rf_0_1, rf_0_2, rf_0_3, rf_0_4, rf_0_7, rf_0_10, rf_0_11, rf_0_12, rf_0_13, rf_0_14, rf_0_15, rf_0_16, rf_1_0, rf_3_0, rf_3_1, rf_6_0, rf_6_1, rf_9_0, rf_9_1, rf_9_3, rf_13_0, rf_13_1, rf_13_2, rf_16_0, rf_16_1, rf_16_2, rf_16_3, rf_21_0, rf_21_1, rf_21_2, rf_21_3, rf_26_0, rf_26_1, rf_26_2, rf_26_3, rf_26_4, rf_26_5, rf_26_6, rf_31_0, rf_31_2, rf_31_5, rf_31_6, rf_36_0, rf_36_1, rf_36_2, rf_36_3, rf_39_0, rf_39_1, rf_39_2, rf_41_0, rf_41_1, rf_41_2, rf_41_3, rf_5000_1, rf_5000_2, rf_5000_3, rf_5000_4, rf_5000_5, rf_5000_15, rf_5000_16, rf_5000_18, rf_5000_19, rf_5000_20, rf_5000_21, rf_5000_22, rf_5000_23, rf_5000_24, rf_5000_25, rf_5000_26, rf_5000_27, rf_5000_36, rf_5000_37, rf_5000_40, rf_5000_41, rf_5000_42, rf_5000_43, rf_5000_44, rf_5000_45, rf_5000_47, rf_5000_52, rf_5000_54, rf_5000_55, rf_100_0, rf_100_1, rf_103_0, rf_103_1, rf_106_0, rf_106_1, rf_109_0, rf_109_1, al_2, al_4, al_5, al_7, al_8, al_10, al_11, al_12, al_14, al_15, al_17, al_18, al_19, al_20, al_22, al_23, al_24, al_25, al_27, al_28, al_29, al_30, al_32, al_33, al_34, al_35, al_37, al_38, al_40, al_42, al_5001, al_5002, al_5003, al_5004, al_5005, al_5006, al_5007, al_5008, al_5009, al_5010, al_5011, al_5012, al_5013, al_5014, al_5015, al_5016, al_5017, al_5018, al_5019, al_5020, al_5021, al_5022, al_5023, al_5024, al_5025, al_5026, al_9000, al_101, al_102, al_104, al_105, al_107, al_108, al_110, al_111, vcs_e, lg_c0, lg_cs, lg_nil, set_c0, set_cs, okst_0, okst_s, acok_n, acok_c, List.contains_nil, List.contains_cons, Bool.or_false, Bool.false_or, Bool.false_eq_true, if_false, if_true, ite_self, ne_eq, true_and, and_true, not_false_eq_true, not_true_eq_false, false_imp_iff, true_imp_iff, Nat.ble_eq, Bool.and_eq_true, reduceCtorEq, or_false, false_or, or_true, true_or, false_and, and_false, and_self, Int.reduceLE, Int.reduceAdd, Int.reduceSub, Int.reduceMul, Int.reduceNeg, Int.reduceLT, Int.reduceEq, Int.reduceNe, Nat.reduceBEq, Nat.reduceBNe, Nat.reduceEqDiff, amCmp_in, amCmp_lt, amCmp_le, amCmp_gt, amCmp_ge, amCmp_eq, amCmp_ne, Nat.reduceLeDiff, Nat.reduceSub, Bool.and_true, Bool.true_and, Bool.and_self, Bool.or_true, Bool.true_or, isRf_3, isRf_4, isRf_5, isRf_8, isRf_9, isRf_10, isRf_11, isRf_15, isRf_16, isRf_17, isRf_18, isRf_19, isRf_20, isRf_21, isRf_22, isRf_23, isRf_24, isRf_25, isRf_26, isRf_27, isRf_28, k_X12_all_0, k_X12_all_1, k_X12_all_2, k_X12_all_5, k_X12_all_6, k_X12_all_9, k_X12_all_12, k_X12_all_13, k_X12_all_14, k_X12_all_15, k_X12_all_16, k_X12_all_17, k_X12_all_64, k_X12_all_65, k_X12_all_66, k_X12_all_69, k_X12_all_70, k_X12_all_71, k_X12_all_72, k_X12_all_75, k_X12_all_76, k_X12_all_77, k_X12_all_78, k_X12_all_81, k_X12_all_82, k_X12_all_83, k_X12_all_86, k_X12_all_87, k_X12_all_88, k_X12_all_89, k_X12_all_90, k_X12_all_93, k_X12_all_94, k_X12_all_95, k_X12_all_96, k_X12_all_97, k_X12_all_98, k_X12_all_101, k_X12_all_104, k_X12_all_105, k_X12_all_106, k_X12_all_109, k_X12_all_110, k_X12_all_111, k_X12_all_114, k_X12_all_117, k_X12_all_118, k_X12_all_121, k_X12_all_122, k_X12_all_123, k_X12_all_126, k_X12_all_129, k_X12_all_130, k_X12_all_131, k_X12_all_132, k_X12_all_133, k_X12_all_134, k_X12_all_135, k_X12_all_138, k_X12_all_141, k_X12_all_142, k_X12_all_143, k_X12_all_146, k_X12_all_147, k_X12_all_148, k_X12_all_149, k_X12_all_150, k_X12_all_151, k_X12_all_152, k_X12_all_153, k_X12_all_156, k_X12_all_158, k_X12_all_159, k_X12_all_162, k_X12_all_163, k_X12_all_164, k_X12_all_165, k_X12_all_168, k_X12_all_169, k_X12_all_170, k_X12_all_171, k_X12_all_174, k_X12_all_177, k_X12_all_178, k_X12_all_179, k_X12_all_180, k_X12_all_181, k_X12_all_183, k_X12_all_186, k_X12_all_187, k_X12_all_188, w_X12_dullest_e, w_X12_greatest_e, w_X12_soldTo_e, w_X12_sumOf_e, e29]
        repeat' (first | apply And.intro | intro _)
        all_goals first | omega | exact absurd trivial (by assumption) | exact q
  · change vcs _ _ _ _ 60 0 [(28, 5000), (0, w), (6, 0), (6, 0)] [] σ
    by_cases g : σ 5000 29 = 0
    · have q := h1 (Or.inl g)
      simp only [↓reduceIte, inR_0, inR_1, inR_m, vSw2_e, swP_n, swP_c, vI_e, vL_e, vNull_e, vIload_e, vLload_e, vAload_e, vIstore_e, vLstore_e, vAstore_e, vIinc_e, vIadd_e, vIsub_e, vImul_e, vIand_e, vIor_e, vIxor_e, vIshl_e, vIshr_e, vIushr_e, vIdiv_e, vIrem_e, vLadd_e, vLsub_e, vLmul_e, vLand_e, vLor_e, vLxor_e, vLdiv_e, vLrem_e, vLushr_e, vLshl_e, vLcmp_e, vIneg_e, vI2l_e, vL2i_e, vI2b_e, vI2c_e, vDup_e, vPop_e, vDup2_e, vGoto_e, vIcEq_e, vIfEq_e, vIcNe_e, vIfNe_e, vIcLt_e, vIfLt_e, vIcGe_e, vIfGe_e, vIcGt_e, vIfGt_e, vIcLe_e, vIfLe_e, vNonnull_e, vSw_e, vGetI_e, vGetL_e, vGetR_e, vPutI_e, vPutZ_e, vPutL_e, vPutR_e, vIald_e, vIald_s, vLald_e, vBald_e, vBald_s, vAald_e, vIast_e, vLast_e, vBast_e, vAast_e, vAlen_e8, vAlen_e9, vAlen_e10, vAlen_e11, vAlen_e5, vAlen_e3, vGets_e, vCompact_e, vLdcS_e, vIret_e, vZret_e, vCret_e, vBret_e, vLret_e, vVret_e, vAret_e, vCallM_e0, vCallMV_e0, vCallS_e0, vCallSV_e0, vCallM_e1, vCallMV_e1, vCallS_e1, vCallSV_e1, vCallM_e2, vCallMV_e2, vCallS_e2, vCallSV_e2, vCallM_e3, vCallMV_e3, vCallS_e3, vCallSV_e3, vCallM_e4, vCallMV_e4, vCallS_e4, vCallSV_e4, vCallM_e5, vCallMV_e5, vCallS_e5, vCallSV_e5, vCallM_e6, vCallMV_e6, vCallS_e6, vCallSV_e6, vCallM_e7, vCallMV_e7, vCallS_e7, vCallSV_e7, vBad_e, vStrVal_e, vStrCod_e, vForm_e, vCallT_e0, vCallT_e1, vCallT_e2, vCopy_e, rf_0_0, rf_0_1, rf_0_2, rf_0_3, rf_0_4, rf_0_7, rf_0_10, rf_0_11, rf_0_12, rf_0_13, rf_0_14, rf_0_15, rf_0_16, rf_1_0, rf_3_0, rf_3_1, rf_6_0, rf_6_1, rf_9_0, rf_9_1, rf_9_3, rf_13_0, rf_13_1, rf_13_2, rf_16_0, rf_16_1, rf_16_2, rf_16_3, rf_21_0, rf_21_1, rf_21_2, rf_21_3, rf_26_0, rf_26_1, rf_26_2, rf_26_3, rf_26_4, rf_26_5, rf_26_6, rf_31_0, rf_31_2, rf_31_5, rf_31_6, rf_36_0, rf_36_1, rf_36_2, rf_36_3, rf_39_0, rf_39_1, rf_39_2, rf_41_0, rf_41_1, rf_41_2, rf_41_3, rf_5000_1, rf_5000_2, rf_5000_3, rf_5000_4, rf_5000_5, rf_5000_15, rf_5000_16, rf_5000_18, rf_5000_19, rf_5000_20, rf_5000_21, rf_5000_22, rf_5000_23, rf_5000_24, rf_5000_25, rf_5000_26, rf_5000_27, rf_5000_36, rf_5000_37, rf_5000_40, rf_5000_41, rf_5000_42, rf_5000_43, rf_5000_44, rf_5000_45, rf_5000_47, rf_5000_52, rf_5000_54, rf_5000_55, rf_100_0, rf_100_1, rf_103_0, rf_103_1, rf_106_0, rf_106_1, rf_109_0, rf_109_1, al_2, al_4, al_5, al_7, al_8, al_10, al_11, al_12, al_14, al_15, al_17, al_18, al_19, al_20, al_22, al_23, al_24, al_25, al_27, al_28, al_29, al_30, al_32, al_33, al_34, al_35, al_37, al_38, al_40, al_42, al_5001, al_5002, al_5003, al_5004, al_5005, al_5006, al_5007, al_5008, al_5009, al_5010, al_5011, al_5012, al_5013, al_5014, al_5015, al_5016, al_5017, al_5018, al_5019, al_5020, al_5021, al_5022, al_5023, al_5024, al_5025, al_5026, al_9000, al_101, al_102, al_104, al_105, al_107, al_108, al_110, al_111, vcs_e, lg_c0, lg_cs, lg_nil, set_c0, set_cs, okst_0, okst_s, acok_n, acok_c, List.contains_nil, List.contains_cons, Bool.or_false, Bool.false_or, Bool.false_eq_true, if_false, if_true, ite_self, ne_eq, true_and, and_true, not_false_eq_true, not_true_eq_false, false_imp_iff, true_imp_iff, Nat.ble_eq, Bool.and_eq_true, reduceCtorEq, or_false, false_or, or_true, true_or, false_and, and_false, and_self, Int.reduceLE, Int.reduceAdd, Int.reduceSub, Int.reduceMul, Int.reduceNeg, Int.reduceLT, Int.reduceEq, Int.reduceNe, Nat.reduceBEq, Nat.reduceBNe, Nat.reduceEqDiff, amCmp_in, amCmp_lt, amCmp_le, amCmp_gt, amCmp_ge, amCmp_eq, amCmp_ne, Nat.reduceLeDiff, Nat.reduceSub, Bool.and_true, Bool.true_and, Bool.and_self, Bool.or_true, Bool.true_or, isRf_3, isRf_4, isRf_5, isRf_8, isRf_9, isRf_10, isRf_11, isRf_15, isRf_16, isRf_17, isRf_18, isRf_19, isRf_20, isRf_21, isRf_22, isRf_23, isRf_24, isRf_25, isRf_26, isRf_27, isRf_28, k_X12_all_0, k_X12_all_1, k_X12_all_2, k_X12_all_5, k_X12_all_6, k_X12_all_9, k_X12_all_12, k_X12_all_13, k_X12_all_14, k_X12_all_15, k_X12_all_16, k_X12_all_17, k_X12_all_64, k_X12_all_65, k_X12_all_66, k_X12_all_69, k_X12_all_70, k_X12_all_71, k_X12_all_72, k_X12_all_75, k_X12_all_76, k_X12_all_77, k_X12_all_78, k_X12_all_81, k_X12_all_82, k_X12_all_83, k_X12_all_86, k_X12_all_87, k_X12_all_88, k_X12_all_89, k_X12_all_90, k_X12_all_93, k_X12_all_94, k_X12_all_95, k_X12_all_96, k_X12_all_97, k_X12_all_98, k_X12_all_101, k_X12_all_104, k_X12_all_105, k_X12_all_106, k_X12_all_109, k_X12_all_110, k_X12_all_111, k_X12_all_114, k_X12_all_117, k_X12_all_118, k_X12_all_121, k_X12_all_122, k_X12_all_123, k_X12_all_126, k_X12_all_129, k_X12_all_130, k_X12_all_131, k_X12_all_132, k_X12_all_133, k_X12_all_134, k_X12_all_135, k_X12_all_138, k_X12_all_141, k_X12_all_142, k_X12_all_143, k_X12_all_146, k_X12_all_147, k_X12_all_148, k_X12_all_149, k_X12_all_150, k_X12_all_151, k_X12_all_152, k_X12_all_153, k_X12_all_156, k_X12_all_158, k_X12_all_159, k_X12_all_162, k_X12_all_163, k_X12_all_164, k_X12_all_165, k_X12_all_168, k_X12_all_169, k_X12_all_170, k_X12_all_171, k_X12_all_174, k_X12_all_177, k_X12_all_178, k_X12_all_179, k_X12_all_180, k_X12_all_181, k_X12_all_183, k_X12_all_186, k_X12_all_187, k_X12_all_188, w_X12_dullest_e, w_X12_greatest_e, w_X12_soldTo_e, w_X12_sumOf_e, e29, g]
      repeat' (first | apply And.intro | intro _)
      all_goals first | omega | exact absurd trivial (by assumption) | exact q
    · obtain ⟨q0, q1, q2, q3, q4, q5, q6, q7⟩ := h2 g
      have i5 : w = 5 → ∃ k', inv_alm σ w k' 96 [(28, 5000), (0, w), (0, 0), (0, 1)] [] (th0 σ) := fun q => ⟨(max 1 (σ 5000 28) - 1).toNat, rfl, rfl, g, Or.inl ⟨1, rfl, q, by rw [fbest_1]; rfl, by omega, by omega⟩⟩
      have i6 : w = 6 → ∃ k', inv_alm σ w k' 133 [(28, 5000), (0, w), (0, 0), (0, 0)] [] (th0 σ) := fun q => ⟨(σ 5000 29).toNat, rfl, rfl, g, Or.inr ⟨0, rfl, q, rfl, by omega⟩⟩
      have q8 := fun q : w < 0 ∨ 7 < w => h1 (Or.inr q)
      simp only [↓reduceIte, inR_0, inR_1, inR_m, vSw2_e, swP_n, swP_c, vI_e, vL_e, vNull_e, vIload_e, vLload_e, vAload_e, vIstore_e, vLstore_e, vAstore_e, vIinc_e, vIadd_e, vIsub_e, vImul_e, vIand_e, vIor_e, vIxor_e, vIshl_e, vIshr_e, vIushr_e, vIdiv_e, vIrem_e, vLadd_e, vLsub_e, vLmul_e, vLand_e, vLor_e, vLxor_e, vLdiv_e, vLrem_e, vLushr_e, vLshl_e, vLcmp_e, vIneg_e, vI2l_e, vL2i_e, vI2b_e, vI2c_e, vDup_e, vPop_e, vDup2_e, vGoto_e, vIcEq_e, vIfEq_e, vIcNe_e, vIfNe_e, vIcLt_e, vIfLt_e, vIcGe_e, vIfGe_e, vIcGt_e, vIfGt_e, vIcLe_e, vIfLe_e, vNonnull_e, vSw_e, vGetI_e, vGetL_e, vGetR_e, vPutI_e, vPutZ_e, vPutL_e, vPutR_e, vIald_e, vIald_s, vLald_e, vBald_e, vBald_s, vAald_e, vIast_e, vLast_e, vBast_e, vAast_e, vAlen_e8, vAlen_e9, vAlen_e10, vAlen_e11, vAlen_e5, vAlen_e3, vGets_e, vCompact_e, vLdcS_e, vIret_e, vZret_e, vCret_e, vBret_e, vLret_e, vVret_e, vAret_e, vCallM_e0, vCallMV_e0, vCallS_e0, vCallSV_e0, vCallM_e1, vCallMV_e1, vCallS_e1, vCallSV_e1, vCallM_e2, vCallMV_e2, vCallS_e2, vCallSV_e2, vCallM_e3, vCallMV_e3, vCallS_e3, vCallSV_e3, vCallM_e4, vCallMV_e4, vCallS_e4, vCallSV_e4, vCallM_e5, vCallMV_e5, vCallS_e5, vCallSV_e5, vCallM_e6, vCallMV_e6, vCallS_e6, vCallSV_e6, vCallM_e7, vCallMV_e7, vCallS_e7, vCallSV_e7, vBad_e, vStrVal_e, vStrCod_e, vForm_e, vCallT_e0, vCallT_e1, vCallT_e2, vCopy_e, rf_0_0, rf_0_1, rf_0_2, rf_0_3, rf_0_4, rf_0_7, rf_0_10, rf_0_11, rf_0_12, rf_0_13, rf_0_14, rf_0_15, rf_0_16, rf_1_0, rf_3_0, rf_3_1, rf_6_0, rf_6_1, rf_9_0, rf_9_1, rf_9_3, rf_13_0, rf_13_1, rf_13_2, rf_16_0, rf_16_1, rf_16_2, rf_16_3, rf_21_0, rf_21_1, rf_21_2, rf_21_3, rf_26_0, rf_26_1, rf_26_2, rf_26_3, rf_26_4, rf_26_5, rf_26_6, rf_31_0, rf_31_2, rf_31_5, rf_31_6, rf_36_0, rf_36_1, rf_36_2, rf_36_3, rf_39_0, rf_39_1, rf_39_2, rf_41_0, rf_41_1, rf_41_2, rf_41_3, rf_5000_1, rf_5000_2, rf_5000_3, rf_5000_4, rf_5000_5, rf_5000_15, rf_5000_16, rf_5000_18, rf_5000_19, rf_5000_20, rf_5000_21, rf_5000_22, rf_5000_23, rf_5000_24, rf_5000_25, rf_5000_26, rf_5000_27, rf_5000_36, rf_5000_37, rf_5000_40, rf_5000_41, rf_5000_42, rf_5000_43, rf_5000_44, rf_5000_45, rf_5000_47, rf_5000_52, rf_5000_54, rf_5000_55, rf_100_0, rf_100_1, rf_103_0, rf_103_1, rf_106_0, rf_106_1, rf_109_0, rf_109_1, al_2, al_4, al_5, al_7, al_8, al_10, al_11, al_12, al_14, al_15, al_17, al_18, al_19, al_20, al_22, al_23, al_24, al_25, al_27, al_28, al_29, al_30, al_32, al_33, al_34, al_35, al_37, al_38, al_40, al_42, al_5001, al_5002, al_5003, al_5004, al_5005, al_5006, al_5007, al_5008, al_5009, al_5010, al_5011, al_5012, al_5013, al_5014, al_5015, al_5016, al_5017, al_5018, al_5019, al_5020, al_5021, al_5022, al_5023, al_5024, al_5025, al_5026, al_9000, al_101, al_102, al_104, al_105, al_107, al_108, al_110, al_111, vcs_e, lg_c0, lg_cs, lg_nil, set_c0, set_cs, okst_0, okst_s, acok_n, acok_c, List.contains_nil, List.contains_cons, Bool.or_false, Bool.false_or, Bool.false_eq_true, if_false, if_true, ite_self, ne_eq, true_and, and_true, not_false_eq_true, not_true_eq_false, false_imp_iff, true_imp_iff, Nat.ble_eq, Bool.and_eq_true, reduceCtorEq, or_false, false_or, or_true, true_or, false_and, and_false, and_self, Int.reduceLE, Int.reduceAdd, Int.reduceSub, Int.reduceMul, Int.reduceNeg, Int.reduceLT, Int.reduceEq, Int.reduceNe, Nat.reduceBEq, Nat.reduceBNe, Nat.reduceEqDiff, amCmp_in, amCmp_lt, amCmp_le, amCmp_gt, amCmp_ge, amCmp_eq, amCmp_ne, Nat.reduceLeDiff, Nat.reduceSub, Bool.and_true, Bool.true_and, Bool.and_self, Bool.or_true, Bool.true_or, isRf_3, isRf_4, isRf_5, isRf_8, isRf_9, isRf_10, isRf_11, isRf_15, isRf_16, isRf_17, isRf_18, isRf_19, isRf_20, isRf_21, isRf_22, isRf_23, isRf_24, isRf_25, isRf_26, isRf_27, isRf_28, k_X12_all_0, k_X12_all_1, k_X12_all_2, k_X12_all_5, k_X12_all_6, k_X12_all_9, k_X12_all_12, k_X12_all_13, k_X12_all_14, k_X12_all_15, k_X12_all_16, k_X12_all_17, k_X12_all_64, k_X12_all_65, k_X12_all_66, k_X12_all_69, k_X12_all_70, k_X12_all_71, k_X12_all_72, k_X12_all_75, k_X12_all_76, k_X12_all_77, k_X12_all_78, k_X12_all_81, k_X12_all_82, k_X12_all_83, k_X12_all_86, k_X12_all_87, k_X12_all_88, k_X12_all_89, k_X12_all_90, k_X12_all_93, k_X12_all_94, k_X12_all_95, k_X12_all_96, k_X12_all_97, k_X12_all_98, k_X12_all_101, k_X12_all_104, k_X12_all_105, k_X12_all_106, k_X12_all_109, k_X12_all_110, k_X12_all_111, k_X12_all_114, k_X12_all_117, k_X12_all_118, k_X12_all_121, k_X12_all_122, k_X12_all_123, k_X12_all_126, k_X12_all_129, k_X12_all_130, k_X12_all_131, k_X12_all_132, k_X12_all_133, k_X12_all_134, k_X12_all_135, k_X12_all_138, k_X12_all_141, k_X12_all_142, k_X12_all_143, k_X12_all_146, k_X12_all_147, k_X12_all_148, k_X12_all_149, k_X12_all_150, k_X12_all_151, k_X12_all_152, k_X12_all_153, k_X12_all_156, k_X12_all_158, k_X12_all_159, k_X12_all_162, k_X12_all_163, k_X12_all_164, k_X12_all_165, k_X12_all_168, k_X12_all_169, k_X12_all_170, k_X12_all_171, k_X12_all_174, k_X12_all_177, k_X12_all_178, k_X12_all_179, k_X12_all_180, k_X12_all_181, k_X12_all_183, k_X12_all_186, k_X12_all_187, k_X12_all_188, w_X12_dullest_e, w_X12_greatest_e, w_X12_soldTo_e, w_X12_sumOf_e, e29, e30, t15, t11, es]
      repeat' (first | assumption | exact j0 | exact j1 | exact j2 | exact j3 | exact j11 | apply And.intro | intro _)
      all_goals first | omega | exact absurd trivial (by assumption) | exact q0 (by omega) | exact q1 (by omega) | exact q2 (by omega) | exact q3 (by omega) | exact q4 (by omega) | exact i5 (by omega) | exact i6 (by omega) | exact q7 (by omega) | exact q8 (by omega)
