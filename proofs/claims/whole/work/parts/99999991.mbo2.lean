/-! the reference: BORNE as asked -/
theorem tryB0 {σ : Mem} (hx : mX σ 5015) : tryB (th0 σ) (tr51 σ) := by
  have l27 := hx.2.2.2.2.2.2
  have h0 := try0 hx
  refine ⟨h0.1, h0.2.1, fun j j0 j1 _ _ => ?_, h0.2.2.2.1, h0.2.2.2.2⟩
  unfold tr51
  rw [up_na _ (by decide), up_na _ (by decide), trC_j l27.1 j0 j1, th_o σ (by decide)]
theorem wd_1884 : Cond.constantLong RX12 477 4 ∈ TBL := tb_tab (List.mem_of_getElem? (i := 1884) (by decide +kernel)) rfl
def a_X12_borne (d : Nat) : AC := [(0, vAload 0 1), (1, vI 0 2), (2, vPutI 28 0 5), (5, vAload 0 6), (6, vGetI 28 29 9), (9, vIfEq 34 12), (12, vIload 1 13), (13, vI2l 14), (14, vL 1 15), (15, vL 4 18), (18, vCallS w_X12_isIn 3 21), (21, vIfEq 34 24), (24, vIload 2 25), (25, vI2l 26), (26, vL 0 27), (27, vL 1 28), (28, vCallS w_X12_isIn 3 31), (31, vIfNe 36 34), (34, vI (-1) 35), (35, vIret), (36, vAload 0 37), (37, vGetR TT 28 36 8 40), (40, vAload 0 41), (41, vGetR TT 28 37 8 44), (44, vCallSV w_X12_copy 2 47), (47, vAload 0 48), (48, vI (-1) 49), (49, vPutI 28 51 52), (52, vAload 0 53), (53, vI (-1) 54), (54, vPutI 28 50 57), (57, vAload 0 58), (58, vIload 1 59), (59, vAload 0 60), (60, vGetR TT 28 36 8 63), (63, vI 24 65), (65, vIald TT 66), (66, vAload 0 67), (67, vGetR TT 28 36 8 70), (70, vI 26 72), (72, vIald TT 73), (73, vI 0 74), (74, vI 0 75), (75, vCallMV (w_X12_goBorne d) 28 5 78), (78, vIload 2 79), (79, vIfNe 89 82), (82, vAload 0 83), (83, vGetI 28 50 86), (86, vGoto 93), (89, vAload 0 90), (90, vGetI 28 51 93), (93, vIret)]
theorem k_X12_borne_0 (d : Nat) : look (a_X12_borne d) 0 = vAload 0 1 := rfl
theorem k_X12_borne_1 (d : Nat) : look (a_X12_borne d) 1 = vI 0 2 := rfl
theorem k_X12_borne_2 (d : Nat) : look (a_X12_borne d) 2 = vPutI 28 0 5 := rfl
theorem k_X12_borne_5 (d : Nat) : look (a_X12_borne d) 5 = vAload 0 6 := rfl
theorem k_X12_borne_6 (d : Nat) : look (a_X12_borne d) 6 = vGetI 28 29 9 := rfl
theorem k_X12_borne_9 (d : Nat) : look (a_X12_borne d) 9 = vIfEq 34 12 := rfl
theorem k_X12_borne_12 (d : Nat) : look (a_X12_borne d) 12 = vIload 1 13 := rfl
theorem k_X12_borne_13 (d : Nat) : look (a_X12_borne d) 13 = vI2l 14 := rfl
theorem k_X12_borne_14 (d : Nat) : look (a_X12_borne d) 14 = vL 1 15 := rfl
theorem k_X12_borne_15 (d : Nat) : look (a_X12_borne d) 15 = vL 4 18 := rfl
theorem k_X12_borne_18 (d : Nat) : look (a_X12_borne d) 18 = vCallS w_X12_isIn 3 21 := rfl
theorem k_X12_borne_21 (d : Nat) : look (a_X12_borne d) 21 = vIfEq 34 24 := rfl
theorem k_X12_borne_24 (d : Nat) : look (a_X12_borne d) 24 = vIload 2 25 := rfl
theorem k_X12_borne_25 (d : Nat) : look (a_X12_borne d) 25 = vI2l 26 := rfl
theorem k_X12_borne_26 (d : Nat) : look (a_X12_borne d) 26 = vL 0 27 := rfl
theorem k_X12_borne_27 (d : Nat) : look (a_X12_borne d) 27 = vL 1 28 := rfl
theorem k_X12_borne_28 (d : Nat) : look (a_X12_borne d) 28 = vCallS w_X12_isIn 3 31 := rfl
theorem k_X12_borne_31 (d : Nat) : look (a_X12_borne d) 31 = vIfNe 36 34 := rfl
theorem k_X12_borne_34 (d : Nat) : look (a_X12_borne d) 34 = vI (-1) 35 := rfl
theorem k_X12_borne_35 (d : Nat) : look (a_X12_borne d) 35 = vIret := rfl
theorem k_X12_borne_36 (d : Nat) : look (a_X12_borne d) 36 = vAload 0 37 := rfl
theorem k_X12_borne_37 (d : Nat) : look (a_X12_borne d) 37 = vGetR TT 28 36 8 40 := rfl
theorem k_X12_borne_40 (d : Nat) : look (a_X12_borne d) 40 = vAload 0 41 := rfl
theorem k_X12_borne_41 (d : Nat) : look (a_X12_borne d) 41 = vGetR TT 28 37 8 44 := rfl
theorem k_X12_borne_44 (d : Nat) : look (a_X12_borne d) 44 = vCallSV w_X12_copy 2 47 := rfl
theorem k_X12_borne_47 (d : Nat) : look (a_X12_borne d) 47 = vAload 0 48 := rfl
theorem k_X12_borne_48 (d : Nat) : look (a_X12_borne d) 48 = vI (-1) 49 := rfl
theorem k_X12_borne_49 (d : Nat) : look (a_X12_borne d) 49 = vPutI 28 51 52 := rfl
theorem k_X12_borne_52 (d : Nat) : look (a_X12_borne d) 52 = vAload 0 53 := rfl
theorem k_X12_borne_53 (d : Nat) : look (a_X12_borne d) 53 = vI (-1) 54 := rfl
theorem k_X12_borne_54 (d : Nat) : look (a_X12_borne d) 54 = vPutI 28 50 57 := rfl
theorem k_X12_borne_57 (d : Nat) : look (a_X12_borne d) 57 = vAload 0 58 := rfl
theorem k_X12_borne_58 (d : Nat) : look (a_X12_borne d) 58 = vIload 1 59 := rfl
theorem k_X12_borne_59 (d : Nat) : look (a_X12_borne d) 59 = vAload 0 60 := rfl
theorem k_X12_borne_60 (d : Nat) : look (a_X12_borne d) 60 = vGetR TT 28 36 8 63 := rfl
theorem k_X12_borne_63 (d : Nat) : look (a_X12_borne d) 63 = vI 24 65 := rfl
theorem k_X12_borne_65 (d : Nat) : look (a_X12_borne d) 65 = vIald TT 66 := rfl
theorem k_X12_borne_66 (d : Nat) : look (a_X12_borne d) 66 = vAload 0 67 := rfl
theorem k_X12_borne_67 (d : Nat) : look (a_X12_borne d) 67 = vGetR TT 28 36 8 70 := rfl
theorem k_X12_borne_70 (d : Nat) : look (a_X12_borne d) 70 = vI 26 72 := rfl
theorem k_X12_borne_72 (d : Nat) : look (a_X12_borne d) 72 = vIald TT 73 := rfl
theorem k_X12_borne_73 (d : Nat) : look (a_X12_borne d) 73 = vI 0 74 := rfl
theorem k_X12_borne_74 (d : Nat) : look (a_X12_borne d) 74 = vI 0 75 := rfl
theorem k_X12_borne_75 (d : Nat) : look (a_X12_borne d) 75 = vCallMV (w_X12_goBorne d) 28 5 78 := rfl
theorem k_X12_borne_78 (d : Nat) : look (a_X12_borne d) 78 = vIload 2 79 := rfl
theorem k_X12_borne_79 (d : Nat) : look (a_X12_borne d) 79 = vIfNe 89 82 := rfl
theorem k_X12_borne_82 (d : Nat) : look (a_X12_borne d) 82 = vAload 0 83 := rfl
theorem k_X12_borne_83 (d : Nat) : look (a_X12_borne d) 83 = vGetI 28 50 86 := rfl
theorem k_X12_borne_86 (d : Nat) : look (a_X12_borne d) 86 = vGoto 93 := rfl
theorem k_X12_borne_89 (d : Nat) : look (a_X12_borne d) 89 = vAload 0 90 := rfl
theorem k_X12_borne_90 (d : Nat) : look (a_X12_borne d) 90 = vGetI 28 51 93 := rfl
theorem k_X12_borne_93 (d : Nat) : look (a_X12_borne d) 93 = vIret := rfl
theorem o_X12_borne {X : amX} (d : Nat) (h6 : d ≤ 4) (e1 : XT X = TT) (e2 : XD X = 70) (hB : amB X RX12 cX12_borne (some .int) 3) : ∀ pc, amOK X pc (look (a_X12_borne d) pc) := by
  have hT : amTok (XT X) := e1 ▸ TT_ok
  refine look_ok ?_
  unfold a_X12_borne
  refine fc (ok_aload_n hB dX12_borne_0) ?_
  refine fc (ok_iconst hB dX12_borne_1) ?_
  refine fc (ok_putI hB hT fp_X12_111 rfl rfl rfl af_12_0 dX12_borne_2) ?_
  refine fc (ok_aload_n hB dX12_borne_5) ?_
  refine fc (ok_getI hB hT fl_X12_317 rfl rfl (Or.inl af_12_29) dX12_borne_6) ?_
  refine fc (ok_if_eq hB (t := 34) (by decide) dX12_borne_9) ?_
  refine fc (ok_iload_n hB dX12_borne_12) ?_
  refine fc (ok_i2l hB dX12_borne_13) ?_
  refine fc (ok_lconst hB (z := 1) (by decide) dX12_borne_14) ?_
  refine fc (ok_ldc2 hB wd_1884 rfl dX12_borne_15) ?_
  refine fc (ok_callS hB (e1 ▸ s_X12_isIn) lk_X12_232 (by rw [e2]; omega) wd_1502 dX12_borne_18) ?_
  refine fc (ok_if_eq hB (t := 34) (by decide) dX12_borne_21) ?_
  refine fc (ok_iload_n hB dX12_borne_24) ?_
  refine fc (ok_i2l hB dX12_borne_25) ?_
  refine fc (ok_lconst hB (z := 0) (by decide) dX12_borne_26) ?_
  refine fc (ok_lconst hB (z := 1) (by decide) dX12_borne_27) ?_
  refine fc (ok_callS hB (e1 ▸ s_X12_isIn) lk_X12_232 (by rw [e2]; omega) wd_1502 dX12_borne_28) ?_
  refine fc (ok_if_ne hB (t := 36) (by decide) dX12_borne_31) ?_
  refine fc (ok_iconst hB dX12_borne_34) ?_
  refine fc (ok_iret hB dX12_borne_35) ?_
  refine fc (ok_aload_n hB dX12_borne_36) ?_
  refine fc (okt_getR e1 hB hT fl_X12_67 rfl af_12_36 at_12_36 (by decide) dX12_borne_37) ?_
  refine fc (ok_aload_n hB dX12_borne_40) ?_
  refine fc (okt_getR e1 hB hT fl_X12_70 rfl af_12_37 at_12_37 (by decide) dX12_borne_41) ?_
  refine fc (ok_callSV hB (e1 ▸ s_X12_copy) lk_X12_419 (by rw [e2]; omega) wd_1790 dX12_borne_44) ?_
  refine fc (ok_aload_n hB dX12_borne_47) ?_
  refine fc (ok_iconst hB dX12_borne_48) ?_
  refine fc (ok_putI hB hT fp_X12_429 rfl rfl rfl af_12_51 dX12_borne_49) ?_
  refine fc (ok_aload_n hB dX12_borne_52) ?_
  refine fc (ok_iconst hB dX12_borne_53) ?_
  refine fc (ok_putI hB hT fp_X12_436 rfl rfl rfl af_12_50 dX12_borne_54) ?_
  refine fc (ok_aload_n hB dX12_borne_57) ?_
  refine fc (ok_iload_n hB dX12_borne_58) ?_
  refine fc (ok_aload_n hB dX12_borne_59) ?_
  refine fc (okt_getR e1 hB hT fl_X12_67 rfl af_12_36 at_12_36 (by decide) dX12_borne_60) ?_
  refine fc (ok_bipush hB dX12_borne_63 (by decide)) ?_
  refine fc (okt_iaload e1 hB dX12_borne_65) ?_
  refine fc (ok_aload_n hB dX12_borne_66) ?_
  refine fc (okt_getR e1 hB hT fl_X12_67 rfl af_12_36 at_12_36 (by decide) dX12_borne_67) ?_
  refine fc (ok_bipush hB dX12_borne_70 (by decide)) ?_
  refine fc (okt_iaload e1 hB dX12_borne_72) ?_
  refine fc (ok_iconst hB dX12_borne_73) ?_
  refine fc (ok_iconst hB dX12_borne_74) ?_
  refine fc (ok_callMV hB hT (fun av9 σ9 Q9 h9 => e1 ▸ (s_X12_goBorne d (boS d)) av9 σ9 Q9 h9) lk_X12_473 (by rw [e2]; omega) (c := 12) rfl rfl rfl wd_1887 sl_X12_goBorne dX12_borne_75) ?_
  refine fc (ok_iload_n hB dX12_borne_78) ?_
  refine fc (ok_if_ne hB (t := 89) (by decide) dX12_borne_79) ?_
  refine fc (ok_aload_n hB dX12_borne_82) ?_
  refine fc (ok_getI hB hT fl_X12_436 rfl rfl (Or.inl af_12_50) dX12_borne_83) ?_
  refine fc (ok_goto hB (t := 93) (by decide) dX12_borne_86) ?_
  refine fc (ok_aload_n hB dX12_borne_89) ?_
  refine fc (ok_getI hB hT fl_X12_429 rfl rfl (Or.inl af_12_51) dX12_borne_90) ?_
  refine fc (ok_iret hB dX12_borne_93) ?_
  exact fn

def w_X12_borne (d : Nat) : WP := fun av σ Q => ∃ (n : Int) (w : Int), av = [(28, 5000), (0, n), (0, w)] ∧ (InR n ∧ InR w ∧ mX σ 5015 ∧ σ 5015 26 ≤ 1000 ∧ (1 ≤ n → n ≤ 4 → n = d) ∧ (¬ (σ 5000 29 ≠ 0 ∧ (1 ≤ n ∧ n ≤ 4) ∧ 0 ≤ w ∧ w ≤ 1) → Q (0, -1) (th0 σ)) ∧ (σ 5000 29 ≠ 0 ∧ (1 ≤ n ∧ n ≤ 4) ∧ 0 ≤ w ∧ w ≤ 1 → ∀ τ, QF σ τ → mOk τ → Q (0, if w = 0 then (bnF (th0 σ) d (σ 5015 24) (σ 5015 26) 0 0 (-1, -1)).1 else (bnF (th0 σ) d (σ 5015 24) (σ 5015 26) 0 0 (-1, -1)).2) τ))
theorem w_X12_borne_e (d : Nat) (n : Int) (w : Int) (σ : Mem) (Q : AV → Mem → Prop) : w_X12_borne d [(28, 5000), (0, n), (0, w)] σ Q = (InR n ∧ InR w ∧ mX σ 5015 ∧ σ 5015 26 ≤ 1000 ∧ (1 ≤ n → n ≤ 4 → n = d) ∧ (¬ (σ 5000 29 ≠ 0 ∧ (1 ≤ n ∧ n ≤ 4) ∧ 0 ≤ w ∧ w ≤ 1) → Q (0, -1) (th0 σ)) ∧ (σ 5000 29 ≠ 0 ∧ (1 ≤ n ∧ n ≤ 4) ∧ 0 ≤ w ∧ w ≤ 1 → ∀ τ, QF σ τ → mOk τ → Q (0, if w = 0 then (bnF (th0 σ) d (σ 5015 24) (σ 5015 26) 0 0 (-1, -1)).1 else (bnF (th0 σ) d (σ 5015 24) (σ 5015 26) 0 0 (-1, -1)).2) τ)) := by
  apply propext; constructor
  · rintro ⟨n', w', h9, hb9⟩; cases h9; exact hb9
  · intro hb9; exact ⟨n, w, rfl, hb9⟩

set_option maxRecDepth 100000 in
set_option maxHeartbeats 4000000 in
theorem s_X12_borne (d : Nat) (h6 : d ≤ 4) : ∀ av σ Q, w_X12_borne d av σ Q → amCall (70) 0 0 TT yX12_borne cX12_borne 3 (some .int) av σ Q := by
  rintro av σ Q ⟨n, w, rfl, hn, hw, hx, he, hd, h1, h2⟩
  have e29 : th0 σ 5000 29 = σ 5000 29 := th_k σ (by decide)
  have t15 : th0 σ 5015 = σ 5015 := th_o σ (by decide)
  have n29 := hx.2.1.2.2.1
  have l27 := hx.2.2.2.2.2.2
  have r24 := hx.2.2.2.1
  have r26 := hx.2.2.2.2.2.1
  have hxt := mX_th hx
  have hT := tryB0 hx
  have et : cpy (th0 σ) 5015 0 5016 0 (28 + 3 * σ 5015 27) = trC σ := rfl
  have g15 : tr51 σ 5015 = σ 5015 := by unfold tr51; rw [up_na _ (by decide), up_na _ (by decide), trC_o σ (by decide)]; exact t15
  have i50 : tr51 σ 5000 50 = -1 := up_s _ _ _ _
  have i51 : tr51 σ 5000 51 = -1 := by unfold tr51; rw [up_nj _ (by decide), up_s]
  have j51 : InR (tr51 σ 5000 51) := by rw [i51]; exact ⟨by decide, by decide⟩
  by_cases d0 : σ 5000 29 = 0
  · have q8 := h1 (by omega)
    refine am_m [36] (fun _ _ _ _ _ => False) (own := RX12) (A := look (a_X12_borne d)) (fun X e1 e2 hB => o_X12_borne d h6 e1 e2 hB) rfl (by decide +kernel) rfl rfl (fun _ _ _ _ _ h => absurd h id) ⟨60, ?_⟩ (w := 3)
    change vcs _ _ _ _ 60 0 [(28, 5000), (0, n), (0, w)] [] σ
    simp only [↓reduceIte, inR_0, inR_1, inR_m, vSw2_e, swP_n, swP_c, vI_e, vL_e, vNull_e, vIload_e, vLload_e, vAload_e, vIstore_e, vLstore_e, vAstore_e, vIinc_e, vIadd_e, vIsub_e, vImul_e, vIand_e, vIor_e, vIxor_e, vIshl_e, vIshr_e, vIushr_e, vIdiv_e, vIrem_e, vLadd_e, vLsub_e, vLmul_e, vLand_e, vLor_e, vLxor_e, vLdiv_e, vLrem_e, vLushr_e, vLshl_e, vLcmp_e, vIneg_e, vI2l_e, vL2i_e, vI2b_e, vI2c_e, vDup_e, vPop_e, vDup2_e, vGoto_e, vIcEq_e, vIfEq_e, vIcNe_e, vIfNe_e, vIcLt_e, vIfLt_e, vIcGe_e, vIfGe_e, vIcGt_e, vIfGt_e, vIcLe_e, vIfLe_e, vNonnull_e, vSw_e, vGetI_e, vGetL_e, vGetR_e, vPutI_e, vPutZ_e, vPutL_e, vPutR_e, vIald_e, vIald_s, vLald_e, vBald_e, vBald_s, vAald_e, vIast_e, vLast_e, vBast_e, vAast_e, vAlen_e8, vAlen_e9, vAlen_e10, vAlen_e11, vAlen_e5, vAlen_e3, vGets_e, vCompact_e, vLdcS_e, vIret_e, vZret_e, vCret_e, vBret_e, vLret_e, vVret_e, vAret_e, vCallM_e0, vCallMV_e0, vCallS_e0, vCallSV_e0, vCallM_e1, vCallMV_e1, vCallS_e1, vCallSV_e1, vCallM_e2, vCallMV_e2, vCallS_e2, vCallSV_e2, vCallM_e3, vCallMV_e3, vCallS_e3, vCallSV_e3, vCallM_e4, vCallMV_e4, vCallS_e4, vCallSV_e4, vCallM_e5, vCallMV_e5, vCallS_e5, vCallSV_e5, vCallM_e6, vCallMV_e6, vCallS_e6, vCallSV_e6, vCallM_e7, vCallMV_e7, vCallS_e7, vCallSV_e7, vBad_e, vStrVal_e, vStrCod_e, vForm_e, vCallT_e0, vCallT_e1, vCallT_e2, vCopy_e, rf_0_0, rf_0_1, rf_0_2, rf_0_3, rf_0_4, rf_0_7, rf_0_10, rf_0_11, rf_0_12, rf_0_13, rf_0_14, rf_0_15, rf_0_16, rf_1_0, rf_3_0, rf_3_1, rf_6_0, rf_6_1, rf_9_0, rf_9_1, rf_9_3, rf_13_0, rf_13_1, rf_13_2, rf_16_0, rf_16_1, rf_16_2, rf_16_3, rf_21_0, rf_21_1, rf_21_2, rf_21_3, rf_26_0, rf_26_1, rf_26_2, rf_26_3, rf_26_4, rf_26_5, rf_26_6, rf_31_0, rf_31_2, rf_31_5, rf_31_6, rf_36_0, rf_36_1, rf_36_2, rf_36_3, rf_39_0, rf_39_1, rf_39_2, rf_41_0, rf_41_1, rf_41_2, rf_41_3, rf_5000_1, rf_5000_2, rf_5000_3, rf_5000_4, rf_5000_5, rf_5000_15, rf_5000_16, rf_5000_18, rf_5000_19, rf_5000_20, rf_5000_21, rf_5000_22, rf_5000_23, rf_5000_24, rf_5000_25, rf_5000_26, rf_5000_27, rf_5000_36, rf_5000_37, rf_5000_40, rf_5000_41, rf_5000_42, rf_5000_43, rf_5000_44, rf_5000_45, rf_5000_47, rf_5000_52, rf_5000_54, rf_5000_55, rf_100_0, rf_100_1, rf_103_0, rf_103_1, rf_106_0, rf_106_1, rf_109_0, rf_109_1, al_2, al_4, al_5, al_7, al_8, al_10, al_11, al_12, al_14, al_15, al_17, al_18, al_19, al_20, al_22, al_23, al_24, al_25, al_27, al_28, al_29, al_30, al_32, al_33, al_34, al_35, al_37, al_38, al_40, al_42, al_5001, al_5002, al_5003, al_5004, al_5005, al_5006, al_5007, al_5008, al_5009, al_5010, al_5011, al_5012, al_5013, al_5014, al_5015, al_5016, al_5017, al_5018, al_5019, al_5020, al_5021, al_5022, al_5023, al_5024, al_5025, al_5026, al_9000, al_101, al_102, al_104, al_105, al_107, al_108, al_110, al_111, vcs_e, lg_c0, lg_cs, lg_nil, set_c0, set_cs, okst_0, okst_s, acok_n, acok_c, List.contains_nil, List.contains_cons, Bool.or_false, Bool.false_or, Bool.false_eq_true, if_false, if_true, ite_self, ne_eq, true_and, and_true, not_false_eq_true, not_true_eq_false, false_imp_iff, true_imp_iff, Nat.ble_eq, Bool.and_eq_true, reduceCtorEq, or_false, false_or, or_true, true_or, false_and, and_false, and_self, Int.reduceLE, Int.reduceAdd, Int.reduceSub, Int.reduceMul, Int.reduceNeg, Int.reduceLT, Int.reduceEq, Int.reduceNe, Nat.reduceBEq, Nat.reduceBNe, Nat.reduceEqDiff, amCmp_in, amCmp_lt, amCmp_le, amCmp_gt, amCmp_ge, amCmp_eq, amCmp_ne, Nat.reduceLeDiff, Nat.reduceSub, Bool.and_true, Bool.true_and, Bool.and_self, Bool.or_true, Bool.true_or, isRf_3, isRf_4, isRf_5, isRf_8, isRf_9, isRf_10, isRf_11, isRf_15, isRf_16, isRf_17, isRf_18, isRf_19, isRf_20, isRf_21, isRf_22, isRf_23, isRf_24, isRf_25, isRf_26, isRf_27, isRf_28, k_X12_borne_0, k_X12_borne_1, k_X12_borne_2, k_X12_borne_5, k_X12_borne_6, k_X12_borne_9, k_X12_borne_12, k_X12_borne_13, k_X12_borne_14, k_X12_borne_15, k_X12_borne_18, k_X12_borne_21, k_X12_borne_24, k_X12_borne_25, k_X12_borne_26, k_X12_borne_27, k_X12_borne_28, k_X12_borne_31, k_X12_borne_34, k_X12_borne_35, k_X12_borne_36, k_X12_borne_37, k_X12_borne_40, k_X12_borne_41, k_X12_borne_44, k_X12_borne_47, k_X12_borne_48, k_X12_borne_49, k_X12_borne_52, k_X12_borne_53, k_X12_borne_54, k_X12_borne_57, k_X12_borne_58, k_X12_borne_59, k_X12_borne_60, k_X12_borne_63, k_X12_borne_65, k_X12_borne_66, k_X12_borne_67, k_X12_borne_70, k_X12_borne_72, k_X12_borne_73, k_X12_borne_74, k_X12_borne_75, k_X12_borne_78, k_X12_borne_79, k_X12_borne_82, k_X12_borne_83, k_X12_borne_86, k_X12_borne_89, k_X12_borne_90, k_X12_borne_93, w_X12_copy_e, w_X12_goBorne_e, w_X12_isIn_e, e29, d0]
    repeat' (first | apply And.intro | intro _)
    all_goals first | omega | exact absurd trivial (by assumption) | exact q8
  · by_cases d1 : 1 ≤ n ∧ n ≤ 4
    · by_cases d3 : 0 ≤ w ∧ w ≤ 1
      · have hq := h2 ⟨d0, d1, d3⟩
        have hd' := hd d1.1 d1.2
        have fin : ∀ τ, tryB (th0 σ) τ → (τ 5000 50, τ 5000 51) = bnF (th0 σ) d (σ 5015 24) (σ 5015 26) 0 0 (tr51 σ 5000 50, tr51 σ 5000 51) → (w = 0 → Q (0, τ 5000 50) τ) ∧ (¬ w = 0 → Q (0, τ 5000 51) τ) := fun τ a e => by
          rw [i50, i51] at e
          have := hq τ (QF_tr (QF_th σ) a.1) a.2.1
          rw [← e] at this
          exact ⟨fun q => by rw [if_pos q] at this; exact this, fun q => by rw [if_neg q] at this; exact this⟩
        refine am_m0 (own := RX12) (A := look (a_X12_borne d)) (fun X e1 e2 hB => o_X12_borne d h6 e1 e2 hB) rfl (by decide +kernel) rfl rfl 120 (w := 3) ?_
        change vcs _ _ _ _ 120 0 [(28, 5000), (0, n), (0, w)] [] σ
        simp only [↓reduceIte, inR_0, inR_1, inR_m, vSw2_e, swP_n, swP_c, vI_e, vL_e, vNull_e, vIload_e, vLload_e, vAload_e, vIstore_e, vLstore_e, vAstore_e, vIinc_e, vIadd_e, vIsub_e, vImul_e, vIand_e, vIor_e, vIxor_e, vIshl_e, vIshr_e, vIushr_e, vIdiv_e, vIrem_e, vLadd_e, vLsub_e, vLmul_e, vLand_e, vLor_e, vLxor_e, vLdiv_e, vLrem_e, vLushr_e, vLshl_e, vLcmp_e, vIneg_e, vI2l_e, vL2i_e, vI2b_e, vI2c_e, vDup_e, vPop_e, vDup2_e, vGoto_e, vIcEq_e, vIfEq_e, vIcNe_e, vIfNe_e, vIcLt_e, vIfLt_e, vIcGe_e, vIfGe_e, vIcGt_e, vIfGt_e, vIcLe_e, vIfLe_e, vNonnull_e, vSw_e, vGetI_e, vGetL_e, vGetR_e, vPutI_e, vPutZ_e, vPutL_e, vPutR_e, vIald_e, vIald_s, vLald_e, vBald_e, vBald_s, vAald_e, vIast_e, vLast_e, vBast_e, vAast_e, vAlen_e8, vAlen_e9, vAlen_e10, vAlen_e11, vAlen_e5, vAlen_e3, vGets_e, vCompact_e, vLdcS_e, vIret_e, vZret_e, vCret_e, vBret_e, vLret_e, vVret_e, vAret_e, vCallM_e0, vCallMV_e0, vCallS_e0, vCallSV_e0, vCallM_e1, vCallMV_e1, vCallS_e1, vCallSV_e1, vCallM_e2, vCallMV_e2, vCallS_e2, vCallSV_e2, vCallM_e3, vCallMV_e3, vCallS_e3, vCallSV_e3, vCallM_e4, vCallMV_e4, vCallS_e4, vCallSV_e4, vCallM_e5, vCallMV_e5, vCallS_e5, vCallSV_e5, vCallM_e6, vCallMV_e6, vCallS_e6, vCallSV_e6, vCallM_e7, vCallMV_e7, vCallS_e7, vCallSV_e7, vBad_e, vStrVal_e, vStrCod_e, vForm_e, vCallT_e0, vCallT_e1, vCallT_e2, vCopy_e, rf_0_0, rf_0_1, rf_0_2, rf_0_3, rf_0_4, rf_0_7, rf_0_10, rf_0_11, rf_0_12, rf_0_13, rf_0_14, rf_0_15, rf_0_16, rf_1_0, rf_3_0, rf_3_1, rf_6_0, rf_6_1, rf_9_0, rf_9_1, rf_9_3, rf_13_0, rf_13_1, rf_13_2, rf_16_0, rf_16_1, rf_16_2, rf_16_3, rf_21_0, rf_21_1, rf_21_2, rf_21_3, rf_26_0, rf_26_1, rf_26_2, rf_26_3, rf_26_4, rf_26_5, rf_26_6, rf_31_0, rf_31_2, rf_31_5, rf_31_6, rf_36_0, rf_36_1, rf_36_2, rf_36_3, rf_39_0, rf_39_1, rf_39_2, rf_41_0, rf_41_1, rf_41_2, rf_41_3, rf_5000_1, rf_5000_2, rf_5000_3, rf_5000_4, rf_5000_5, rf_5000_15, rf_5000_16, rf_5000_18, rf_5000_19, rf_5000_20, rf_5000_21, rf_5000_22, rf_5000_23, rf_5000_24, rf_5000_25, rf_5000_26, rf_5000_27, rf_5000_36, rf_5000_37, rf_5000_40, rf_5000_41, rf_5000_42, rf_5000_43, rf_5000_44, rf_5000_45, rf_5000_47, rf_5000_52, rf_5000_54, rf_5000_55, rf_100_0, rf_100_1, rf_103_0, rf_103_1, rf_106_0, rf_106_1, rf_109_0, rf_109_1, al_2, al_4, al_5, al_7, al_8, al_10, al_11, al_12, al_14, al_15, al_17, al_18, al_19, al_20, al_22, al_23, al_24, al_25, al_27, al_28, al_29, al_30, al_32, al_33, al_34, al_35, al_37, al_38, al_40, al_42, al_5001, al_5002, al_5003, al_5004, al_5005, al_5006, al_5007, al_5008, al_5009, al_5010, al_5011, al_5012, al_5013, al_5014, al_5015, al_5016, al_5017, al_5018, al_5019, al_5020, al_5021, al_5022, al_5023, al_5024, al_5025, al_5026, al_9000, al_101, al_102, al_104, al_105, al_107, al_108, al_110, al_111, vcs_e, lg_c0, lg_cs, lg_nil, set_c0, set_cs, okst_0, okst_s, acok_n, acok_c, List.contains_nil, List.contains_cons, Bool.or_false, Bool.false_or, Bool.false_eq_true, if_false, if_true, ite_self, ne_eq, true_and, and_true, not_false_eq_true, not_true_eq_false, false_imp_iff, true_imp_iff, Nat.ble_eq, Bool.and_eq_true, reduceCtorEq, or_false, false_or, or_true, true_or, false_and, and_false, and_self, Int.reduceLE, Int.reduceAdd, Int.reduceSub, Int.reduceMul, Int.reduceNeg, Int.reduceLT, Int.reduceEq, Int.reduceNe, Nat.reduceBEq, Nat.reduceBNe, Nat.reduceEqDiff, amCmp_in, amCmp_lt, amCmp_le, amCmp_gt, amCmp_ge, amCmp_eq, amCmp_ne, Nat.reduceLeDiff, Nat.reduceSub, Bool.and_true, Bool.true_and, Bool.and_self, Bool.or_true, Bool.true_or, isRf_3, isRf_4, isRf_5, isRf_8, isRf_9, isRf_10, isRf_11, isRf_15, isRf_16, isRf_17, isRf_18, isRf_19, isRf_20, isRf_21, isRf_22, isRf_23, isRf_24, isRf_25, isRf_26, isRf_27, isRf_28, k_X12_borne_0, k_X12_borne_1, k_X12_borne_2, k_X12_borne_5, k_X12_borne_6, k_X12_borne_9, k_X12_borne_12, k_X12_borne_13, k_X12_borne_14, k_X12_borne_15, k_X12_borne_18, k_X12_borne_21, k_X12_borne_24, k_X12_borne_25, k_X12_borne_26, k_X12_borne_27, k_X12_borne_28, k_X12_borne_31, k_X12_borne_34, k_X12_borne_35, k_X12_borne_36, k_X12_borne_37, k_X12_borne_40, k_X12_borne_41, k_X12_borne_44, k_X12_borne_47, k_X12_borne_48, k_X12_borne_49, k_X12_borne_52, k_X12_borne_53, k_X12_borne_54, k_X12_borne_57, k_X12_borne_58, k_X12_borne_59, k_X12_borne_60, k_X12_borne_63, k_X12_borne_65, k_X12_borne_66, k_X12_borne_67, k_X12_borne_70, k_X12_borne_72, k_X12_borne_73, k_X12_borne_74, k_X12_borne_75, k_X12_borne_78, k_X12_borne_79, k_X12_borne_82, k_X12_borne_83, k_X12_borne_86, k_X12_borne_89, k_X12_borne_90, k_X12_borne_93, w_X12_copy_e, w_X12_goBorne_e, w_X12_isIn_e, e29, t15, et, g15, d0, if_pos d1, if_pos d3]
        repeat' (first | assumption | exact hw | apply And.intro | intro _)
        all_goals first | omega | exact absurd trivial (by assumption) | skip
        all_goals refine ⟨th0 σ, ?_⟩
        repeat' (first | assumption | exact hxt | exact hT | exact j51 | exact hw | apply And.intro | intro _)
        all_goals first | omega | exact (fin _ (by assumption) (by assumption)).1 (by assumption) | exact (fin _ (by assumption) (by assumption)).2 (by assumption)
      · have q8 := h1 (by omega)
        refine am_m [36] (fun _ _ _ _ _ => False) (own := RX12) (A := look (a_X12_borne d)) (fun X e1 e2 hB => o_X12_borne d h6 e1 e2 hB) rfl (by decide +kernel) rfl rfl (fun _ _ _ _ _ h => absurd h id) ⟨60, ?_⟩ (w := 3)
        change vcs _ _ _ _ 60 0 [(28, 5000), (0, n), (0, w)] [] σ
        simp only [↓reduceIte, inR_0, inR_1, inR_m, vSw2_e, swP_n, swP_c, vI_e, vL_e, vNull_e, vIload_e, vLload_e, vAload_e, vIstore_e, vLstore_e, vAstore_e, vIinc_e, vIadd_e, vIsub_e, vImul_e, vIand_e, vIor_e, vIxor_e, vIshl_e, vIshr_e, vIushr_e, vIdiv_e, vIrem_e, vLadd_e, vLsub_e, vLmul_e, vLand_e, vLor_e, vLxor_e, vLdiv_e, vLrem_e, vLushr_e, vLshl_e, vLcmp_e, vIneg_e, vI2l_e, vL2i_e, vI2b_e, vI2c_e, vDup_e, vPop_e, vDup2_e, vGoto_e, vIcEq_e, vIfEq_e, vIcNe_e, vIfNe_e, vIcLt_e, vIfLt_e, vIcGe_e, vIfGe_e, vIcGt_e, vIfGt_e, vIcLe_e, vIfLe_e, vNonnull_e, vSw_e, vGetI_e, vGetL_e, vGetR_e, vPutI_e, vPutZ_e, vPutL_e, vPutR_e, vIald_e, vIald_s, vLald_e, vBald_e, vBald_s, vAald_e, vIast_e, vLast_e, vBast_e, vAast_e, vAlen_e8, vAlen_e9, vAlen_e10, vAlen_e11, vAlen_e5, vAlen_e3, vGets_e, vCompact_e, vLdcS_e, vIret_e, vZret_e, vCret_e, vBret_e, vLret_e, vVret_e, vAret_e, vCallM_e0, vCallMV_e0, vCallS_e0, vCallSV_e0, vCallM_e1, vCallMV_e1, vCallS_e1, vCallSV_e1, vCallM_e2, vCallMV_e2, vCallS_e2, vCallSV_e2, vCallM_e3, vCallMV_e3, vCallS_e3, vCallSV_e3, vCallM_e4, vCallMV_e4, vCallS_e4, vCallSV_e4, vCallM_e5, vCallMV_e5, vCallS_e5, vCallSV_e5, vCallM_e6, vCallMV_e6, vCallS_e6, vCallSV_e6, vCallM_e7, vCallMV_e7, vCallS_e7, vCallSV_e7, vBad_e, vStrVal_e, vStrCod_e, vForm_e, vCallT_e0, vCallT_e1, vCallT_e2, vCopy_e, rf_0_0, rf_0_1, rf_0_2, rf_0_3, rf_0_4, rf_0_7, rf_0_10, rf_0_11, rf_0_12, rf_0_13, rf_0_14, rf_0_15, rf_0_16, rf_1_0, rf_3_0, rf_3_1, rf_6_0, rf_6_1, rf_9_0, rf_9_1, rf_9_3, rf_13_0, rf_13_1, rf_13_2, rf_16_0, rf_16_1, rf_16_2, rf_16_3, rf_21_0, rf_21_1, rf_21_2, rf_21_3, rf_26_0, rf_26_1, rf_26_2, rf_26_3, rf_26_4, rf_26_5, rf_26_6, rf_31_0, rf_31_2, rf_31_5, rf_31_6, rf_36_0, rf_36_1, rf_36_2, rf_36_3, rf_39_0, rf_39_1, rf_39_2, rf_41_0, rf_41_1, rf_41_2, rf_41_3, rf_5000_1, rf_5000_2, rf_5000_3, rf_5000_4, rf_5000_5, rf_5000_15, rf_5000_16, rf_5000_18, rf_5000_19, rf_5000_20, rf_5000_21, rf_5000_22, rf_5000_23, rf_5000_24, rf_5000_25, rf_5000_26, rf_5000_27, rf_5000_36, rf_5000_37, rf_5000_40, rf_5000_41, rf_5000_42, rf_5000_43, rf_5000_44, rf_5000_45, rf_5000_47, rf_5000_52, rf_5000_54, rf_5000_55, rf_100_0, rf_100_1, rf_103_0, rf_103_1, rf_106_0, rf_106_1, rf_109_0, rf_109_1, al_2, al_4, al_5, al_7, al_8, al_10, al_11, al_12, al_14, al_15, al_17, al_18, al_19, al_20, al_22, al_23, al_24, al_25, al_27, al_28, al_29, al_30, al_32, al_33, al_34, al_35, al_37, al_38, al_40, al_42, al_5001, al_5002, al_5003, al_5004, al_5005, al_5006, al_5007, al_5008, al_5009, al_5010, al_5011, al_5012, al_5013, al_5014, al_5015, al_5016, al_5017, al_5018, al_5019, al_5020, al_5021, al_5022, al_5023, al_5024, al_5025, al_5026, al_9000, al_101, al_102, al_104, al_105, al_107, al_108, al_110, al_111, vcs_e, lg_c0, lg_cs, lg_nil, set_c0, set_cs, okst_0, okst_s, acok_n, acok_c, List.contains_nil, List.contains_cons, Bool.or_false, Bool.false_or, Bool.false_eq_true, if_false, if_true, ite_self, ne_eq, true_and, and_true, not_false_eq_true, not_true_eq_false, false_imp_iff, true_imp_iff, Nat.ble_eq, Bool.and_eq_true, reduceCtorEq, or_false, false_or, or_true, true_or, false_and, and_false, and_self, Int.reduceLE, Int.reduceAdd, Int.reduceSub, Int.reduceMul, Int.reduceNeg, Int.reduceLT, Int.reduceEq, Int.reduceNe, Nat.reduceBEq, Nat.reduceBNe, Nat.reduceEqDiff, amCmp_in, amCmp_lt, amCmp_le, amCmp_gt, amCmp_ge, amCmp_eq, amCmp_ne, Nat.reduceLeDiff, Nat.reduceSub, Bool.and_true, Bool.true_and, Bool.and_self, Bool.or_true, Bool.true_or, isRf_3, isRf_4, isRf_5, isRf_8, isRf_9, isRf_10, isRf_11, isRf_15, isRf_16, isRf_17, isRf_18, isRf_19, isRf_20, isRf_21, isRf_22, isRf_23, isRf_24, isRf_25, isRf_26, isRf_27, isRf_28, k_X12_borne_0, k_X12_borne_1, k_X12_borne_2, k_X12_borne_5, k_X12_borne_6, k_X12_borne_9, k_X12_borne_12, k_X12_borne_13, k_X12_borne_14, k_X12_borne_15, k_X12_borne_18, k_X12_borne_21, k_X12_borne_24, k_X12_borne_25, k_X12_borne_26, k_X12_borne_27, k_X12_borne_28, k_X12_borne_31, k_X12_borne_34, k_X12_borne_35, k_X12_borne_36, k_X12_borne_37, k_X12_borne_40, k_X12_borne_41, k_X12_borne_44, k_X12_borne_47, k_X12_borne_48, k_X12_borne_49, k_X12_borne_52, k_X12_borne_53, k_X12_borne_54, k_X12_borne_57, k_X12_borne_58, k_X12_borne_59, k_X12_borne_60, k_X12_borne_63, k_X12_borne_65, k_X12_borne_66, k_X12_borne_67, k_X12_borne_70, k_X12_borne_72, k_X12_borne_73, k_X12_borne_74, k_X12_borne_75, k_X12_borne_78, k_X12_borne_79, k_X12_borne_82, k_X12_borne_83, k_X12_borne_86, k_X12_borne_89, k_X12_borne_90, k_X12_borne_93, w_X12_copy_e, w_X12_goBorne_e, w_X12_isIn_e, e29, d0, if_pos d1, if_neg d3]
        repeat' (first | apply And.intro | intro _)
        all_goals first | omega | exact absurd trivial (by assumption) | exact q8
    · have q8 := h1 (by omega)
      refine am_m [36] (fun _ _ _ _ _ => False) (own := RX12) (A := look (a_X12_borne d)) (fun X e1 e2 hB => o_X12_borne d h6 e1 e2 hB) rfl (by decide +kernel) rfl rfl (fun _ _ _ _ _ h => absurd h id) ⟨60, ?_⟩ (w := 3)
      change vcs _ _ _ _ 60 0 [(28, 5000), (0, n), (0, w)] [] σ
      simp only [↓reduceIte, inR_0, inR_1, inR_m, vSw2_e, swP_n, swP_c, vI_e, vL_e, vNull_e, vIload_e, vLload_e, vAload_e, vIstore_e, vLstore_e, vAstore_e, vIinc_e, vIadd_e, vIsub_e, vImul_e, vIand_e, vIor_e, vIxor_e, vIshl_e, vIshr_e, vIushr_e, vIdiv_e, vIrem_e, vLadd_e, vLsub_e, vLmul_e, vLand_e, vLor_e, vLxor_e, vLdiv_e, vLrem_e, vLushr_e, vLshl_e, vLcmp_e, vIneg_e, vI2l_e, vL2i_e, vI2b_e, vI2c_e, vDup_e, vPop_e, vDup2_e, vGoto_e, vIcEq_e, vIfEq_e, vIcNe_e, vIfNe_e, vIcLt_e, vIfLt_e, vIcGe_e, vIfGe_e, vIcGt_e, vIfGt_e, vIcLe_e, vIfLe_e, vNonnull_e, vSw_e, vGetI_e, vGetL_e, vGetR_e, vPutI_e, vPutZ_e, vPutL_e, vPutR_e, vIald_e, vIald_s, vLald_e, vBald_e, vBald_s, vAald_e, vIast_e, vLast_e, vBast_e, vAast_e, vAlen_e8, vAlen_e9, vAlen_e10, vAlen_e11, vAlen_e5, vAlen_e3, vGets_e, vCompact_e, vLdcS_e, vIret_e, vZret_e, vCret_e, vBret_e, vLret_e, vVret_e, vAret_e, vCallM_e0, vCallMV_e0, vCallS_e0, vCallSV_e0, vCallM_e1, vCallMV_e1, vCallS_e1, vCallSV_e1, vCallM_e2, vCallMV_e2, vCallS_e2, vCallSV_e2, vCallM_e3, vCallMV_e3, vCallS_e3, vCallSV_e3, vCallM_e4, vCallMV_e4, vCallS_e4, vCallSV_e4, vCallM_e5, vCallMV_e5, vCallS_e5, vCallSV_e5, vCallM_e6, vCallMV_e6, vCallS_e6, vCallSV_e6, vCallM_e7, vCallMV_e7, vCallS_e7, vCallSV_e7, vBad_e, vStrVal_e, vStrCod_e, vForm_e, vCallT_e0, vCallT_e1, vCallT_e2, vCopy_e, rf_0_0, rf_0_1, rf_0_2, rf_0_3, rf_0_4, rf_0_7, rf_0_10, rf_0_11, rf_0_12, rf_0_13, rf_0_14, rf_0_15, rf_0_16, rf_1_0, rf_3_0, rf_3_1, rf_6_0, rf_6_1, rf_9_0, rf_9_1, rf_9_3, rf_13_0, rf_13_1, rf_13_2, rf_16_0, rf_16_1, rf_16_2, rf_16_3, rf_21_0, rf_21_1, rf_21_2, rf_21_3, rf_26_0, rf_26_1, rf_26_2, rf_26_3, rf_26_4, rf_26_5, rf_26_6, rf_31_0, rf_31_2, rf_31_5, rf_31_6, rf_36_0, rf_36_1, rf_36_2, rf_36_3, rf_39_0, rf_39_1, rf_39_2, rf_41_0, rf_41_1, rf_41_2, rf_41_3, rf_5000_1, rf_5000_2, rf_5000_3, rf_5000_4, rf_5000_5, rf_5000_15, rf_5000_16, rf_5000_18, rf_5000_19, rf_5000_20, rf_5000_21, rf_5000_22, rf_5000_23, rf_5000_24, rf_5000_25, rf_5000_26, rf_5000_27, rf_5000_36, rf_5000_37, rf_5000_40, rf_5000_41, rf_5000_42, rf_5000_43, rf_5000_44, rf_5000_45, rf_5000_47, rf_5000_52, rf_5000_54, rf_5000_55, rf_100_0, rf_100_1, rf_103_0, rf_103_1, rf_106_0, rf_106_1, rf_109_0, rf_109_1, al_2, al_4, al_5, al_7, al_8, al_10, al_11, al_12, al_14, al_15, al_17, al_18, al_19, al_20, al_22, al_23, al_24, al_25, al_27, al_28, al_29, al_30, al_32, al_33, al_34, al_35, al_37, al_38, al_40, al_42, al_5001, al_5002, al_5003, al_5004, al_5005, al_5006, al_5007, al_5008, al_5009, al_5010, al_5011, al_5012, al_5013, al_5014, al_5015, al_5016, al_5017, al_5018, al_5019, al_5020, al_5021, al_5022, al_5023, al_5024, al_5025, al_5026, al_9000, al_101, al_102, al_104, al_105, al_107, al_108, al_110, al_111, vcs_e, lg_c0, lg_cs, lg_nil, set_c0, set_cs, okst_0, okst_s, acok_n, acok_c, List.contains_nil, List.contains_cons, Bool.or_false, Bool.false_or, Bool.false_eq_true, if_false, if_true, ite_self, ne_eq, true_and, and_true, not_false_eq_true, not_true_eq_false, false_imp_iff, true_imp_iff, Nat.ble_eq, Bool.and_eq_true, reduceCtorEq, or_false, false_or, or_true, true_or, false_and, and_false, and_self, Int.reduceLE, Int.reduceAdd, Int.reduceSub, Int.reduceMul, Int.reduceNeg, Int.reduceLT, Int.reduceEq, Int.reduceNe, Nat.reduceBEq, Nat.reduceBNe, Nat.reduceEqDiff, amCmp_in, amCmp_lt, amCmp_le, amCmp_gt, amCmp_ge, amCmp_eq, amCmp_ne, Nat.reduceLeDiff, Nat.reduceSub, Bool.and_true, Bool.true_and, Bool.and_self, Bool.or_true, Bool.true_or, isRf_3, isRf_4, isRf_5, isRf_8, isRf_9, isRf_10, isRf_11, isRf_15, isRf_16, isRf_17, isRf_18, isRf_19, isRf_20, isRf_21, isRf_22, isRf_23, isRf_24, isRf_25, isRf_26, isRf_27, isRf_28, k_X12_borne_0, k_X12_borne_1, k_X12_borne_2, k_X12_borne_5, k_X12_borne_6, k_X12_borne_9, k_X12_borne_12, k_X12_borne_13, k_X12_borne_14, k_X12_borne_15, k_X12_borne_18, k_X12_borne_21, k_X12_borne_24, k_X12_borne_25, k_X12_borne_26, k_X12_borne_27, k_X12_borne_28, k_X12_borne_31, k_X12_borne_34, k_X12_borne_35, k_X12_borne_36, k_X12_borne_37, k_X12_borne_40, k_X12_borne_41, k_X12_borne_44, k_X12_borne_47, k_X12_borne_48, k_X12_borne_49, k_X12_borne_52, k_X12_borne_53, k_X12_borne_54, k_X12_borne_57, k_X12_borne_58, k_X12_borne_59, k_X12_borne_60, k_X12_borne_63, k_X12_borne_65, k_X12_borne_66, k_X12_borne_67, k_X12_borne_70, k_X12_borne_72, k_X12_borne_73, k_X12_borne_74, k_X12_borne_75, k_X12_borne_78, k_X12_borne_79, k_X12_borne_82, k_X12_borne_83, k_X12_borne_86, k_X12_borne_89, k_X12_borne_90, k_X12_borne_93, w_X12_copy_e, w_X12_goBorne_e, w_X12_isIn_e, e29, d0, if_neg d1]
      repeat' (first | apply And.intro | intro _)
      all_goals first | omega | exact absurd trivial (by assumption) | exact q8
