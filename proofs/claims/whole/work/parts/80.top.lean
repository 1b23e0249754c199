/-! ArmchairHouse: cell 0 (5 lawCount, 6 lawNow, 8 fluNow, 9 drawn) -/
theorem isP6 : isP 6 := Or.inr rfl
theorem isP3 : isP 3 := Or.inl rfl
theorem isA16 : isA 16 := Or.inl rfl
theorem isA21 : isA 21 := Or.inr rfl
theorem addF_in {σ : Mem} {x : Int} (h : InR (σ 1 1)) : InR (addF σ x 1 1) := addS_in (addS_in (addS_in (addS_in h)))
theorem nzc_b (x : Int) : 0 ≤ nzc x ∧ nzc x ≤ 4 := by
  have b1 := bte_bd x 16777216
  have b2 := bte_bd x 65536
  have b3 := bte_bd x 256
  have b4 := bte_bd x 1
  unfold nzc; omega
abbrev fdM (σ : Mem) (a b c d e : Int) : Mem := addF (addF (addF (addF (addF σ a) b) c) d) e

theorem wd_369 : Cond.methodLink RX11 113 yX10_signsIn ∈ TBL := tb_tab (List.mem_of_getElem? (i := 369) (by decide +kernel)) rfl
theorem wd_371 : Cond.code yX10_signsIn cX10_signsIn 3 (some .int) ∈ TBL := tb_tab (List.mem_of_getElem? (i := 371) (by decide +kernel)) rfl
theorem lk_X11_113 : amLk RX11 113 yX10_signsIn cX10_signsIn 3 (some .int) 1 := ⟨wd_369, wd_2, wd_371, by decide +kernel, by decide +kernel, by decide⟩
theorem wd_370 : Cond.static yX10_signsIn ∈ TBL := tb_tab (List.mem_of_getElem? (i := 370) (by decide +kernel)) rfl
theorem wd_313 : Cond.fieldLink RX11 10 "ArmchairHouse" "tape" "LArmchairHouse$Tape;" ∈ TBL := tb_tab (List.mem_of_getElem? (i := 313) (by decide +kernel)) rfl
theorem fl_X11_10 : amFl RX11 11 0 10 RX11 TX11 17 := ⟨rfl, inT_11, by decide, wd_313⟩
theorem wd_43 : Cond.fieldLink RX11 117 "ArmchairHouse$Tape" "length" "I" ∈ TBL := tb_tab (List.mem_of_getElem? (i := 43) (by decide +kernel)) rfl
theorem fl_X11_117 : amFl RX11 10 1 117 RX10 TX10 3 := ⟨rfl, inT_10, by decide, wd_43⟩
theorem wd_372 : Cond.methodLink RX11 120 yX10_addFour ∈ TBL := tb_tab (List.mem_of_getElem? (i := 372) (by decide +kernel)) rfl
theorem wd_375 : Cond.code yX10_addFour cX10_addFour 4 (none) ∈ TBL := tb_tab (List.mem_of_getElem? (i := 375) (by decide +kernel)) rfl
theorem lk_X11_120 : amLk RX11 120 yX10_addFour cX10_addFour 4 (none) 1 := ⟨wd_372, wd_2, wd_375, by decide +kernel, by decide +kernel, by decide⟩
theorem wd_373 : Cond.instanceMethod yX10_addFour ∈ TBL := tb_tab (List.mem_of_getElem? (i := 373) (by decide +kernel)) rfl
theorem wd_374 : Cond.selects RX10 yX10_addFour yX10_addFour ∈ TBL := tb_tab (List.mem_of_getElem? (i := 374) (by decide +kernel)) rfl
def a_X11_feed : AC := [(0, vIload 1 1), (1, vCallS w_X10_signsIn 1 4), (4, vIload 2 5), (5, vCallS w_X10_signsIn 1 8), (8, vIadd 9), (9, vIload 3 10), (10, vCallS w_X10_signsIn 1 13), (13, vIadd 14), (14, vIload 4 16), (16, vCallS w_X10_signsIn 1 19), (19, vIadd 20), (20, vIload 5 22), (22, vCallS w_X10_signsIn 1 25), (25, vIadd 26), (26, vIstore 6 28), (28, vAload 0 29), (29, vGetR TT 27 0 26 32), (32, vGetI 26 1 35), (35, vIload 6 37), (37, vIadd 38), (38, vI 240 41), (41, vIcLe 46 44), (44, vI (-1) 45), (45, vIret), (46, vAload 0 47), (47, vGetR TT 27 0 26 50), (50, vIload 1 51), (51, vCallMV w_X10_addFour 26 1 54), (54, vAload 0 55), (55, vGetR TT 27 0 26 58), (58, vIload 2 59), (59, vCallMV w_X10_addFour 26 1 62), (62, vAload 0 63), (63, vGetR TT 27 0 26 66), (66, vIload 3 67), (67, vCallMV w_X10_addFour 26 1 70), (70, vAload 0 71), (71, vGetR TT 27 0 26 74), (74, vIload 4 76), (76, vCallMV w_X10_addFour 26 1 79), (79, vAload 0 80), (80, vGetR TT 27 0 26 83), (83, vIload 5 85), (85, vCallMV w_X10_addFour 26 1 88), (88, vAload 0 89), (89, vGetR TT 27 0 26 92), (92, vGetI 26 1 95), (95, vIret)]
theorem k_X11_feed_0 : look a_X11_feed 0 = vIload 1 1 := rfl
theorem k_X11_feed_1 : look a_X11_feed 1 = vCallS w_X10_signsIn 1 4 := rfl
theorem k_X11_feed_4 : look a_X11_feed 4 = vIload 2 5 := rfl
theorem k_X11_feed_5 : look a_X11_feed 5 = vCallS w_X10_signsIn 1 8 := rfl
theorem k_X11_feed_8 : look a_X11_feed 8 = vIadd 9 := rfl
theorem k_X11_feed_9 : look a_X11_feed 9 = vIload 3 10 := rfl
theorem k_X11_feed_10 : look a_X11_feed 10 = vCallS w_X10_signsIn 1 13 := rfl
theorem k_X11_feed_13 : look a_X11_feed 13 = vIadd 14 := rfl
theorem k_X11_feed_14 : look a_X11_feed 14 = vIload 4 16 := rfl
theorem k_X11_feed_16 : look a_X11_feed 16 = vCallS w_X10_signsIn 1 19 := rfl
theorem k_X11_feed_19 : look a_X11_feed 19 = vIadd 20 := rfl
theorem k_X11_feed_20 : look a_X11_feed 20 = vIload 5 22 := rfl
theorem k_X11_feed_22 : look a_X11_feed 22 = vCallS w_X10_signsIn 1 25 := rfl
theorem k_X11_feed_25 : look a_X11_feed 25 = vIadd 26 := rfl
theorem k_X11_feed_26 : look a_X11_feed 26 = vIstore 6 28 := rfl
theorem k_X11_feed_28 : look a_X11_feed 28 = vAload 0 29 := rfl
theorem k_X11_feed_29 : look a_X11_feed 29 = vGetR TT 27 0 26 32 := rfl
theorem k_X11_feed_32 : look a_X11_feed 32 = vGetI 26 1 35 := rfl
theorem k_X11_feed_35 : look a_X11_feed 35 = vIload 6 37 := rfl
theorem k_X11_feed_37 : look a_X11_feed 37 = vIadd 38 := rfl
theorem k_X11_feed_38 : look a_X11_feed 38 = vI 240 41 := rfl
theorem k_X11_feed_41 : look a_X11_feed 41 = vIcLe 46 44 := rfl
theorem k_X11_feed_44 : look a_X11_feed 44 = vI (-1) 45 := rfl
theorem k_X11_feed_45 : look a_X11_feed 45 = vIret := rfl
theorem k_X11_feed_46 : look a_X11_feed 46 = vAload 0 47 := rfl
theorem k_X11_feed_47 : look a_X11_feed 47 = vGetR TT 27 0 26 50 := rfl
theorem k_X11_feed_50 : look a_X11_feed 50 = vIload 1 51 := rfl
theorem k_X11_feed_51 : look a_X11_feed 51 = vCallMV w_X10_addFour 26 1 54 := rfl
theorem k_X11_feed_54 : look a_X11_feed 54 = vAload 0 55 := rfl
theorem k_X11_feed_55 : look a_X11_feed 55 = vGetR TT 27 0 26 58 := rfl
theorem k_X11_feed_58 : look a_X11_feed 58 = vIload 2 59 := rfl
theorem k_X11_feed_59 : look a_X11_feed 59 = vCallMV w_X10_addFour 26 1 62 := rfl
theorem k_X11_feed_62 : look a_X11_feed 62 = vAload 0 63 := rfl
theorem k_X11_feed_63 : look a_X11_feed 63 = vGetR TT 27 0 26 66 := rfl
theorem k_X11_feed_66 : look a_X11_feed 66 = vIload 3 67 := rfl
theorem k_X11_feed_67 : look a_X11_feed 67 = vCallMV w_X10_addFour 26 1 70 := rfl
theorem k_X11_feed_70 : look a_X11_feed 70 = vAload 0 71 := rfl
theorem k_X11_feed_71 : look a_X11_feed 71 = vGetR TT 27 0 26 74 := rfl
theorem k_X11_feed_74 : look a_X11_feed 74 = vIload 4 76 := rfl
theorem k_X11_feed_76 : look a_X11_feed 76 = vCallMV w_X10_addFour 26 1 79 := rfl
theorem k_X11_feed_79 : look a_X11_feed 79 = vAload 0 80 := rfl
theorem k_X11_feed_80 : look a_X11_feed 80 = vGetR TT 27 0 26 83 := rfl
theorem k_X11_feed_83 : look a_X11_feed 83 = vIload 5 85 := rfl
theorem k_X11_feed_85 : look a_X11_feed 85 = vCallMV w_X10_addFour 26 1 88 := rfl
theorem k_X11_feed_88 : look a_X11_feed 88 = vAload 0 89 := rfl
theorem k_X11_feed_89 : look a_X11_feed 89 = vGetR TT 27 0 26 92 := rfl
theorem k_X11_feed_92 : look a_X11_feed 92 = vGetI 26 1 95 := rfl
theorem k_X11_feed_95 : look a_X11_feed 95 = vIret := rfl
theorem o_X11_feed {X : amX} (e1 : XT X = TT) (e2 : XD X = 1) (hB : amB X RX11 cX11_feed (some .int) 7) : ∀ pc, amOK X pc (look a_X11_feed pc) := by
  have hT : amTok (XT X) := e1 ▸ TT_ok
  refine look_ok ?_
  unfold a_X11_feed
  refine fc (ok_iload_n hB dX11_feed_0) ?_
  refine fc (ok_callS hB (e1 ▸ s_X10_signsIn) lk_X11_113 (by rw [e2]; decide) wd_370 dX11_feed_1) ?_
  refine fc (ok_iload_n hB dX11_feed_4) ?_
  refine fc (ok_callS hB (e1 ▸ s_X10_signsIn) lk_X11_113 (by rw [e2]; decide) wd_370 dX11_feed_5) ?_
  refine fc (ok_iadd hB dX11_feed_8) ?_
  refine fc (ok_iload_n hB dX11_feed_9) ?_
  refine fc (ok_callS hB (e1 ▸ s_X10_signsIn) lk_X11_113 (by rw [e2]; decide) wd_370 dX11_feed_10) ?_
  refine fc (ok_iadd hB dX11_feed_13) ?_
  refine fc (ok_iload hB dX11_feed_14) ?_
  refine fc (ok_callS hB (e1 ▸ s_X10_signsIn) lk_X11_113 (by rw [e2]; decide) wd_370 dX11_feed_16) ?_
  refine fc (ok_iadd hB dX11_feed_19) ?_
  refine fc (ok_iload hB dX11_feed_20) ?_
  refine fc (ok_callS hB (e1 ▸ s_X10_signsIn) lk_X11_113 (by rw [e2]; decide) wd_370 dX11_feed_22) ?_
  refine fc (ok_iadd hB dX11_feed_25) ?_
  refine fc (ok_istore hB (by decide) dX11_feed_26) ?_
  refine fc (ok_aload_n hB dX11_feed_28) ?_
  refine fc (okt_getR e1 hB hT fl_X11_10 rfl af_11_0 at_11_0 (by decide) dX11_feed_29) ?_
  refine fc (ok_getI hB hT fl_X11_117 rfl rfl (Or.inl af_10_1) dX11_feed_32) ?_
  refine fc (ok_iload hB dX11_feed_35) ?_
  refine fc (ok_iadd hB dX11_feed_37) ?_
  refine fc (ok_sipush hB dX11_feed_38 (by decide)) ?_
  refine fc (ok_icmp_le hB (t := 46) (by decide) dX11_feed_41) ?_
  refine fc (ok_iconst hB dX11_feed_44) ?_
  refine fc (ok_iret hB dX11_feed_45) ?_
  refine fc (ok_aload_n hB dX11_feed_46) ?_
  refine fc (okt_getR e1 hB hT fl_X11_10 rfl af_11_0 at_11_0 (by decide) dX11_feed_47) ?_
  refine fc (ok_iload_n hB dX11_feed_50) ?_
  refine fc (ok_callMV hB hT (e1 ▸ s_X10_addFour) lk_X11_120 (by rw [e2]; decide) (c := 10) rfl rfl rfl wd_373 wd_374 dX11_feed_51) ?_
  refine fc (ok_aload_n hB dX11_feed_54) ?_
  refine fc (okt_getR e1 hB hT fl_X11_10 rfl af_11_0 at_11_0 (by decide) dX11_feed_55) ?_
  refine fc (ok_iload_n hB dX11_feed_58) ?_
  refine fc (ok_callMV hB hT (e1 ▸ s_X10_addFour) lk_X11_120 (by rw [e2]; decide) (c := 10) rfl rfl rfl wd_373 wd_374 dX11_feed_59) ?_
  refine fc (ok_aload_n hB dX11_feed_62) ?_
  refine fc (okt_getR e1 hB hT fl_X11_10 rfl af_11_0 at_11_0 (by decide) dX11_feed_63) ?_
  refine fc (ok_iload_n hB dX11_feed_66) ?_
  refine fc (ok_callMV hB hT (e1 ▸ s_X10_addFour) lk_X11_120 (by rw [e2]; decide) (c := 10) rfl rfl rfl wd_373 wd_374 dX11_feed_67) ?_
  refine fc (ok_aload_n hB dX11_feed_70) ?_
  refine fc (okt_getR e1 hB hT fl_X11_10 rfl af_11_0 at_11_0 (by decide) dX11_feed_71) ?_
  refine fc (ok_iload hB dX11_feed_74) ?_
  refine fc (ok_callMV hB hT (e1 ▸ s_X10_addFour) lk_X11_120 (by rw [e2]; decide) (c := 10) rfl rfl rfl wd_373 wd_374 dX11_feed_76) ?_
  refine fc (ok_aload_n hB dX11_feed_79) ?_
  refine fc (okt_getR e1 hB hT fl_X11_10 rfl af_11_0 at_11_0 (by decide) dX11_feed_80) ?_
  refine fc (ok_iload hB dX11_feed_83) ?_
  refine fc (ok_callMV hB hT (e1 ▸ s_X10_addFour) lk_X11_120 (by rw [e2]; decide) (c := 10) rfl rfl rfl wd_373 wd_374 dX11_feed_85) ?_
  refine fc (ok_aload_n hB dX11_feed_88) ?_
  refine fc (okt_getR e1 hB hT fl_X11_10 rfl af_11_0 at_11_0 (by decide) dX11_feed_89) ?_
  refine fc (ok_getI hB hT fl_X11_117 rfl rfl (Or.inl af_10_1) dX11_feed_92) ?_
  refine fc (ok_iret hB dX11_feed_95) ?_
  exact fn

def w_X11_feed : WP := fun av σ Q => ∃ (a : Int) (b : Int) (c : Int) (d : Int) (e : Int), av = [(27, 0), (0, a), (0, b), (0, c), (0, d), (0, e)] ∧ (InR a ∧ InR b ∧ InR c ∧ InR d ∧ InR e ∧ tapeOk σ ∧ (240 < σ 1 1 + (nzc a + nzc b + nzc c + nzc d + nzc e) → Q (0, -1) σ) ∧ (σ 1 1 + (nzc a + nzc b + nzc c + nzc d + nzc e) ≤ 240 → Q (0, fdM σ a b c d e 1 1) (fdM σ a b c d e)))
theorem w_X11_feed_e (a : Int) (b : Int) (c : Int) (d : Int) (e : Int) (σ : Mem) (Q : AV → Mem → Prop) : w_X11_feed [(27, 0), (0, a), (0, b), (0, c), (0, d), (0, e)] σ Q = (InR a ∧ InR b ∧ InR c ∧ InR d ∧ InR e ∧ tapeOk σ ∧ (240 < σ 1 1 + (nzc a + nzc b + nzc c + nzc d + nzc e) → Q (0, -1) σ) ∧ (σ 1 1 + (nzc a + nzc b + nzc c + nzc d + nzc e) ≤ 240 → Q (0, fdM σ a b c d e 1 1) (fdM σ a b c d e))) := by
  apply propext; constructor
  · rintro ⟨a', b', c', d', e', h9, hb9⟩; cases h9; exact hb9
  · intro hb9; exact ⟨a, b, c, d, e, rfl, hb9⟩

set_option maxRecDepth 100000 in
set_option maxHeartbeats 4000000 in
theorem s_X11_feed : ∀ av σ Q, w_X11_feed av σ Q → amCall 1 0 0 TT yX11_feed cX11_feed 7 (some .int) av σ Q := by
  rintro av σ Q ⟨a, b, c, d, e, rfl, ha, hb, hc, hd, he, ht, h1, h2⟩
  have ht1 := ht.2.1
  have ht0 := ht.1
  have i0 : InR (σ 1 1) := ⟨by omega, by omega⟩
  have i1 : InR (addF σ a 1 1) := addF_in i0
  have i2 : InR (addF (addF σ a) b 1 1) := addF_in i1
  have i3 : InR (addF (addF (addF σ a) b) c 1 1) := addF_in i2
  have i4 : InR (addF (addF (addF (addF σ a) b) c) d 1 1) := addF_in i3
  have n1 := nzc_b a
  have n2 := nzc_b b
  have n3 := nzc_b c
  have n4 := nzc_b d
  have n5 := nzc_b e
  refine am_m0 (own := RX11) (A := look a_X11_feed) (fun X e1 e2 hB => o_X11_feed e1 e2 hB) rfl (by decide +kernel) rfl rfl 190 (w := 7) ?_
  change vcs _ _ _ _ 190 0 [(27, 0), (0, a), (0, b), (0, c), (0, d), (0, e), (6, 0)] [] σ
  simp only [↓reduceIte, inR_0, inR_1, inR_m, vSw2_e, swP_n, swP_c, vI_e, vL_e, vNull_e, vIload_e, vLload_e, vAload_e, vIstore_e, vLstore_e, vAstore_e, vIinc_e, vIadd_e, vIsub_e, vImul_e, vIand_e, vIor_e, vIxor_e, vIshl_e, vIshr_e, vIushr_e, vIdiv_e, vIrem_e, vLadd_e, vLsub_e, vLmul_e, vLand_e, vLor_e, vLxor_e, vLdiv_e, vLrem_e, vLushr_e, vLshl_e, vLcmp_e, vIneg_e, vI2l_e, vL2i_e, vI2b_e, vI2c_e, vDup_e, vPop_e, vDup2_e, vGoto_e, vIcEq_e, vIfEq_e, vIcNe_e, vIfNe_e, vIcLt_e, vIfLt_e, vIcGe_e, vIfGe_e, vIcGt_e, vIfGt_e, vIcLe_e, vIfLe_e, vNonnull_e, vSw_e, vGetI_e, vGetL_e, vGetR_e, vPutI_e, vPutZ_e, vPutL_e, vPutR_e, vIald_e, vIald_s, vLald_e, vBald_e, vBald_s, vAald_e, vIast_e, vLast_e, vBast_e, vAast_e, vAlen_e8, vAlen_e9, vAlen_e10, vAlen_e11, vAlen_e5, vAlen_e3, vGets_e, vCompact_e, vLdcS_e, vIret_e, vZret_e, vCret_e, vBret_e, vLret_e, vVret_e, vAret_e, vCallM_e0, vCallMV_e0, vCallS_e0, vCallSV_e0, vCallM_e1, vCallMV_e1, vCallS_e1, vCallSV_e1, vCallM_e2, vCallMV_e2, vCallS_e2, vCallSV_e2, vCallM_e3, vCallMV_e3, vCallS_e3, vCallSV_e3, vCallM_e4, vCallMV_e4, vCallS_e4, vCallSV_e4, vCallM_e5, vCallMV_e5, vCallS_e5, vCallSV_e5, vCallM_e6, vCallMV_e6, vCallS_e6, vCallSV_e6, vCallM_e7, vCallMV_e7, vCallS_e7, vCallSV_e7, vBad_e, vStrVal_e, vStrCod_e, vForm_e, vCallT_e0, vCallT_e1, vCallT_e2, vCopy_e, rf_0_0, rf_0_1, rf_0_2, rf_0_3, rf_0_4, rf_0_7, rf_0_10, rf_0_11, rf_0_12, rf_0_13, rf_0_14, rf_0_15, rf_0_16, rf_1_0, rf_3_0, rf_3_1, rf_6_0, rf_6_1, rf_9_0, rf_9_1, rf_9_3, rf_13_0, rf_13_1, rf_13_2, rf_16_0, rf_16_1, rf_16_2, rf_16_3, rf_21_0, rf_21_1, rf_21_2, rf_21_3, rf_26_0, rf_26_1, rf_26_2, rf_26_3, rf_26_4, rf_26_5, rf_26_6, rf_31_0, rf_31_2, rf_31_5, rf_31_6, rf_36_0, rf_36_1, rf_36_2, rf_36_3, rf_39_0, rf_39_1, rf_39_2, rf_41_0, rf_41_1, rf_41_2, rf_41_3, rf_5000_1, rf_5000_2, rf_5000_3, rf_5000_4, rf_5000_5, rf_5000_15, rf_5000_16, rf_5000_18, rf_5000_19, rf_5000_20, rf_5000_21, rf_5000_22, rf_5000_23, rf_5000_24, rf_5000_25, rf_5000_26, rf_5000_27, rf_5000_36, rf_5000_37, rf_5000_40, rf_5000_41, rf_5000_42, rf_5000_43, rf_5000_44, rf_5000_45, rf_5000_47, rf_5000_52, rf_5000_54, rf_5000_55, rf_100_0, rf_100_1, rf_103_0, rf_103_1, rf_106_0, rf_106_1, rf_109_0, rf_109_1, al_2, al_4, al_5, al_7, al_8, al_10, al_11, al_12, al_14, al_15, al_17, al_18, al_19, al_20, al_22, al_23, al_24, al_25, al_27, al_28, al_29, al_30, al_32, al_33, al_34, al_35, al_37, al_38, al_40, al_42, al_5001, al_5002, al_5003, al_5004, al_5005, al_5006, al_5007, al_5008, al_5009, al_5010, al_5011, al_5012, al_5013, al_5014, al_5015, al_5016, al_5017, al_5018, al_5019, al_5020, al_5021, al_5022, al_5023, al_5024, al_5025, al_5026, al_9000, al_101, al_102, al_104, al_105, al_107, al_108, al_110, al_111, vcs_e, lg_c0, lg_cs, lg_nil, set_c0, set_cs, okst_0, okst_s, acok_n, acok_c, List.contains_nil, List.contains_cons, Bool.or_false, Bool.false_or, Bool.false_eq_true, if_false, if_true, ite_self, ne_eq, true_and, and_true, not_false_eq_true, not_true_eq_false, false_imp_iff, true_imp_iff, Nat.ble_eq, Bool.and_eq_true, reduceCtorEq, or_false, false_or, or_true, true_or, false_and, and_false, and_self, Int.reduceLE, Int.reduceAdd, Int.reduceSub, Int.reduceMul, Int.reduceNeg, Int.reduceLT, Int.reduceEq, Int.reduceNe, Nat.reduceBEq, Nat.reduceBNe, Nat.reduceEqDiff, amCmp_in, amCmp_lt, amCmp_le, amCmp_gt, amCmp_ge, amCmp_eq, amCmp_ne, Nat.reduceLeDiff, Nat.reduceSub, Bool.and_true, Bool.true_and, Bool.and_self, Bool.or_true, Bool.true_or, isRf_3, isRf_4, isRf_5, isRf_8, isRf_9, isRf_10, isRf_11, isRf_15, isRf_16, isRf_17, isRf_18, isRf_19, isRf_20, isRf_21, isRf_22, isRf_23, isRf_24, isRf_25, isRf_26, isRf_27, isRf_28, k_X11_feed_0, k_X11_feed_1, k_X11_feed_4, k_X11_feed_5, k_X11_feed_8, k_X11_feed_9, k_X11_feed_10, k_X11_feed_13, k_X11_feed_14, k_X11_feed_16, k_X11_feed_19, k_X11_feed_20, k_X11_feed_22, k_X11_feed_25, k_X11_feed_26, k_X11_feed_28, k_X11_feed_29, k_X11_feed_32, k_X11_feed_35, k_X11_feed_37, k_X11_feed_38, k_X11_feed_41, k_X11_feed_44, k_X11_feed_45, k_X11_feed_46, k_X11_feed_47, k_X11_feed_50, k_X11_feed_51, k_X11_feed_54, k_X11_feed_55, k_X11_feed_58, k_X11_feed_59, k_X11_feed_62, k_X11_feed_63, k_X11_feed_66, k_X11_feed_67, k_X11_feed_70, k_X11_feed_71, k_X11_feed_74, k_X11_feed_76, k_X11_feed_79, k_X11_feed_80, k_X11_feed_83, k_X11_feed_85, k_X11_feed_88, k_X11_feed_89, k_X11_feed_92, k_X11_feed_95, w_X10_addFour_e, w_X10_signsIn_e, up_s, up_nj, up_na, up_up, savR_o, cpy_o, fillm_o, setAud_o, setv_o, setv_s, Int.reduceNe, Int.reduceEq, Int.reduceLT, Int.reduceAdd, not_false_eq_true, ne_eq, or_true, true_or]
  repeat' (first | assumption | apply And.intro | intro _)
  all_goals first | omega | exact absurd trivial (by assumption) | exact h1 (by omega) | exact h2 (by omega)
theorem fp_X11_117 : amFp RX11 10 1 117 RX10 TX10 3 tyX10 .int := ⟨fl_X11_117, tyX10_ok, nmX10, by decide +kernel⟩
def a_X11_end : AC := [(0, vIload 1 1), (1, vIfLt 15 4), (4, vIload 1 5), (5, vAload 0 6), (6, vGetR TT 27 0 26 9), (9, vGetI 26 1 12), (12, vIcLe 17 15), (15, vI 0 16), (16, vZret), (17, vAload 0 18), (18, vGetR TT 27 0 26 21), (21, vIload 1 22), (22, vPutI 26 1 25), (25, vI 1 26), (26, vZret)]
theorem k_X11_end_0 : look a_X11_end 0 = vIload 1 1 := rfl
theorem k_X11_end_1 : look a_X11_end 1 = vIfLt 15 4 := rfl
theorem k_X11_end_4 : look a_X11_end 4 = vIload 1 5 := rfl
theorem k_X11_end_5 : look a_X11_end 5 = vAload 0 6 := rfl
theorem k_X11_end_6 : look a_X11_end 6 = vGetR TT 27 0 26 9 := rfl
theorem k_X11_end_9 : look a_X11_end 9 = vGetI 26 1 12 := rfl
theorem k_X11_end_12 : look a_X11_end 12 = vIcLe 17 15 := rfl
theorem k_X11_end_15 : look a_X11_end 15 = vI 0 16 := rfl
theorem k_X11_end_16 : look a_X11_end 16 = vZret := rfl
theorem k_X11_end_17 : look a_X11_end 17 = vAload 0 18 := rfl
theorem k_X11_end_18 : look a_X11_end 18 = vGetR TT 27 0 26 21 := rfl
theorem k_X11_end_21 : look a_X11_end 21 = vIload 1 22 := rfl
theorem k_X11_end_22 : look a_X11_end 22 = vPutI 26 1 25 := rfl
theorem k_X11_end_25 : look a_X11_end 25 = vI 1 26 := rfl
theorem k_X11_end_26 : look a_X11_end 26 = vZret := rfl
theorem o_X11_end {X : amX} (e1 : XT X = TT) (e2 : XD X = 0) (hB : amB X RX11 cX11_end (some .boolean) 2) : ∀ pc, amOK X pc (look a_X11_end pc) := by
  have hT : amTok (XT X) := e1 ▸ TT_ok
  refine look_ok ?_
  unfold a_X11_end
  refine fc (ok_iload_n hB dX11_end_0) ?_
  refine fc (ok_if_lt hB (t := 15) (by decide) dX11_end_1) ?_
  refine fc (ok_iload_n hB dX11_end_4) ?_
  refine fc (ok_aload_n hB dX11_end_5) ?_
  refine fc (okt_getR e1 hB hT fl_X11_10 rfl af_11_0 at_11_0 (by decide) dX11_end_6) ?_
  refine fc (ok_getI hB hT fl_X11_117 rfl rfl (Or.inl af_10_1) dX11_end_9) ?_
  refine fc (ok_icmp_le hB (t := 17) (by decide) dX11_end_12) ?_
  refine fc (ok_iconst hB dX11_end_15) ?_
  refine fc (ok_zret hB dX11_end_16) ?_
  refine fc (ok_aload_n hB dX11_end_17) ?_
  refine fc (okt_getR e1 hB hT fl_X11_10 rfl af_11_0 at_11_0 (by decide) dX11_end_18) ?_
  refine fc (ok_iload_n hB dX11_end_21) ?_
  refine fc (ok_putI hB hT fp_X11_117 rfl rfl rfl af_10_1 dX11_end_22) ?_
  refine fc (ok_iconst hB dX11_end_25) ?_
  refine fc (ok_zret hB dX11_end_26) ?_
  exact fn

def w_X11_end : WP := fun av σ Q => ∃ (n : Int), av = [(27, 0), (0, n)] ∧ (InR n ∧ tapeOk σ ∧ (n < 0 ∨ σ 1 1 < n → Q (0, 0) σ) ∧ (0 ≤ n → n ≤ σ 1 1 → Q (0, 1) (up σ 1 1 n)))
theorem w_X11_end_e (n : Int) (σ : Mem) (Q : AV → Mem → Prop) : w_X11_end [(27, 0), (0, n)] σ Q = (InR n ∧ tapeOk σ ∧ (n < 0 ∨ σ 1 1 < n → Q (0, 0) σ) ∧ (0 ≤ n → n ≤ σ 1 1 → Q (0, 1) (up σ 1 1 n))) := by
  apply propext; constructor
  · rintro ⟨n', h9, hb9⟩; cases h9; exact hb9
  · intro hb9; exact ⟨n, rfl, hb9⟩

set_option maxRecDepth 100000 in
set_option maxHeartbeats 4000000 in
theorem s_X11_end : ∀ av σ Q, w_X11_end av σ Q → amCall 0 0 0 TT yX11_end cX11_end 2 (some .boolean) av σ Q := by
  rintro av σ Q ⟨n, rfl, hn, ht, h1, h2⟩
  have ht1 := ht.2.1
  have ht0 := ht.1
  refine am_m0 (own := RX11) (A := look a_X11_end) (fun X e1 e2 hB => o_X11_end e1 e2 hB) rfl (by decide +kernel) rfl rfl 190 (w := 2) ?_
  change vcs _ _ _ _ 190 0 [(27, 0), (0, n)] [] σ
  simp only [↓reduceIte, inR_0, inR_1, inR_m, vSw2_e, swP_n, swP_c, vI_e, vL_e, vNull_e, vIload_e, vLload_e, vAload_e, vIstore_e, vLstore_e, vAstore_e, vIinc_e, vIadd_e, vIsub_e, vImul_e, vIand_e, vIor_e, vIxor_e, vIshl_e, vIshr_e, vIushr_e, vIdiv_e, vIrem_e, vLadd_e, vLsub_e, vLmul_e, vLand_e, vLor_e, vLxor_e, vLdiv_e, vLrem_e, vLushr_e, vLshl_e, vLcmp_e, vIneg_e, vI2l_e, vL2i_e, vI2b_e, vI2c_e, vDup_e, vPop_e, vDup2_e, vGoto_e, vIcEq_e, vIfEq_e, vIcNe_e, vIfNe_e, vIcLt_e, vIfLt_e, vIcGe_e, vIfGe_e, vIcGt_e, vIfGt_e, vIcLe_e, vIfLe_e, vNonnull_e, vSw_e, vGetI_e, vGetL_e, vGetR_e, vPutI_e, vPutZ_e, vPutL_e, vPutR_e, vIald_e, vIald_s, vLald_e, vBald_e, vBald_s, vAald_e, vIast_e, vLast_e, vBast_e, vAast_e, vAlen_e8, vAlen_e9, vAlen_e10, vAlen_e11, vAlen_e5, vAlen_e3, vGets_e, vCompact_e, vLdcS_e, vIret_e, vZret_e, vCret_e, vBret_e, vLret_e, vVret_e, vAret_e, vCallM_e0, vCallMV_e0, vCallS_e0, vCallSV_e0, vCallM_e1, vCallMV_e1, vCallS_e1, vCallSV_e1, vCallM_e2, vCallMV_e2, vCallS_e2, vCallSV_e2, vCallM_e3, vCallMV_e3, vCallS_e3, vCallSV_e3, vCallM_e4, vCallMV_e4, vCallS_e4, vCallSV_e4, vCallM_e5, vCallMV_e5, vCallS_e5, vCallSV_e5, vCallM_e6, vCallMV_e6, vCallS_e6, vCallSV_e6, vCallM_e7, vCallMV_e7, vCallS_e7, vCallSV_e7, vBad_e, vStrVal_e, vStrCod_e, vForm_e, vCallT_e0, vCallT_e1, vCallT_e2, vCopy_e, rf_0_0, rf_0_1, rf_0_2, rf_0_3, rf_0_4, rf_0_7, rf_0_10, rf_0_11, rf_0_12, rf_0_13, rf_0_14, rf_0_15, rf_0_16, rf_1_0, rf_3_0, rf_3_1, rf_6_0, rf_6_1, rf_9_0, rf_9_1, rf_9_3, rf_13_0, rf_13_1, rf_13_2, rf_16_0, rf_16_1, rf_16_2, rf_16_3, rf_21_0, rf_21_1, rf_21_2, rf_21_3, rf_26_0, rf_26_1, rf_26_2, rf_26_3, rf_26_4, rf_26_5, rf_26_6, rf_31_0, rf_31_2, rf_31_5, rf_31_6, rf_36_0, rf_36_1, rf_36_2, rf_36_3, rf_39_0, rf_39_1, rf_39_2, rf_41_0, rf_41_1, rf_41_2, rf_41_3, rf_5000_1, rf_5000_2, rf_5000_3, rf_5000_4, rf_5000_5, rf_5000_15, rf_5000_16, rf_5000_18, rf_5000_19, rf_5000_20, rf_5000_21, rf_5000_22, rf_5000_23, rf_5000_24, rf_5000_25, rf_5000_26, rf_5000_27, rf_5000_36, rf_5000_37, rf_5000_40, rf_5000_41, rf_5000_42, rf_5000_43, rf_5000_44, rf_5000_45, rf_5000_47, rf_5000_52, rf_5000_54, rf_5000_55, rf_100_0, rf_100_1, rf_103_0, rf_103_1, rf_106_0, rf_106_1, rf_109_0, rf_109_1, al_2, al_4, al_5, al_7, al_8, al_10, al_11, al_12, al_14, al_15, al_17, al_18, al_19, al_20, al_22, al_23, al_24, al_25, al_27, al_28, al_29, al_30, al_32, al_33, al_34, al_35, al_37, al_38, al_40, al_42, al_5001, al_5002, al_5003, al_5004, al_5005, al_5006, al_5007, al_5008, al_5009, al_5010, al_5011, al_5012, al_5013, al_5014, al_5015, al_5016, al_5017, al_5018, al_5019, al_5020, al_5021, al_5022, al_5023, al_5024, al_5025, al_5026, al_9000, al_101, al_102, al_104, al_105, al_107, al_108, al_110, al_111, vcs_e, lg_c0, lg_cs, lg_nil, set_c0, set_cs, okst_0, okst_s, acok_n, acok_c, List.contains_nil, List.contains_cons, Bool.or_false, Bool.false_or, Bool.false_eq_true, if_false, if_true, ite_self, ne_eq, true_and, and_true, not_false_eq_true, not_true_eq_false, false_imp_iff, true_imp_iff, Nat.ble_eq, Bool.and_eq_true, reduceCtorEq, or_false, false_or, or_true, true_or, false_and, and_false, and_self, Int.reduceLE, Int.reduceAdd, Int.reduceSub, Int.reduceMul, Int.reduceNeg, Int.reduceLT, Int.reduceEq, Int.reduceNe, Nat.reduceBEq, Nat.reduceBNe, Nat.reduceEqDiff, amCmp_in, amCmp_lt, amCmp_le, amCmp_gt, amCmp_ge, amCmp_eq, amCmp_ne, Nat.reduceLeDiff, Nat.reduceSub, Bool.and_true, Bool.true_and, Bool.and_self, Bool.or_true, Bool.true_or, isRf_3, isRf_4, isRf_5, isRf_8, isRf_9, isRf_10, isRf_11, isRf_15, isRf_16, isRf_17, isRf_18, isRf_19, isRf_20, isRf_21, isRf_22, isRf_23, isRf_24, isRf_25, isRf_26, isRf_27, isRf_28, k_X11_end_0, k_X11_end_1, k_X11_end_4, k_X11_end_5, k_X11_end_6, k_X11_end_9, k_X11_end_12, k_X11_end_15, k_X11_end_16, k_X11_end_17, k_X11_end_18, k_X11_end_21, k_X11_end_22, k_X11_end_25, k_X11_end_26, up_s, up_nj, up_na, up_up, savR_o, cpy_o, fillm_o, setAud_o, setv_o, setv_s, Int.reduceNe, Int.reduceEq, Int.reduceLT, Int.reduceAdd, not_false_eq_true, ne_eq, or_true, true_or]
  repeat' (first | assumption | apply And.intro | intro _)
  all_goals first | omega | exact absurd trivial (by assumption) | exact h1 (by omega) | exact h2 (by omega) (by omega)
theorem wd_315 : Cond.fieldLink RX11 23 "ArmchairHouse" "plan" "LArmchairHouse$Plan;" ∈ TBL := tb_tab (List.mem_of_getElem? (i := 315) (by decide +kernel)) rfl
theorem fl_X11_23 : amFl RX11 11 2 23 RX11 TX11 17 := ⟨rfl, inT_11, by decide, wd_315⟩
theorem wd_716 : Cond.methodLink RX11 164 yX6_isTold ∈ TBL := tb_tab (List.mem_of_getElem? (i := 716) (by decide +kernel)) rfl
theorem wd_719 : Cond.code yX6_isTold cX6_isTold 1 (some .boolean) ∈ TBL := tb_tab (List.mem_of_getElem? (i := 719) (by decide +kernel)) rfl
theorem lk_X11_164 : amLk RX11 164 yX6_isTold cX6_isTold 1 (some .boolean) 0 := ⟨wd_716, wd_3, wd_719, by decide +kernel, by decide +kernel, by decide⟩
theorem wd_717 : Cond.instanceMethod yX6_isTold ∈ TBL := tb_tab (List.mem_of_getElem? (i := 717) (by decide +kernel)) rfl
theorem wd_718 : Cond.selects RX6 yX6_isTold yX6_isTold ∈ TBL := tb_tab (List.mem_of_getElem? (i := 718) (by decide +kernel)) rfl
theorem wd_720 : Cond.methodLink RX11 168 yX6_leads ∈ TBL := tb_tab (List.mem_of_getElem? (i := 720) (by decide +kernel)) rfl
theorem lk_X11_168 : amLk RX11 168 yX6_leads cX6_leads 1 (some .int) 0 := ⟨wd_720, wd_3, wd_723, by decide +kernel, by decide +kernel, by decide⟩
theorem wd_323 : Cond.fieldLink RX11 65 "ArmchairHouse" "now" "LArmchairHouse$Audience;" ∈ TBL := tb_tab (List.mem_of_getElem? (i := 323) (by decide +kernel)) rfl
theorem fl_X11_65 : amFl RX11 11 10 65 RX11 TX11 17 := ⟨rfl, inT_11, by decide, wd_323⟩
theorem wd_159 : Cond.fieldLink RX11 171 "ArmchairHouse$Audience" "priceNow" "I" ∈ TBL := tb_tab (List.mem_of_getElem? (i := 159) (by decide +kernel)) rfl
theorem fl_X11_171 : amFl RX11 0 5 171 RX0 TX0 7 := ⟨rfl, inT_0, by decide, wd_159⟩
def a_X11_rule : AC := [(0, vAload 0 1), (1, vGetR TT 27 2 22 4), (4, vCallM w_X6_isTold 22 0 7), (7, vIfNe 12 10), (10, vI (-1) 11), (11, vIret), (12, vIload 1 13), (13, vIfNe 24 16), (16, vAload 0 17), (17, vGetR TT 27 2 22 20), (20, vCallM w_X6_leads 22 0 23), (23, vIret), (24, vIload 1 25), (25, vI 1 26), (26, vIcNe 39 29), (29, vAload 0 30), (30, vGetR TT 27 10 16 33), (33, vGetI 16 5 36), (36, vGoto 40), (39, vI (-1) 40), (40, vIret)]
theorem k_X11_rule_0 : look a_X11_rule 0 = vAload 0 1 := rfl
theorem k_X11_rule_1 : look a_X11_rule 1 = vGetR TT 27 2 22 4 := rfl
theorem k_X11_rule_4 : look a_X11_rule 4 = vCallM w_X6_isTold 22 0 7 := rfl
theorem k_X11_rule_7 : look a_X11_rule 7 = vIfNe 12 10 := rfl
theorem k_X11_rule_10 : look a_X11_rule 10 = vI (-1) 11 := rfl
theorem k_X11_rule_11 : look a_X11_rule 11 = vIret := rfl
theorem k_X11_rule_12 : look a_X11_rule 12 = vIload 1 13 := rfl
theorem k_X11_rule_13 : look a_X11_rule 13 = vIfNe 24 16 := rfl
theorem k_X11_rule_16 : look a_X11_rule 16 = vAload 0 17 := rfl
theorem k_X11_rule_17 : look a_X11_rule 17 = vGetR TT 27 2 22 20 := rfl
theorem k_X11_rule_20 : look a_X11_rule 20 = vCallM w_X6_leads 22 0 23 := rfl
theorem k_X11_rule_23 : look a_X11_rule 23 = vIret := rfl
theorem k_X11_rule_24 : look a_X11_rule 24 = vIload 1 25 := rfl
theorem k_X11_rule_25 : look a_X11_rule 25 = vI 1 26 := rfl
theorem k_X11_rule_26 : look a_X11_rule 26 = vIcNe 39 29 := rfl
theorem k_X11_rule_29 : look a_X11_rule 29 = vAload 0 30 := rfl
theorem k_X11_rule_30 : look a_X11_rule 30 = vGetR TT 27 10 16 33 := rfl
theorem k_X11_rule_33 : look a_X11_rule 33 = vGetI 16 5 36 := rfl
theorem k_X11_rule_36 : look a_X11_rule 36 = vGoto 40 := rfl
theorem k_X11_rule_39 : look a_X11_rule 39 = vI (-1) 40 := rfl
theorem k_X11_rule_40 : look a_X11_rule 40 = vIret := rfl
theorem o_X11_rule {X : amX} (e1 : XT X = TT) (e2 : XD X = 3) (hB : amB X RX11 cX11_rule (some .int) 2) : ∀ pc, amOK X pc (look a_X11_rule pc) := by
  have hT : amTok (XT X) := e1 ▸ TT_ok
  refine look_ok ?_
  unfold a_X11_rule
  refine fc (ok_aload_n hB dX11_rule_0) ?_
  refine fc (okt_getR e1 hB hT fl_X11_23 rfl af_11_2 at_11_2 (by decide) dX11_rule_1) ?_
  refine fc (ok_callM hB hT (e1 ▸ s_X6_isTold) lk_X11_164 (by rw [e2]; decide) (c := 6) rfl rfl rfl wd_717 wd_718 dX11_rule_4) ?_
  refine fc (ok_if_ne hB (t := 12) (by decide) dX11_rule_7) ?_
  refine fc (ok_iconst hB dX11_rule_10) ?_
  refine fc (ok_iret hB dX11_rule_11) ?_
  refine fc (ok_iload_n hB dX11_rule_12) ?_
  refine fc (ok_if_ne hB (t := 24) (by decide) dX11_rule_13) ?_
  refine fc (ok_aload_n hB dX11_rule_16) ?_
  refine fc (okt_getR e1 hB hT fl_X11_23 rfl af_11_2 at_11_2 (by decide) dX11_rule_17) ?_
  refine fc (ok_callM hB hT (e1 ▸ s_X6_leads) lk_X11_168 (by rw [e2]; decide) (c := 6) rfl rfl rfl wd_721 wd_722 dX11_rule_20) ?_
  refine fc (ok_iret hB dX11_rule_23) ?_
  refine fc (ok_iload_n hB dX11_rule_24) ?_
  refine fc (ok_iconst hB dX11_rule_25) ?_
  refine fc (ok_icmp_ne hB (t := 39) (by decide) dX11_rule_26) ?_
  refine fc (ok_aload_n hB dX11_rule_29) ?_
  refine fc (okt_getR e1 hB hT fl_X11_65 rfl af_11_10 at_11_10 (by decide) dX11_rule_30) ?_
  refine fc (ok_getI hB hT fl_X11_171 rfl rfl (Or.inl af_0_5) dX11_rule_33) ?_
  refine fc (ok_goto hB (t := 40) (by decide) dX11_rule_36) ?_
  refine fc (ok_iconst hB dX11_rule_39) ?_
  refine fc (ok_iret hB dX11_rule_40) ?_
  exact fn

def w_X11_rule : WP := fun av σ Q => ∃ (w : Int), av = [(27, 0), (0, w)] ∧ (InR w ∧ planB σ 6 ∧ (pcnt σ 6 2 ≤ 0 ∨ (w ≠ 0 ∧ w ≠ 1) → Q (0, -1) σ) ∧ (0 < pcnt σ 6 2 → w = 0 → Q (0, pval σ 6 0 0 0) σ) ∧ (0 < pcnt σ 6 2 → w = 1 → Q (0, σ 16 5) σ))
theorem w_X11_rule_e (w : Int) (σ : Mem) (Q : AV → Mem → Prop) : w_X11_rule [(27, 0), (0, w)] σ Q = (InR w ∧ planB σ 6 ∧ (pcnt σ 6 2 ≤ 0 ∨ (w ≠ 0 ∧ w ≠ 1) → Q (0, -1) σ) ∧ (0 < pcnt σ 6 2 → w = 0 → Q (0, pval σ 6 0 0 0) σ) ∧ (0 < pcnt σ 6 2 → w = 1 → Q (0, σ 16 5) σ)) := by
  apply propext; constructor
  · rintro ⟨w', h9, hb9⟩; cases h9; exact hb9
  · intro hb9; exact ⟨w, rfl, hb9⟩

set_option maxRecDepth 100000 in
set_option maxHeartbeats 4000000 in
theorem s_X11_rule : ∀ av σ Q, w_X11_rule av σ Q → amCall 3 0 0 TT yX11_rule cX11_rule 2 (some .int) av σ Q := by
  rintro av σ Q ⟨w, rfl, hw, hB, h1, h2, h3⟩
  have c2 := pcnt_b hB 2
  refine am_m0 (own := RX11) (A := look a_X11_rule) (fun X e1 e2 hB => o_X11_rule e1 e2 hB) rfl (by decide +kernel) rfl rfl 190 (w := 2) ?_
  change vcs _ _ _ _ 190 0 [(27, 0), (0, w)] [] σ
  simp only [↓reduceIte, inR_0, inR_1, inR_m, vSw2_e, swP_n, swP_c, vI_e, vL_e, vNull_e, vIload_e, vLload_e, vAload_e, vIstore_e, vLstore_e, vAstore_e, vIinc_e, vIadd_e, vIsub_e, vImul_e, vIand_e, vIor_e, vIxor_e, vIshl_e, vIshr_e, vIushr_e, vIdiv_e, vIrem_e, vLadd_e, vLsub_e, vLmul_e, vLand_e, vLor_e, vLxor_e, vLdiv_e, vLrem_e, vLushr_e, vLshl_e, vLcmp_e, vIneg_e, vI2l_e, vL2i_e, vI2b_e, vI2c_e, vDup_e, vPop_e, vDup2_e, vGoto_e, vIcEq_e, vIfEq_e, vIcNe_e, vIfNe_e, vIcLt_e, vIfLt_e, vIcGe_e, vIfGe_e, vIcGt_e, vIfGt_e, vIcLe_e, vIfLe_e, vNonnull_e, vSw_e, vGetI_e, vGetL_e, vGetR_e, vPutI_e, vPutZ_e, vPutL_e, vPutR_e, vIald_e, vIald_s, vLald_e, vBald_e, vBald_s, vAald_e, vIast_e, vLast_e, vBast_e, vAast_e, vAlen_e8, vAlen_e9, vAlen_e10, vAlen_e11, vAlen_e5, vAlen_e3, vGets_e, vCompact_e, vLdcS_e, vIret_e, vZret_e, vCret_e, vBret_e, vLret_e, vVret_e, vAret_e, vCallM_e0, vCallMV_e0, vCallS_e0, vCallSV_e0, vCallM_e1, vCallMV_e1, vCallS_e1, vCallSV_e1, vCallM_e2, vCallMV_e2, vCallS_e2, vCallSV_e2, vCallM_e3, vCallMV_e3, vCallS_e3, vCallSV_e3, vCallM_e4, vCallMV_e4, vCallS_e4, vCallSV_e4, vCallM_e5, vCallMV_e5, vCallS_e5, vCallSV_e5, vCallM_e6, vCallMV_e6, vCallS_e6, vCallSV_e6, vCallM_e7, vCallMV_e7, vCallS_e7, vCallSV_e7, vBad_e, vStrVal_e, vStrCod_e, vForm_e, vCallT_e0, vCallT_e1, vCallT_e2, vCopy_e, rf_0_0, rf_0_1, rf_0_2, rf_0_3, rf_0_4, rf_0_7, rf_0_10, rf_0_11, rf_0_12, rf_0_13, rf_0_14, rf_0_15, rf_0_16, rf_1_0, rf_3_0, rf_3_1, rf_6_0, rf_6_1, rf_9_0, rf_9_1, rf_9_3, rf_13_0, rf_13_1, rf_13_2, rf_16_0, rf_16_1, rf_16_2, rf_16_3, rf_21_0, rf_21_1, rf_21_2, rf_21_3, rf_26_0, rf_26_1, rf_26_2, rf_26_3, rf_26_4, rf_26_5, rf_26_6, rf_31_0, rf_31_2, rf_31_5, rf_31_6, rf_36_0, rf_36_1, rf_36_2, rf_36_3, rf_39_0, rf_39_1, rf_39_2, rf_41_0, rf_41_1, rf_41_2, rf_41_3, rf_5000_1, rf_5000_2, rf_5000_3, rf_5000_4, rf_5000_5, rf_5000_15, rf_5000_16, rf_5000_18, rf_5000_19, rf_5000_20, rf_5000_21, rf_5000_22, rf_5000_23, rf_5000_24, rf_5000_25, rf_5000_26, rf_5000_27, rf_5000_36, rf_5000_37, rf_5000_40, rf_5000_41, rf_5000_42, rf_5000_43, rf_5000_44, rf_5000_45, rf_5000_47, rf_5000_52, rf_5000_54, rf_5000_55, rf_100_0, rf_100_1, rf_103_0, rf_103_1, rf_106_0, rf_106_1, rf_109_0, rf_109_1, al_2, al_4, al_5, al_7, al_8, al_10, al_11, al_12, al_14, al_15, al_17, al_18, al_19, al_20, al_22, al_23, al_24, al_25, al_27, al_28, al_29, al_30, al_32, al_33, al_34, al_35, al_37, al_38, al_40, al_42, al_5001, al_5002, al_5003, al_5004, al_5005, al_5006, al_5007, al_5008, al_5009, al_5010, al_5011, al_5012, al_5013, al_5014, al_5015, al_5016, al_5017, al_5018, al_5019, al_5020, al_5021, al_5022, al_5023, al_5024, al_5025, al_5026, al_9000, al_101, al_102, al_104, al_105, al_107, al_108, al_110, al_111, vcs_e, lg_c0, lg_cs, lg_nil, set_c0, set_cs, okst_0, okst_s, acok_n, acok_c, List.contains_nil, List.contains_cons, Bool.or_false, Bool.false_or, Bool.false_eq_true, if_false, if_true, ite_self, ne_eq, true_and, and_true, not_false_eq_true, not_true_eq_false, false_imp_iff, true_imp_iff, Nat.ble_eq, Bool.and_eq_true, reduceCtorEq, or_false, false_or, or_true, true_or, false_and, and_false, and_self, Int.reduceLE, Int.reduceAdd, Int.reduceSub, Int.reduceMul, Int.reduceNeg, Int.reduceLT, Int.reduceEq, Int.reduceNe, Nat.reduceBEq, Nat.reduceBNe, Nat.reduceEqDiff, amCmp_in, amCmp_lt, amCmp_le, amCmp_gt, amCmp_ge, amCmp_eq, amCmp_ne, Nat.reduceLeDiff, Nat.reduceSub, Bool.and_true, Bool.true_and, Bool.and_self, Bool.or_true, Bool.true_or, isRf_3, isRf_4, isRf_5, isRf_8, isRf_9, isRf_10, isRf_11, isRf_15, isRf_16, isRf_17, isRf_18, isRf_19, isRf_20, isRf_21, isRf_22, isRf_23, isRf_24, isRf_25, isRf_26, isRf_27, isRf_28, k_X11_rule_0, k_X11_rule_1, k_X11_rule_4, k_X11_rule_7, k_X11_rule_10, k_X11_rule_11, k_X11_rule_12, k_X11_rule_13, k_X11_rule_16, k_X11_rule_17, k_X11_rule_20, k_X11_rule_23, k_X11_rule_24, k_X11_rule_25, k_X11_rule_26, k_X11_rule_29, k_X11_rule_30, k_X11_rule_33, k_X11_rule_36, k_X11_rule_39, k_X11_rule_40, w_X6_isTold_e, w_X6_leads_e, up_s, up_nj, up_na, up_up, savR_o, cpy_o, fillm_o, setAud_o, setv_o, setv_s, Int.reduceNe, Int.reduceEq, Int.reduceLT, Int.reduceAdd, not_false_eq_true, ne_eq, or_true, true_or]
  by_cases c : 0 < pcnt σ 6 2
  · rw [if_pos c]
    repeat' (first | assumption | apply And.intro | intro _)
    all_goals first | omega | exact absurd trivial (by assumption) | exact isP6 | exact h1 (by omega) | exact h2 c (by omega) | exact h3 c (by omega)
  · rw [if_neg c]
    repeat' (first | assumption | apply And.intro | intro _)
    all_goals first | omega | exact absurd trivial (by assumption) | exact isP6 | exact h1 (by omega)
theorem wd_728 : Cond.methodLink RX11 174 yX6_has ∈ TBL := tb_tab (List.mem_of_getElem? (i := 728) (by decide +kernel)) rfl
theorem wd_731 : Cond.code yX6_has cX6_has 3 (some .boolean) ∈ TBL := tb_tab (List.mem_of_getElem? (i := 731) (by decide +kernel)) rfl
theorem lk_X11_174 : amLk RX11 174 yX6_has cX6_has 3 (some .boolean) 2 := ⟨wd_728, wd_3, wd_731, by decide +kernel, by decide +kernel, by decide⟩
theorem wd_729 : Cond.instanceMethod yX6_has ∈ TBL := tb_tab (List.mem_of_getElem? (i := 729) (by decide +kernel)) rfl
theorem wd_730 : Cond.selects RX6 yX6_has yX6_has ∈ TBL := tb_tab (List.mem_of_getElem? (i := 730) (by decide +kernel)) rfl
theorem wd_732 : Cond.methodLink RX11 178 yX6_value ∈ TBL := tb_tab (List.mem_of_getElem? (i := 732) (by decide +kernel)) rfl
theorem lk_X11_178 : amLk RX11 178 yX6_value cX6_value 5 (some .int) 3 := ⟨wd_732, wd_3, wd_567, by decide +kernel, by decide +kernel, by decide⟩
def a_X11_drama : AC := [(0, vAload 0 1), (1, vGetR TT 27 2 22 4), (4, vI 1 5), (5, vIload 1 6), (6, vCallM w_X6_has 22 2 9), (9, vIfEq 21 12), (12, vIload 2 13), (13, vIfLt 21 16), (16, vIload 2 17), (17, vI 3 18), (18, vIcLe 23 21), (21, vI (-1) 22), (22, vIret), (23, vAload 0 24), (24, vGetR TT 27 2 22 27), (27, vI 1 28), (28, vIload 1 29), (29, vIload 2 30), (30, vCallM w_X6_value 22 3 33), (33, vIret)]
theorem k_X11_drama_0 : look a_X11_drama 0 = vAload 0 1 := rfl
theorem k_X11_drama_1 : look a_X11_drama 1 = vGetR TT 27 2 22 4 := rfl
theorem k_X11_drama_4 : look a_X11_drama 4 = vI 1 5 := rfl
theorem k_X11_drama_5 : look a_X11_drama 5 = vIload 1 6 := rfl
theorem k_X11_drama_6 : look a_X11_drama 6 = vCallM w_X6_has 22 2 9 := rfl
theorem k_X11_drama_9 : look a_X11_drama 9 = vIfEq 21 12 := rfl
theorem k_X11_drama_12 : look a_X11_drama 12 = vIload 2 13 := rfl
theorem k_X11_drama_13 : look a_X11_drama 13 = vIfLt 21 16 := rfl
theorem k_X11_drama_16 : look a_X11_drama 16 = vIload 2 17 := rfl
theorem k_X11_drama_17 : look a_X11_drama 17 = vI 3 18 := rfl
theorem k_X11_drama_18 : look a_X11_drama 18 = vIcLe 23 21 := rfl
theorem k_X11_drama_21 : look a_X11_drama 21 = vI (-1) 22 := rfl
theorem k_X11_drama_22 : look a_X11_drama 22 = vIret := rfl
theorem k_X11_drama_23 : look a_X11_drama 23 = vAload 0 24 := rfl
theorem k_X11_drama_24 : look a_X11_drama 24 = vGetR TT 27 2 22 27 := rfl
theorem k_X11_drama_27 : look a_X11_drama 27 = vI 1 28 := rfl
theorem k_X11_drama_28 : look a_X11_drama 28 = vIload 1 29 := rfl
theorem k_X11_drama_29 : look a_X11_drama 29 = vIload 2 30 := rfl
theorem k_X11_drama_30 : look a_X11_drama 30 = vCallM w_X6_value 22 3 33 := rfl
theorem k_X11_drama_33 : look a_X11_drama 33 = vIret := rfl
theorem o_X11_drama {X : amX} (e1 : XT X = TT) (e2 : XD X = 3) (hB : amB X RX11 cX11_drama (some .int) 3) : ∀ pc, amOK X pc (look a_X11_drama pc) := by
  have hT : amTok (XT X) := e1 ▸ TT_ok
  refine look_ok ?_
  unfold a_X11_drama
  refine fc (ok_aload_n hB dX11_drama_0) ?_
  refine fc (okt_getR e1 hB hT fl_X11_23 rfl af_11_2 at_11_2 (by decide) dX11_drama_1) ?_
  refine fc (ok_iconst hB dX11_drama_4) ?_
  refine fc (ok_iload_n hB dX11_drama_5) ?_
  refine fc (ok_callM hB hT (e1 ▸ s_X6_has) lk_X11_174 (by rw [e2]; decide) (c := 6) rfl rfl rfl wd_729 wd_730 dX11_drama_6) ?_
  refine fc (ok_if_eq hB (t := 21) (by decide) dX11_drama_9) ?_
  refine fc (ok_iload_n hB dX11_drama_12) ?_
  refine fc (ok_if_lt hB (t := 21) (by decide) dX11_drama_13) ?_
  refine fc (ok_iload_n hB dX11_drama_16) ?_
  refine fc (ok_iconst hB dX11_drama_17) ?_
  refine fc (ok_icmp_le hB (t := 23) (by decide) dX11_drama_18) ?_
  refine fc (ok_iconst hB dX11_drama_21) ?_
  refine fc (ok_iret hB dX11_drama_22) ?_
  refine fc (ok_aload_n hB dX11_drama_23) ?_
  refine fc (okt_getR e1 hB hT fl_X11_23 rfl af_11_2 at_11_2 (by decide) dX11_drama_24) ?_
  refine fc (ok_iconst hB dX11_drama_27) ?_
  refine fc (ok_iload_n hB dX11_drama_28) ?_
  refine fc (ok_iload_n hB dX11_drama_29) ?_
  refine fc (ok_callM hB hT (e1 ▸ s_X6_value) lk_X11_178 (by rw [e2]; decide) (c := 6) rfl rfl rfl wd_565 wd_566 dX11_drama_30) ?_
  refine fc (ok_iret hB dX11_drama_33) ?_
  exact fn

def w_X11_drama : WP := fun av σ Q => ∃ (p : Int) (w : Int), av = [(27, 0), (0, p), (0, w)] ∧ (InR p ∧ InR w ∧ planB σ 6 ∧ (¬ (0 ≤ p ∧ p < pcnt σ 6 1 ∧ 0 ≤ w ∧ w ≤ 3) → Q (0, -1) σ) ∧ (0 ≤ p ∧ p < pcnt σ 6 1 ∧ 0 ≤ w ∧ w ≤ 3 → Q (0, pval σ 6 1 p w) σ))
theorem w_X11_drama_e (p : Int) (w : Int) (σ : Mem) (Q : AV → Mem → Prop) : w_X11_drama [(27, 0), (0, p), (0, w)] σ Q = (InR p ∧ InR w ∧ planB σ 6 ∧ (¬ (0 ≤ p ∧ p < pcnt σ 6 1 ∧ 0 ≤ w ∧ w ≤ 3) → Q (0, -1) σ) ∧ (0 ≤ p ∧ p < pcnt σ 6 1 ∧ 0 ≤ w ∧ w ≤ 3 → Q (0, pval σ 6 1 p w) σ)) := by
  apply propext; constructor
  · rintro ⟨p', w', h9, hb9⟩; cases h9; exact hb9
  · intro hb9; exact ⟨p, w, rfl, hb9⟩

set_option maxRecDepth 100000 in
set_option maxHeartbeats 4000000 in
theorem s_X11_drama : ∀ av σ Q, w_X11_drama av σ Q → amCall 3 0 0 TT yX11_drama cX11_drama 3 (some .int) av σ Q := by
  rintro av σ Q ⟨p, w, rfl, hp, hw, hB, h1, h2⟩
  have c2 := pcnt_b hB 1
  refine am_m0 (own := RX11) (A := look a_X11_drama) (fun X e1 e2 hB => o_X11_drama e1 e2 hB) rfl (by decide +kernel) rfl rfl 190 (w := 3) ?_
  change vcs _ _ _ _ 190 0 [(27, 0), (0, p), (0, w)] [] σ
  simp only [↓reduceIte, inR_0, inR_1, inR_m, vSw2_e, swP_n, swP_c, vI_e, vL_e, vNull_e, vIload_e, vLload_e, vAload_e, vIstore_e, vLstore_e, vAstore_e, vIinc_e, vIadd_e, vIsub_e, vImul_e, vIand_e, vIor_e, vIxor_e, vIshl_e, vIshr_e, vIushr_e, vIdiv_e, vIrem_e, vLadd_e, vLsub_e, vLmul_e, vLand_e, vLor_e, vLxor_e, vLdiv_e, vLrem_e, vLushr_e, vLshl_e, vLcmp_e, vIneg_e, vI2l_e, vL2i_e, vI2b_e, vI2c_e, vDup_e, vPop_e, vDup2_e, vGoto_e, vIcEq_e, vIfEq_e, vIcNe_e, vIfNe_e, vIcLt_e, vIfLt_e, vIcGe_e, vIfGe_e, vIcGt_e, vIfGt_e, vIcLe_e, vIfLe_e, vNonnull_e, vSw_e, vGetI_e, vGetL_e, vGetR_e, vPutI_e, vPutZ_e, vPutL_e, vPutR_e, vIald_e, vIald_s, vLald_e, vBald_e, vBald_s, vAald_e, vIast_e, vLast_e, vBast_e, vAast_e, vAlen_e8, vAlen_e9, vAlen_e10, vAlen_e11, vAlen_e5, vAlen_e3, vGets_e, vCompact_e, vLdcS_e, vIret_e, vZret_e, vCret_e, vBret_e, vLret_e, vVret_e, vAret_e, vCallM_e0, vCallMV_e0, vCallS_e0, vCallSV_e0, vCallM_e1, vCallMV_e1, vCallS_e1, vCallSV_e1, vCallM_e2, vCallMV_e2, vCallS_e2, vCallSV_e2, vCallM_e3, vCallMV_e3, vCallS_e3, vCallSV_e3, vCallM_e4, vCallMV_e4, vCallS_e4, vCallSV_e4, vCallM_e5, vCallMV_e5, vCallS_e5, vCallSV_e5, vCallM_e6, vCallMV_e6, vCallS_e6, vCallSV_e6, vCallM_e7, vCallMV_e7, vCallS_e7, vCallSV_e7, vBad_e, vStrVal_e, vStrCod_e, vForm_e, vCallT_e0, vCallT_e1, vCallT_e2, vCopy_e, rf_0_0, rf_0_1, rf_0_2, rf_0_3, rf_0_4, rf_0_7, rf_0_10, rf_0_11, rf_0_12, rf_0_13, rf_0_14, rf_0_15, rf_0_16, rf_1_0, rf_3_0, rf_3_1, rf_6_0, rf_6_1, rf_9_0, rf_9_1, rf_9_3, rf_13_0, rf_13_1, rf_13_2, rf_16_0, rf_16_1, rf_16_2, rf_16_3, rf_21_0, rf_21_1, rf_21_2, rf_21_3, rf_26_0, rf_26_1, rf_26_2, rf_26_3, rf_26_4, rf_26_5, rf_26_6, rf_31_0, rf_31_2, rf_31_5, rf_31_6, rf_36_0, rf_36_1, rf_36_2, rf_36_3, rf_39_0, rf_39_1, rf_39_2, rf_41_0, rf_41_1, rf_41_2, rf_41_3, rf_5000_1, rf_5000_2, rf_5000_3, rf_5000_4, rf_5000_5, rf_5000_15, rf_5000_16, rf_5000_18, rf_5000_19, rf_5000_20, rf_5000_21, rf_5000_22, rf_5000_23, rf_5000_24, rf_5000_25, rf_5000_26, rf_5000_27, rf_5000_36, rf_5000_37, rf_5000_40, rf_5000_41, rf_5000_42, rf_5000_43, rf_5000_44, rf_5000_45, rf_5000_47, rf_5000_52, rf_5000_54, rf_5000_55, rf_100_0, rf_100_1, rf_103_0, rf_103_1, rf_106_0, rf_106_1, rf_109_0, rf_109_1, al_2, al_4, al_5, al_7, al_8, al_10, al_11, al_12, al_14, al_15, al_17, al_18, al_19, al_20, al_22, al_23, al_24, al_25, al_27, al_28, al_29, al_30, al_32, al_33, al_34, al_35, al_37, al_38, al_40, al_42, al_5001, al_5002, al_5003, al_5004, al_5005, al_5006, al_5007, al_5008, al_5009, al_5010, al_5011, al_5012, al_5013, al_5014, al_5015, al_5016, al_5017, al_5018, al_5019, al_5020, al_5021, al_5022, al_5023, al_5024, al_5025, al_5026, al_9000, al_101, al_102, al_104, al_105, al_107, al_108, al_110, al_111, vcs_e, lg_c0, lg_cs, lg_nil, set_c0, set_cs, okst_0, okst_s, acok_n, acok_c, List.contains_nil, List.contains_cons, Bool.or_false, Bool.false_or, Bool.false_eq_true, if_false, if_true, ite_self, ne_eq, true_and, and_true, not_false_eq_true, not_true_eq_false, false_imp_iff, true_imp_iff, Nat.ble_eq, Bool.and_eq_true, reduceCtorEq, or_false, false_or, or_true, true_or, false_and, and_false, and_self, Int.reduceLE, Int.reduceAdd, Int.reduceSub, Int.reduceMul, Int.reduceNeg, Int.reduceLT, Int.reduceEq, Int.reduceNe, Nat.reduceBEq, Nat.reduceBNe, Nat.reduceEqDiff, amCmp_in, amCmp_lt, amCmp_le, amCmp_gt, amCmp_ge, amCmp_eq, amCmp_ne, Nat.reduceLeDiff, Nat.reduceSub, Bool.and_true, Bool.true_and, Bool.and_self, Bool.or_true, Bool.true_or, isRf_3, isRf_4, isRf_5, isRf_8, isRf_9, isRf_10, isRf_11, isRf_15, isRf_16, isRf_17, isRf_18, isRf_19, isRf_20, isRf_21, isRf_22, isRf_23, isRf_24, isRf_25, isRf_26, isRf_27, isRf_28, k_X11_drama_0, k_X11_drama_1, k_X11_drama_4, k_X11_drama_5, k_X11_drama_6, k_X11_drama_9, k_X11_drama_12, k_X11_drama_13, k_X11_drama_16, k_X11_drama_17, k_X11_drama_18, k_X11_drama_21, k_X11_drama_22, k_X11_drama_23, k_X11_drama_24, k_X11_drama_27, k_X11_drama_28, k_X11_drama_29, k_X11_drama_30, k_X11_drama_33, w_X6_has_e, w_X6_value_e, up_s, up_nj, up_na, up_up, savR_o, cpy_o, fillm_o, setAud_o, setv_o, setv_s, Int.reduceNe, Int.reduceEq, Int.reduceLT, Int.reduceAdd, not_false_eq_true, ne_eq, or_true, true_or]
  by_cases c : 0 ≤ p ∧ p < pcnt σ 6 1
  · rw [if_pos c]
    repeat' (first | assumption | apply And.intro | intro _)
    all_goals first | omega | exact absurd trivial (by assumption) | exact isP6 | exact h1 (by omega) | exact h2 (by omega)
  · rw [if_neg c]
    repeat' (first | assumption | apply And.intro | intro _)
    all_goals first | omega | exact absurd trivial (by assumption) | exact isP6 | exact h1 (by omega)
theorem wd_737 : Cond.methodLink RX11 202 yX6_dullness ∈ TBL := tb_tab (List.mem_of_getElem? (i := 737) (by decide +kernel)) rfl
theorem wd_740 : Cond.code yX6_dullness cX6_dullness 2 (some .int) ∈ TBL := tb_tab (List.mem_of_getElem? (i := 740) (by decide +kernel)) rfl
theorem lk_X11_202 : amLk RX11 202 yX6_dullness cX6_dullness 2 (some .int) 1 := ⟨wd_737, wd_3, wd_740, by decide +kernel, by decide +kernel, by decide⟩
theorem wd_738 : Cond.instanceMethod yX6_dullness ∈ TBL := tb_tab (List.mem_of_getElem? (i := 738) (by decide +kernel)) rfl
theorem wd_739 : Cond.selects RX6 yX6_dullness yX6_dullness ∈ TBL := tb_tab (List.mem_of_getElem? (i := 739) (by decide +kernel)) rfl
theorem wd_741 : Cond.methodLink RX11 205 yX0_isIll ∈ TBL := tb_tab (List.mem_of_getElem? (i := 741) (by decide +kernel)) rfl
theorem lk_X11_205 : amLk RX11 205 yX0_isIll cX0_isIll 2 (some .boolean) 1 := ⟨wd_741, wd_6, wd_744, by decide +kernel, by decide +kernel, by decide⟩
def a_X11_sitter : AC := [(0, vAload 0 1), (1, vGetR TT 27 2 22 4), (4, vI 3 5), (5, vIload 1 6), (6, vCallM w_X6_has 22 2 9), (9, vIfEq 21 12), (12, vIload 2 13), (13, vIfLt 21 16), (16, vIload 2 17), (17, vI 1 18), (18, vIcLe 23 21), (21, vI (-1) 22), (22, vIret), (23, vIload 2 24), (24, vIfNe 36 27), (27, vAload 0 28), (28, vGetR TT 27 2 22 31), (31, vIload 1 32), (32, vCallM w_X6_dullness 22 1 35), (35, vIret), (36, vAload 0 37), (37, vGetR TT 27 10 16 40), (40, vIload 1 41), (41, vCallM w_X0_isIll 16 1 44), (44, vIfEq 51 47), (47, vI 1 48), (48, vGoto 52), (51, vI 0 52), (52, vIret)]
theorem k_X11_sitter_0 : look a_X11_sitter 0 = vAload 0 1 := rfl
theorem k_X11_sitter_1 : look a_X11_sitter 1 = vGetR TT 27 2 22 4 := rfl
theorem k_X11_sitter_4 : look a_X11_sitter 4 = vI 3 5 := rfl
theorem k_X11_sitter_5 : look a_X11_sitter 5 = vIload 1 6 := rfl
theorem k_X11_sitter_6 : look a_X11_sitter 6 = vCallM w_X6_has 22 2 9 := rfl
theorem k_X11_sitter_9 : look a_X11_sitter 9 = vIfEq 21 12 := rfl
theorem k_X11_sitter_12 : look a_X11_sitter 12 = vIload 2 13 := rfl
theorem k_X11_sitter_13 : look a_X11_sitter 13 = vIfLt 21 16 := rfl
theorem k_X11_sitter_16 : look a_X11_sitter 16 = vIload 2 17 := rfl
theorem k_X11_sitter_17 : look a_X11_sitter 17 = vI 1 18 := rfl
theorem k_X11_sitter_18 : look a_X11_sitter 18 = vIcLe 23 21 := rfl
theorem k_X11_sitter_21 : look a_X11_sitter 21 = vI (-1) 22 := rfl
theorem k_X11_sitter_22 : look a_X11_sitter 22 = vIret := rfl
theorem k_X11_sitter_23 : look a_X11_sitter 23 = vIload 2 24 := rfl
theorem k_X11_sitter_24 : look a_X11_sitter 24 = vIfNe 36 27 := rfl
theorem k_X11_sitter_27 : look a_X11_sitter 27 = vAload 0 28 := rfl
theorem k_X11_sitter_28 : look a_X11_sitter 28 = vGetR TT 27 2 22 31 := rfl
theorem k_X11_sitter_31 : look a_X11_sitter 31 = vIload 1 32 := rfl
theorem k_X11_sitter_32 : look a_X11_sitter 32 = vCallM w_X6_dullness 22 1 35 := rfl
theorem k_X11_sitter_35 : look a_X11_sitter 35 = vIret := rfl
theorem k_X11_sitter_36 : look a_X11_sitter 36 = vAload 0 37 := rfl
theorem k_X11_sitter_37 : look a_X11_sitter 37 = vGetR TT 27 10 16 40 := rfl
theorem k_X11_sitter_40 : look a_X11_sitter 40 = vIload 1 41 := rfl
theorem k_X11_sitter_41 : look a_X11_sitter 41 = vCallM w_X0_isIll 16 1 44 := rfl
theorem k_X11_sitter_44 : look a_X11_sitter 44 = vIfEq 51 47 := rfl
theorem k_X11_sitter_47 : look a_X11_sitter 47 = vI 1 48 := rfl
theorem k_X11_sitter_48 : look a_X11_sitter 48 = vGoto 52 := rfl
theorem k_X11_sitter_51 : look a_X11_sitter 51 = vI 0 52 := rfl
theorem k_X11_sitter_52 : look a_X11_sitter 52 = vIret := rfl
theorem o_X11_sitter {X : amX} (e1 : XT X = TT) (e2 : XD X = 3) (hB : amB X RX11 cX11_sitter (some .int) 3) : ∀ pc, amOK X pc (look a_X11_sitter pc) := by
  have hT : amTok (XT X) := e1 ▸ TT_ok
  refine look_ok ?_
  unfold a_X11_sitter
  refine fc (ok_aload_n hB dX11_sitter_0) ?_
  refine fc (okt_getR e1 hB hT fl_X11_23 rfl af_11_2 at_11_2 (by decide) dX11_sitter_1) ?_
  refine fc (ok_iconst hB dX11_sitter_4) ?_
  refine fc (ok_iload_n hB dX11_sitter_5) ?_
  refine fc (ok_callM hB hT (e1 ▸ s_X6_has) lk_X11_174 (by rw [e2]; decide) (c := 6) rfl rfl rfl wd_729 wd_730 dX11_sitter_6) ?_
  refine fc (ok_if_eq hB (t := 21) (by decide) dX11_sitter_9) ?_
  refine fc (ok_iload_n hB dX11_sitter_12) ?_
  refine fc (ok_if_lt hB (t := 21) (by decide) dX11_sitter_13) ?_
  refine fc (ok_iload_n hB dX11_sitter_16) ?_
  refine fc (ok_iconst hB dX11_sitter_17) ?_
  refine fc (ok_icmp_le hB (t := 23) (by decide) dX11_sitter_18) ?_
  refine fc (ok_iconst hB dX11_sitter_21) ?_
  refine fc (ok_iret hB dX11_sitter_22) ?_
  refine fc (ok_iload_n hB dX11_sitter_23) ?_
  refine fc (ok_if_ne hB (t := 36) (by decide) dX11_sitter_24) ?_
  refine fc (ok_aload_n hB dX11_sitter_27) ?_
  refine fc (okt_getR e1 hB hT fl_X11_23 rfl af_11_2 at_11_2 (by decide) dX11_sitter_28) ?_
  refine fc (ok_iload_n hB dX11_sitter_31) ?_
  refine fc (ok_callM hB hT (e1 ▸ s_X6_dullness) lk_X11_202 (by rw [e2]; decide) (c := 6) rfl rfl rfl wd_738 wd_739 dX11_sitter_32) ?_
  refine fc (ok_iret hB dX11_sitter_35) ?_
  refine fc (ok_aload_n hB dX11_sitter_36) ?_
  refine fc (okt_getR e1 hB hT fl_X11_65 rfl af_11_10 at_11_10 (by decide) dX11_sitter_37) ?_
  refine fc (ok_iload_n hB dX11_sitter_40) ?_
  refine fc (ok_callM hB hT (e1 ▸ s_X0_isIll) lk_X11_205 (by rw [e2]; decide) (c := 0) rfl rfl rfl wd_742 wd_743 dX11_sitter_41) ?_
  refine fc (ok_if_eq hB (t := 51) (by decide) dX11_sitter_44) ?_
  refine fc (ok_iconst hB dX11_sitter_47) ?_
  refine fc (ok_goto hB (t := 52) (by decide) dX11_sitter_48) ?_
  refine fc (ok_iconst hB dX11_sitter_51) ?_
  refine fc (ok_iret hB dX11_sitter_52) ?_
  exact fn

def w_X11_sitter : WP := fun av σ Q => ∃ (t : Int) (w : Int), av = [(27, 0), (0, t), (0, w)] ∧ (InR t ∧ InR w ∧ planB σ 6 ∧ InR (σ 16 4) ∧ (¬ (0 ≤ t ∧ t < pcnt σ 6 3 ∧ 0 ≤ w ∧ w ≤ 1) → Q (0, -1) σ) ∧ (0 ≤ t ∧ t < pcnt σ 6 3 → w = 0 → Q (0, pval σ 6 3 t 0) σ) ∧ (0 ≤ t ∧ t < pcnt σ 6 3 → w = 1 → Q (0, bt (σ 16 4) t) σ))
theorem w_X11_sitter_e (t : Int) (w : Int) (σ : Mem) (Q : AV → Mem → Prop) : w_X11_sitter [(27, 0), (0, t), (0, w)] σ Q = (InR t ∧ InR w ∧ planB σ 6 ∧ InR (σ 16 4) ∧ (¬ (0 ≤ t ∧ t < pcnt σ 6 3 ∧ 0 ≤ w ∧ w ≤ 1) → Q (0, -1) σ) ∧ (0 ≤ t ∧ t < pcnt σ 6 3 → w = 0 → Q (0, pval σ 6 3 t 0) σ) ∧ (0 ≤ t ∧ t < pcnt σ 6 3 → w = 1 → Q (0, bt (σ 16 4) t) σ)) := by
  apply propext; constructor
  · rintro ⟨t', w', h9, hb9⟩; cases h9; exact hb9
  · intro hb9; exact ⟨t, w, rfl, hb9⟩

set_option maxRecDepth 100000 in
set_option maxHeartbeats 4000000 in
theorem s_X11_sitter : ∀ av σ Q, w_X11_sitter av σ Q → amCall 3 0 0 TT yX11_sitter cX11_sitter 3 (some .int) av σ Q := by
  rintro av σ Q ⟨t, w, rfl, ht, hw, hB, hi, h1, h2, h3⟩
  have c3 := pcnt_b hB 3
  have b01 := bt_b (σ 16 4) t
  refine am_m0 (own := RX11) (A := look a_X11_sitter) (fun X e1 e2 hB => o_X11_sitter e1 e2 hB) rfl (by decide +kernel) rfl rfl 190 (w := 3) ?_
  change vcs _ _ _ _ 190 0 [(27, 0), (0, t), (0, w)] [] σ
  simp only [↓reduceIte, inR_0, inR_1, inR_m, vSw2_e, swP_n, swP_c, vI_e, vL_e, vNull_e, vIload_e, vLload_e, vAload_e, vIstore_e, vLstore_e, vAstore_e, vIinc_e, vIadd_e, vIsub_e, vImul_e, vIand_e, vIor_e, vIxor_e, vIshl_e, vIshr_e, vIushr_e, vIdiv_e, vIrem_e, vLadd_e, vLsub_e, vLmul_e, vLand_e, vLor_e, vLxor_e, vLdiv_e, vLrem_e, vLushr_e, vLshl_e, vLcmp_e, vIneg_e, vI2l_e, vL2i_e, vI2b_e, vI2c_e, vDup_e, vPop_e, vDup2_e, vGoto_e, vIcEq_e, vIfEq_e, vIcNe_e, vIfNe_e, vIcLt_e, vIfLt_e, vIcGe_e, vIfGe_e, vIcGt_e, vIfGt_e, vIcLe_e, vIfLe_e, vNonnull_e, vSw_e, vGetI_e, vGetL_e, vGetR_e, vPutI_e, vPutZ_e, vPutL_e, vPutR_e, vIald_e, vIald_s, vLald_e, vBald_e, vBald_s, vAald_e, vIast_e, vLast_e, vBast_e, vAast_e, vAlen_e8, vAlen_e9, vAlen_e10, vAlen_e11, vAlen_e5, vAlen_e3, vGets_e, vCompact_e, vLdcS_e, vIret_e, vZret_e, vCret_e, vBret_e, vLret_e, vVret_e, vAret_e, vCallM_e0, vCallMV_e0, vCallS_e0, vCallSV_e0, vCallM_e1, vCallMV_e1, vCallS_e1, vCallSV_e1, vCallM_e2, vCallMV_e2, vCallS_e2, vCallSV_e2, vCallM_e3, vCallMV_e3, vCallS_e3, vCallSV_e3, vCallM_e4, vCallMV_e4, vCallS_e4, vCallSV_e4, vCallM_e5, vCallMV_e5, vCallS_e5, vCallSV_e5, vCallM_e6, vCallMV_e6, vCallS_e6, vCallSV_e6, vCallM_e7, vCallMV_e7, vCallS_e7, vCallSV_e7, vBad_e, vStrVal_e, vStrCod_e, vForm_e, vCallT_e0, vCallT_e1, vCallT_e2, vCopy_e, rf_0_0, rf_0_1, rf_0_2, rf_0_3, rf_0_4, rf_0_7, rf_0_10, rf_0_11, rf_0_12, rf_0_13, rf_0_14, rf_0_15, rf_0_16, rf_1_0, rf_3_0, rf_3_1, rf_6_0, rf_6_1, rf_9_0, rf_9_1, rf_9_3, rf_13_0, rf_13_1, rf_13_2, rf_16_0, rf_16_1, rf_16_2, rf_16_3, rf_21_0, rf_21_1, rf_21_2, rf_21_3, rf_26_0, rf_26_1, rf_26_2, rf_26_3, rf_26_4, rf_26_5, rf_26_6, rf_31_0, rf_31_2, rf_31_5, rf_31_6, rf_36_0, rf_36_1, rf_36_2, rf_36_3, rf_39_0, rf_39_1, rf_39_2, rf_41_0, rf_41_1, rf_41_2, rf_41_3, rf_5000_1, rf_5000_2, rf_5000_3, rf_5000_4, rf_5000_5, rf_5000_15, rf_5000_16, rf_5000_18, rf_5000_19, rf_5000_20, rf_5000_21, rf_5000_22, rf_5000_23, rf_5000_24, rf_5000_25, rf_5000_26, rf_5000_27, rf_5000_36, rf_5000_37, rf_5000_40, rf_5000_41, rf_5000_42, rf_5000_43, rf_5000_44, rf_5000_45, rf_5000_47, rf_5000_52, rf_5000_54, rf_5000_55, rf_100_0, rf_100_1, rf_103_0, rf_103_1, rf_106_0, rf_106_1, rf_109_0, rf_109_1, al_2, al_4, al_5, al_7, al_8, al_10, al_11, al_12, al_14, al_15, al_17, al_18, al_19, al_20, al_22, al_23, al_24, al_25, al_27, al_28, al_29, al_30, al_32, al_33, al_34, al_35, al_37, al_38, al_40, al_42, al_5001, al_5002, al_5003, al_5004, al_5005, al_5006, al_5007, al_5008, al_5009, al_5010, al_5011, al_5012, al_5013, al_5014, al_5015, al_5016, al_5017, al_5018, al_5019, al_5020, al_5021, al_5022, al_5023, al_5024, al_5025, al_5026, al_9000, al_101, al_102, al_104, al_105, al_107, al_108, al_110, al_111, vcs_e, lg_c0, lg_cs, lg_nil, set_c0, set_cs, okst_0, okst_s, acok_n, acok_c, List.contains_nil, List.contains_cons, Bool.or_false, Bool.false_or, Bool.false_eq_true, if_false, if_true, ite_self, ne_eq, true_and, and_true, not_false_eq_true, not_true_eq_false, false_imp_iff, true_imp_iff, Nat.ble_eq, Bool.and_eq_true, reduceCtorEq, or_false, false_or, or_true, true_or, false_and, and_false, and_self, Int.reduceLE, Int.reduceAdd, Int.reduceSub, Int.reduceMul, Int.reduceNeg, Int.reduceLT, Int.reduceEq, Int.reduceNe, Nat.reduceBEq, Nat.reduceBNe, Nat.reduceEqDiff, amCmp_in, amCmp_lt, amCmp_le, amCmp_gt, amCmp_ge, amCmp_eq, amCmp_ne, Nat.reduceLeDiff, Nat.reduceSub, Bool.and_true, Bool.true_and, Bool.and_self, Bool.or_true, Bool.true_or, isRf_3, isRf_4, isRf_5, isRf_8, isRf_9, isRf_10, isRf_11, isRf_15, isRf_16, isRf_17, isRf_18, isRf_19, isRf_20, isRf_21, isRf_22, isRf_23, isRf_24, isRf_25, isRf_26, isRf_27, isRf_28, k_X11_sitter_0, k_X11_sitter_1, k_X11_sitter_4, k_X11_sitter_5, k_X11_sitter_6, k_X11_sitter_9, k_X11_sitter_12, k_X11_sitter_13, k_X11_sitter_16, k_X11_sitter_17, k_X11_sitter_18, k_X11_sitter_21, k_X11_sitter_22, k_X11_sitter_23, k_X11_sitter_24, k_X11_sitter_27, k_X11_sitter_28, k_X11_sitter_31, k_X11_sitter_32, k_X11_sitter_35, k_X11_sitter_36, k_X11_sitter_37, k_X11_sitter_40, k_X11_sitter_41, k_X11_sitter_44, k_X11_sitter_47, k_X11_sitter_48, k_X11_sitter_51, k_X11_sitter_52, w_X0_isIll_e, w_X6_dullness_e, w_X6_has_e, up_s, up_nj, up_na, up_up, savR_o, cpy_o, fillm_o, setAud_o, setv_o, setv_s, Int.reduceNe, Int.reduceEq, Int.reduceLT, Int.reduceAdd, not_false_eq_true, ne_eq, or_true, true_or]
  by_cases c : 0 ≤ t ∧ t < pcnt σ 6 3
  · rw [if_pos c]
    by_cases cb : bt (σ 16 4) t = 1
    · rw [cb] at h3
      rw [if_pos (show 0 ≤ t ∧ t < 6 ∧ bt (σ 16 4) t = 1 from ⟨c.1, by omega, cb⟩)]
      repeat' (first | assumption | apply And.intro | intro _)
      all_goals first | omega | exact absurd trivial (by assumption) | exact isP6 | exact isA16 | exact h1 (by omega) | exact h2 c (by omega) | exact h3 c (by omega)
    · rw [show bt (σ 16 4) t = 0 by omega] at h3
      rw [if_neg (fun q => cb q.2.2)]
      repeat' (first | assumption | apply And.intro | intro _)
      all_goals first | omega | exact absurd trivial (by assumption) | exact isP6 | exact isA16 | exact h1 (by omega) | exact h2 c (by omega) | exact h3 c (by omega)
  · rw [if_neg c]
    repeat' (first | assumption | apply And.intro | intro _)
    all_goals first | omega | exact absurd trivial (by assumption) | exact isP6 | exact h1 (by omega)
theorem wd_321 : Cond.fieldLink RX11 55 "ArmchairHouse" "fluNow" "I" ∈ TBL := tb_tab (List.mem_of_getElem? (i := 321) (by decide +kernel)) rfl
theorem fl_X11_55 : amFl RX11 11 8 55 RX11 TX11 17 := ⟨rfl, inT_11, by decide, wd_321⟩
theorem fp_X11_55 : amFp RX11 11 8 55 RX11 TX11 17 tyX11 .int := ⟨fl_X11_55, tyX11_ok, nmX11, by decide +kernel⟩
def a_X11_flu : AC := [(0, vIload 1 1), (1, vIfLt 18 4), (4, vIload 1 5), (5, vI 9 7), (7, vIcGt 18 10), (10, vIload 1 11), (11, vAload 0 12), (12, vGetI 27 8 15), (15, vIcNe 20 18), (18, vI 0 19), (19, vZret), (20, vAload 0 21), (21, vIload 1 22), (22, vPutI 27 8 25), (25, vI 1 26), (26, vZret)]
theorem k_X11_flu_0 : look a_X11_flu 0 = vIload 1 1 := rfl
theorem k_X11_flu_1 : look a_X11_flu 1 = vIfLt 18 4 := rfl
theorem k_X11_flu_4 : look a_X11_flu 4 = vIload 1 5 := rfl
theorem k_X11_flu_5 : look a_X11_flu 5 = vI 9 7 := rfl
theorem k_X11_flu_7 : look a_X11_flu 7 = vIcGt 18 10 := rfl
theorem k_X11_flu_10 : look a_X11_flu 10 = vIload 1 11 := rfl
theorem k_X11_flu_11 : look a_X11_flu 11 = vAload 0 12 := rfl
theorem k_X11_flu_12 : look a_X11_flu 12 = vGetI 27 8 15 := rfl
theorem k_X11_flu_15 : look a_X11_flu 15 = vIcNe 20 18 := rfl
theorem k_X11_flu_18 : look a_X11_flu 18 = vI 0 19 := rfl
theorem k_X11_flu_19 : look a_X11_flu 19 = vZret := rfl
theorem k_X11_flu_20 : look a_X11_flu 20 = vAload 0 21 := rfl
theorem k_X11_flu_21 : look a_X11_flu 21 = vIload 1 22 := rfl
theorem k_X11_flu_22 : look a_X11_flu 22 = vPutI 27 8 25 := rfl
theorem k_X11_flu_25 : look a_X11_flu 25 = vI 1 26 := rfl
theorem k_X11_flu_26 : look a_X11_flu 26 = vZret := rfl
theorem o_X11_flu {X : amX} (e1 : XT X = TT) (e2 : XD X = 0) (hB : amB X RX11 cX11_flu (some .boolean) 2) : ∀ pc, amOK X pc (look a_X11_flu pc) := by
  have hT : amTok (XT X) := e1 ▸ TT_ok
  refine look_ok ?_
  unfold a_X11_flu
  refine fc (ok_iload_n hB dX11_flu_0) ?_
  refine fc (ok_if_lt hB (t := 18) (by decide) dX11_flu_1) ?_
  refine fc (ok_iload_n hB dX11_flu_4) ?_
  refine fc (ok_bipush hB dX11_flu_5 (by decide)) ?_
  refine fc (ok_icmp_gt hB (t := 18) (by decide) dX11_flu_7) ?_
  refine fc (ok_iload_n hB dX11_flu_10) ?_
  refine fc (ok_aload_n hB dX11_flu_11) ?_
  refine fc (ok_getI hB hT fl_X11_55 rfl rfl (Or.inl af_11_8) dX11_flu_12) ?_
  refine fc (ok_icmp_ne hB (t := 20) (by decide) dX11_flu_15) ?_
  refine fc (ok_iconst hB dX11_flu_18) ?_
  refine fc (ok_zret hB dX11_flu_19) ?_
  refine fc (ok_aload_n hB dX11_flu_20) ?_
  refine fc (ok_iload_n hB dX11_flu_21) ?_
  refine fc (ok_putI hB hT fp_X11_55 rfl rfl rfl af_11_8 dX11_flu_22) ?_
  refine fc (ok_iconst hB dX11_flu_25) ?_
  refine fc (ok_zret hB dX11_flu_26) ?_
  exact fn

def w_X11_flu : WP := fun av σ Q => ∃ (v : Int), av = [(27, 0), (0, v)] ∧ (InR v ∧ InR (σ 0 8) ∧ (v < 0 ∨ 9 < v ∨ v = σ 0 8 → Q (0, 0) σ) ∧ (0 ≤ v → v ≤ 9 → v ≠ σ 0 8 → Q (0, 1) (up σ 0 8 v)))
theorem w_X11_flu_e (v : Int) (σ : Mem) (Q : AV → Mem → Prop) : w_X11_flu [(27, 0), (0, v)] σ Q = (InR v ∧ InR (σ 0 8) ∧ (v < 0 ∨ 9 < v ∨ v = σ 0 8 → Q (0, 0) σ) ∧ (0 ≤ v → v ≤ 9 → v ≠ σ 0 8 → Q (0, 1) (up σ 0 8 v))) := by
  apply propext; constructor
  · rintro ⟨v', h9, hb9⟩; cases h9; exact hb9
  · intro hb9; exact ⟨v, rfl, hb9⟩

set_option maxRecDepth 100000 in
set_option maxHeartbeats 4000000 in
theorem s_X11_flu : ∀ av σ Q, w_X11_flu av σ Q → amCall 0 0 0 TT yX11_flu cX11_flu 2 (some .boolean) av σ Q := by
  rintro av σ Q ⟨v, rfl, hv, hf, h1, h2⟩
  refine am_m0 (own := RX11) (A := look a_X11_flu) (fun X e1 e2 hB => o_X11_flu e1 e2 hB) rfl (by decide +kernel) rfl rfl 190 (w := 2) ?_
  change vcs _ _ _ _ 190 0 [(27, 0), (0, v)] [] σ
  simp only [↓reduceIte, inR_0, inR_1, inR_m, vSw2_e, swP_n, swP_c, vI_e, vL_e, vNull_e, vIload_e, vLload_e, vAload_e, vIstore_e, vLstore_e, vAstore_e, vIinc_e, vIadd_e, vIsub_e, vImul_e, vIand_e, vIor_e, vIxor_e, vIshl_e, vIshr_e, vIushr_e, vIdiv_e, vIrem_e, vLadd_e, vLsub_e, vLmul_e, vLand_e, vLor_e, vLxor_e, vLdiv_e, vLrem_e, vLushr_e, vLshl_e, vLcmp_e, vIneg_e, vI2l_e, vL2i_e, vI2b_e, vI2c_e, vDup_e, vPop_e, vDup2_e, vGoto_e, vIcEq_e, vIfEq_e, vIcNe_e, vIfNe_e, vIcLt_e, vIfLt_e, vIcGe_e, vIfGe_e, vIcGt_e, vIfGt_e, vIcLe_e, vIfLe_e, vNonnull_e, vSw_e, vGetI_e, vGetL_e, vGetR_e, vPutI_e, vPutZ_e, vPutL_e, vPutR_e, vIald_e, vIald_s, vLald_e, vBald_e, vBald_s, vAald_e, vIast_e, vLast_e, vBast_e, vAast_e, vAlen_e8, vAlen_e9, vAlen_e10, vAlen_e11, vAlen_e5, vAlen_e3, vGets_e, vCompact_e, vLdcS_e, vIret_e, vZret_e, vCret_e, vBret_e, vLret_e, vVret_e, vAret_e, vCallM_e0, vCallMV_e0, vCallS_e0, vCallSV_e0, vCallM_e1, vCallMV_e1, vCallS_e1, vCallSV_e1, vCallM_e2, vCallMV_e2, vCallS_e2, vCallSV_e2, vCallM_e3, vCallMV_e3, vCallS_e3, vCallSV_e3, vCallM_e4, vCallMV_e4, vCallS_e4, vCallSV_e4, vCallM_e5, vCallMV_e5, vCallS_e5, vCallSV_e5, vCallM_e6, vCallMV_e6, vCallS_e6, vCallSV_e6, vCallM_e7, vCallMV_e7, vCallS_e7, vCallSV_e7, vBad_e, vStrVal_e, vStrCod_e, vForm_e, vCallT_e0, vCallT_e1, vCallT_e2, vCopy_e, rf_0_0, rf_0_1, rf_0_2, rf_0_3, rf_0_4, rf_0_7, rf_0_10, rf_0_11, rf_0_12, rf_0_13, rf_0_14, rf_0_15, rf_0_16, rf_1_0, rf_3_0, rf_3_1, rf_6_0, rf_6_1, rf_9_0, rf_9_1, rf_9_3, rf_13_0, rf_13_1, rf_13_2, rf_16_0, rf_16_1, rf_16_2, rf_16_3, rf_21_0, rf_21_1, rf_21_2, rf_21_3, rf_26_0, rf_26_1, rf_26_2, rf_26_3, rf_26_4, rf_26_5, rf_26_6, rf_31_0, rf_31_2, rf_31_5, rf_31_6, rf_36_0, rf_36_1, rf_36_2, rf_36_3, rf_39_0, rf_39_1, rf_39_2, rf_41_0, rf_41_1, rf_41_2, rf_41_3, rf_5000_1, rf_5000_2, rf_5000_3, rf_5000_4, rf_5000_5, rf_5000_15, rf_5000_16, rf_5000_18, rf_5000_19, rf_5000_20, rf_5000_21, rf_5000_22, rf_5000_23, rf_5000_24, rf_5000_25, rf_5000_26, rf_5000_27, rf_5000_36, rf_5000_37, rf_5000_40, rf_5000_41, rf_5000_42, rf_5000_43, rf_5000_44, rf_5000_45, rf_5000_47, rf_5000_52, rf_5000_54, rf_5000_55, rf_100_0, rf_100_1, rf_103_0, rf_103_1, rf_106_0, rf_106_1, rf_109_0, rf_109_1, al_2, al_4, al_5, al_7, al_8, al_10, al_11, al_12, al_14, al_15, al_17, al_18, al_19, al_20, al_22, al_23, al_24, al_25, al_27, al_28, al_29, al_30, al_32, al_33, al_34, al_35, al_37, al_38, al_40, al_42, al_5001, al_5002, al_5003, al_5004, al_5005, al_5006, al_5007, al_5008, al_5009, al_5010, al_5011, al_5012, al_5013, al_5014, al_5015, al_5016, al_5017, al_5018, al_5019, al_5020, al_5021, al_5022, al_5023, al_5024, al_5025, al_5026, al_9000, al_101, al_102, al_104, al_105, al_107, al_108, al_110, al_111, vcs_e, lg_c0, lg_cs, lg_nil, set_c0, set_cs, okst_0, okst_s, acok_n, acok_c, List.contains_nil, List.contains_cons, Bool.or_false, Bool.false_or, Bool.false_eq_true, if_false, if_true, ite_self, ne_eq, true_and, and_true, not_false_eq_true, not_true_eq_false, false_imp_iff, true_imp_iff, Nat.ble_eq, Bool.and_eq_true, reduceCtorEq, or_false, false_or, or_true, true_or, false_and, and_false, and_self, Int.reduceLE, Int.reduceAdd, Int.reduceSub, Int.reduceMul, Int.reduceNeg, Int.reduceLT, Int.reduceEq, Int.reduceNe, Nat.reduceBEq, Nat.reduceBNe, Nat.reduceEqDiff, amCmp_in, amCmp_lt, amCmp_le, amCmp_gt, amCmp_ge, amCmp_eq, amCmp_ne, Nat.reduceLeDiff, Nat.reduceSub, Bool.and_true, Bool.true_and, Bool.and_self, Bool.or_true, Bool.true_or, isRf_3, isRf_4, isRf_5, isRf_8, isRf_9, isRf_10, isRf_11, isRf_15, isRf_16, isRf_17, isRf_18, isRf_19, isRf_20, isRf_21, isRf_22, isRf_23, isRf_24, isRf_25, isRf_26, isRf_27, isRf_28, k_X11_flu_0, k_X11_flu_1, k_X11_flu_4, k_X11_flu_5, k_X11_flu_7, k_X11_flu_10, k_X11_flu_11, k_X11_flu_12, k_X11_flu_15, k_X11_flu_18, k_X11_flu_19, k_X11_flu_20, k_X11_flu_21, k_X11_flu_22, k_X11_flu_25, k_X11_flu_26, up_s, up_nj, up_na, up_up, savR_o, cpy_o, fillm_o, setAud_o, setv_o, setv_s, Int.reduceNe, Int.reduceEq, Int.reduceLT, Int.reduceAdd, not_false_eq_true, ne_eq, or_true, true_or]
  repeat' (first | assumption | apply And.intro | intro _)
  all_goals first | omega | exact absurd trivial (by assumption) | exact h1 (by omega) | exact h2 (by omega) (by omega) (by omega)
theorem wd_318 : Cond.fieldLink RX11 41 "ArmchairHouse" "lawCount" "I" ∈ TBL := tb_tab (List.mem_of_getElem? (i := 318) (by decide +kernel)) rfl
theorem fl_X11_41 : amFl RX11 11 5 41 RX11 TX11 17 := ⟨rfl, inT_11, by decide, wd_318⟩
theorem wd_317 : Cond.fieldLink RX11 37 "ArmchairHouse" "laws" "[LArmchairHouse$Law;" ∈ TBL := tb_tab (List.mem_of_getElem? (i := 317) (by decide +kernel)) rfl
theorem fl_X11_37 : amFl RX11 11 4 37 RX11 TX11 17 := ⟨rfl, inT_11, by decide, wd_317⟩
theorem wd_319 : Cond.fieldLink RX11 45 "ArmchairHouse" "lawNow" "I" ∈ TBL := tb_tab (List.mem_of_getElem? (i := 319) (by decide +kernel)) rfl
theorem fl_X11_45 : amFl RX11 11 6 45 RX11 TX11 17 := ⟨rfl, inT_11, by decide, wd_319⟩
theorem fp_X11_45 : amFp RX11 11 6 45 RX11 TX11 17 tyX11 .int := ⟨fl_X11_45, tyX11_ok, nmX11, by decide +kernel⟩
theorem wd_325 : Cond.fieldLink RX11 77 "ArmchairHouse" "stage" "LArmchairHouse$Stage;" ∈ TBL := tb_tab (List.mem_of_getElem? (i := 325) (by decide +kernel)) rfl
theorem fl_X11_77 : amFl RX11 11 12 77 RX11 TX11 17 := ⟨rfl, inT_11, by decide, wd_325⟩
theorem wd_186 : Cond.fieldLink RX11 209 "ArmchairHouse$Stage" "law" "LArmchairHouse$Law;" ∈ TBL := tb_tab (List.mem_of_getElem? (i := 186) (by decide +kernel)) rfl
theorem fl_X11_209 : amFl RX11 9 1 209 RX9 TX9 9 := ⟨rfl, inT_9, by decide, wd_186⟩
theorem fp_X11_209 : amFp RX11 9 1 209 RX9 TX9 9 tyX9 (.object "ArmchairHouse$Law") := ⟨fl_X11_209, tyX9_ok, nmX9, by decide +kernel⟩
def a_X11_law : AC := [(0, vIload 1 1), (1, vI (-1) 2), (2, vIcLt 22 5), (5, vIload 1 6), (6, vAload 0 7), (7, vGetI 27 5 10), (10, vIcGe 22 13), (13, vIload 1 14), (14, vAload 0 15), (15, vGetR TT 27 4 11 18), (18, vAlen TT 19), (19, vIcLt 24 22), (22, vI 0 23), (23, vZret), (24, vAload 0 25), (25, vIload 1 26), (26, vPutI 27 6 29), (29, vAload 0 30), (30, vGetR TT 27 12 25 33), (33, vIload 1 34), (34, vIfGe 41 37), (37, vNull 38), (38, vGoto 47), (41, vAload 0 42), (42, vGetR TT 27 4 11 45), (45, vIload 1 46), (46, vAald TT 47), (47, vPutR TT 25 1 18 1 50), (50, vI 1 51), (51, vZret)]
theorem k_X11_law_0 : look a_X11_law 0 = vIload 1 1 := rfl
theorem k_X11_law_1 : look a_X11_law 1 = vI (-1) 2 := rfl
theorem k_X11_law_2 : look a_X11_law 2 = vIcLt 22 5 := rfl
theorem k_X11_law_5 : look a_X11_law 5 = vIload 1 6 := rfl
theorem k_X11_law_6 : look a_X11_law 6 = vAload 0 7 := rfl
theorem k_X11_law_7 : look a_X11_law 7 = vGetI 27 5 10 := rfl
theorem k_X11_law_10 : look a_X11_law 10 = vIcGe 22 13 := rfl
theorem k_X11_law_13 : look a_X11_law 13 = vIload 1 14 := rfl
theorem k_X11_law_14 : look a_X11_law 14 = vAload 0 15 := rfl
theorem k_X11_law_15 : look a_X11_law 15 = vGetR TT 27 4 11 18 := rfl
theorem k_X11_law_18 : look a_X11_law 18 = vAlen TT 19 := rfl
theorem k_X11_law_19 : look a_X11_law 19 = vIcLt 24 22 := rfl
theorem k_X11_law_22 : look a_X11_law 22 = vI 0 23 := rfl
theorem k_X11_law_23 : look a_X11_law 23 = vZret := rfl
theorem k_X11_law_24 : look a_X11_law 24 = vAload 0 25 := rfl
theorem k_X11_law_25 : look a_X11_law 25 = vIload 1 26 := rfl
theorem k_X11_law_26 : look a_X11_law 26 = vPutI 27 6 29 := rfl
theorem k_X11_law_29 : look a_X11_law 29 = vAload 0 30 := rfl
theorem k_X11_law_30 : look a_X11_law 30 = vGetR TT 27 12 25 33 := rfl
theorem k_X11_law_33 : look a_X11_law 33 = vIload 1 34 := rfl
theorem k_X11_law_34 : look a_X11_law 34 = vIfGe 41 37 := rfl
theorem k_X11_law_37 : look a_X11_law 37 = vNull 38 := rfl
theorem k_X11_law_38 : look a_X11_law 38 = vGoto 47 := rfl
theorem k_X11_law_41 : look a_X11_law 41 = vAload 0 42 := rfl
theorem k_X11_law_42 : look a_X11_law 42 = vGetR TT 27 4 11 45 := rfl
theorem k_X11_law_45 : look a_X11_law 45 = vIload 1 46 := rfl
theorem k_X11_law_46 : look a_X11_law 46 = vAald TT 47 := rfl
theorem k_X11_law_47 : look a_X11_law 47 = vPutR TT 25 1 18 1 50 := rfl
theorem k_X11_law_50 : look a_X11_law 50 = vI 1 51 := rfl
theorem k_X11_law_51 : look a_X11_law 51 = vZret := rfl
theorem o_X11_law {X : amX} (e1 : XT X = TT) (e2 : XD X = 0) (hB : amB X RX11 cX11_law (some .boolean) 2) : ∀ pc, amOK X pc (look a_X11_law pc) := by
  have hT : amTok (XT X) := e1 ▸ TT_ok
  refine look_ok ?_
  unfold a_X11_law
  refine fc (ok_iload_n hB dX11_law_0) ?_
  refine fc (ok_iconst hB dX11_law_1) ?_
  refine fc (ok_icmp_lt hB (t := 22) (by decide) dX11_law_2) ?_
  refine fc (ok_iload_n hB dX11_law_5) ?_
  refine fc (ok_aload_n hB dX11_law_6) ?_
  refine fc (ok_getI hB hT fl_X11_41 rfl rfl (Or.inl af_11_5) dX11_law_7) ?_
  refine fc (ok_icmp_ge hB (t := 22) (by decide) dX11_law_10) ?_
  refine fc (ok_iload_n hB dX11_law_13) ?_
  refine fc (ok_aload_n hB dX11_law_14) ?_
  refine fc (okt_getR e1 hB hT fl_X11_37 rfl af_11_4 at_11_4 (by decide) dX11_law_15) ?_
  refine fc (okt_arraylength e1 hB dX11_law_18) ?_
  refine fc (ok_icmp_lt hB (t := 24) (by decide) dX11_law_19) ?_
  refine fc (ok_iconst hB dX11_law_22) ?_
  refine fc (ok_zret hB dX11_law_23) ?_
  refine fc (ok_aload_n hB dX11_law_24) ?_
  refine fc (ok_iload_n hB dX11_law_25) ?_
  refine fc (ok_putI hB hT fp_X11_45 rfl rfl rfl af_11_6 dX11_law_26) ?_
  refine fc (ok_aload_n hB dX11_law_29) ?_
  refine fc (okt_getR e1 hB hT fl_X11_77 rfl af_11_12 at_11_12 (by decide) dX11_law_30) ?_
  refine fc (ok_iload_n hB dX11_law_33) ?_
  refine fc (ok_if_ge hB (t := 41) (by decide) dX11_law_34) ?_
  refine fc (ok_null hB dX11_law_37) ?_
  refine fc (ok_goto hB (t := 47) (by decide) dX11_law_38) ?_
  refine fc (ok_aload_n hB dX11_law_41) ?_
  refine fc (okt_getR e1 hB hT fl_X11_37 rfl af_11_4 at_11_4 (by decide) dX11_law_42) ?_
  refine fc (ok_iload_n hB dX11_law_45) ?_
  refine fc (okt_aaload e1 hB dX11_law_46) ?_
  refine fc (okt_putR e1 hB hT fp_X11_209 (rt_obj _) rfl rfl rfl af_9_1 at_9_1 (by decide) (by decide) dX11_law_47) ?_
  refine fc (ok_iconst hB dX11_law_50) ?_
  refine fc (ok_zret hB dX11_law_51) ?_
  exact fn

def w_X11_law : WP := fun av σ Q => ∃ (v : Int), av = [(27, 0), (0, v)] ∧ (InR v ∧ 0 ≤ σ 0 5 ∧ σ 0 5 ≤ 4 ∧ (∀ i, 0 ≤ i → i < σ 0 5 → 0 ≤ σ 12 i) ∧ (v < -1 ∨ σ 0 5 ≤ v → Q (0, 0) σ) ∧ (v = -1 → Q (0, 1) (up (up σ 0 6 v) 26 1 (-1))) ∧ (0 ≤ v → v < σ 0 5 → Q (0, 1) (up (up σ 0 6 v) 26 1 (σ 12 v))))
theorem w_X11_law_e (v : Int) (σ : Mem) (Q : AV → Mem → Prop) : w_X11_law [(27, 0), (0, v)] σ Q = (InR v ∧ 0 ≤ σ 0 5 ∧ σ 0 5 ≤ 4 ∧ (∀ i, 0 ≤ i → i < σ 0 5 → 0 ≤ σ 12 i) ∧ (v < -1 ∨ σ 0 5 ≤ v → Q (0, 0) σ) ∧ (v = -1 → Q (0, 1) (up (up σ 0 6 v) 26 1 (-1))) ∧ (0 ≤ v → v < σ 0 5 → Q (0, 1) (up (up σ 0 6 v) 26 1 (σ 12 v)))) := by
  apply propext; constructor
  · rintro ⟨v', h9, hb9⟩; cases h9; exact hb9
  · intro hb9; exact ⟨v, rfl, hb9⟩

set_option maxRecDepth 100000 in
set_option maxHeartbeats 4000000 in
theorem s_X11_law : ∀ av σ Q, w_X11_law av σ Q → amCall 0 0 0 TT yX11_law cX11_law 2 (some .boolean) av σ Q := by
  rintro av σ Q ⟨v, rfl, hv, h0, h4, hl, h1, h2, h3⟩
  refine am_m0 (own := RX11) (A := look a_X11_law) (fun X e1 e2 hB => o_X11_law e1 e2 hB) rfl (by decide +kernel) rfl rfl 190 (w := 2) ?_
  change vcs _ _ _ _ 190 0 [(27, 0), (0, v)] [] σ
  simp only [↓reduceIte, inR_0, inR_1, inR_m, vSw2_e, swP_n, swP_c, vI_e, vL_e, vNull_e, vIload_e, vLload_e, vAload_e, vIstore_e, vLstore_e, vAstore_e, vIinc_e, vIadd_e, vIsub_e, vImul_e, vIand_e, vIor_e, vIxor_e, vIshl_e, vIshr_e, vIushr_e, vIdiv_e, vIrem_e, vLadd_e, vLsub_e, vLmul_e, vLand_e, vLor_e, vLxor_e, vLdiv_e, vLrem_e, vLushr_e, vLshl_e, vLcmp_e, vIneg_e, vI2l_e, vL2i_e, vI2b_e, vI2c_e, vDup_e, vPop_e, vDup2_e, vGoto_e, vIcEq_e, vIfEq_e, vIcNe_e, vIfNe_e, vIcLt_e, vIfLt_e, vIcGe_e, vIfGe_e, vIcGt_e, vIfGt_e, vIcLe_e, vIfLe_e, vNonnull_e, vSw_e, vGetI_e, vGetL_e, vGetR_e, vPutI_e, vPutZ_e, vPutL_e, vPutR_e, vIald_e, vIald_s, vLald_e, vBald_e, vBald_s, vAald_e, vIast_e, vLast_e, vBast_e, vAast_e, vAlen_e8, vAlen_e9, vAlen_e10, vAlen_e11, vAlen_e5, vAlen_e3, vGets_e, vCompact_e, vLdcS_e, vIret_e, vZret_e, vCret_e, vBret_e, vLret_e, vVret_e, vAret_e, vCallM_e0, vCallMV_e0, vCallS_e0, vCallSV_e0, vCallM_e1, vCallMV_e1, vCallS_e1, vCallSV_e1, vCallM_e2, vCallMV_e2, vCallS_e2, vCallSV_e2, vCallM_e3, vCallMV_e3, vCallS_e3, vCallSV_e3, vCallM_e4, vCallMV_e4, vCallS_e4, vCallSV_e4, vCallM_e5, vCallMV_e5, vCallS_e5, vCallSV_e5, vCallM_e6, vCallMV_e6, vCallS_e6, vCallSV_e6, vCallM_e7, vCallMV_e7, vCallS_e7, vCallSV_e7, vBad_e, vStrVal_e, vStrCod_e, vForm_e, vCallT_e0, vCallT_e1, vCallT_e2, vCopy_e, rf_0_0, rf_0_1, rf_0_2, rf_0_3, rf_0_4, rf_0_7, rf_0_10, rf_0_11, rf_0_12, rf_0_13, rf_0_14, rf_0_15, rf_0_16, rf_1_0, rf_3_0, rf_3_1, rf_6_0, rf_6_1, rf_9_0, rf_9_1, rf_9_3, rf_13_0, rf_13_1, rf_13_2, rf_16_0, rf_16_1, rf_16_2, rf_16_3, rf_21_0, rf_21_1, rf_21_2, rf_21_3, rf_26_0, rf_26_1, rf_26_2, rf_26_3, rf_26_4, rf_26_5, rf_26_6, rf_31_0, rf_31_2, rf_31_5, rf_31_6, rf_36_0, rf_36_1, rf_36_2, rf_36_3, rf_39_0, rf_39_1, rf_39_2, rf_41_0, rf_41_1, rf_41_2, rf_41_3, rf_5000_1, rf_5000_2, rf_5000_3, rf_5000_4, rf_5000_5, rf_5000_15, rf_5000_16, rf_5000_18, rf_5000_19, rf_5000_20, rf_5000_21, rf_5000_22, rf_5000_23, rf_5000_24, rf_5000_25, rf_5000_26, rf_5000_27, rf_5000_36, rf_5000_37, rf_5000_40, rf_5000_41, rf_5000_42, rf_5000_43, rf_5000_44, rf_5000_45, rf_5000_47, rf_5000_52, rf_5000_54, rf_5000_55, rf_100_0, rf_100_1, rf_103_0, rf_103_1, rf_106_0, rf_106_1, rf_109_0, rf_109_1, al_2, al_4, al_5, al_7, al_8, al_10, al_11, al_12, al_14, al_15, al_17, al_18, al_19, al_20, al_22, al_23, al_24, al_25, al_27, al_28, al_29, al_30, al_32, al_33, al_34, al_35, al_37, al_38, al_40, al_42, al_5001, al_5002, al_5003, al_5004, al_5005, al_5006, al_5007, al_5008, al_5009, al_5010, al_5011, al_5012, al_5013, al_5014, al_5015, al_5016, al_5017, al_5018, al_5019, al_5020, al_5021, al_5022, al_5023, al_5024, al_5025, al_5026, al_9000, al_101, al_102, al_104, al_105, al_107, al_108, al_110, al_111, vcs_e, lg_c0, lg_cs, lg_nil, set_c0, set_cs, okst_0, okst_s, acok_n, acok_c, List.contains_nil, List.contains_cons, Bool.or_false, Bool.false_or, Bool.false_eq_true, if_false, if_true, ite_self, ne_eq, true_and, and_true, not_false_eq_true, not_true_eq_false, false_imp_iff, true_imp_iff, Nat.ble_eq, Bool.and_eq_true, reduceCtorEq, or_false, false_or, or_true, true_or, false_and, and_false, and_self, Int.reduceLE, Int.reduceAdd, Int.reduceSub, Int.reduceMul, Int.reduceNeg, Int.reduceLT, Int.reduceEq, Int.reduceNe, Nat.reduceBEq, Nat.reduceBNe, Nat.reduceEqDiff, amCmp_in, amCmp_lt, amCmp_le, amCmp_gt, amCmp_ge, amCmp_eq, amCmp_ne, Nat.reduceLeDiff, Nat.reduceSub, Bool.and_true, Bool.true_and, Bool.and_self, Bool.or_true, Bool.true_or, isRf_3, isRf_4, isRf_5, isRf_8, isRf_9, isRf_10, isRf_11, isRf_15, isRf_16, isRf_17, isRf_18, isRf_19, isRf_20, isRf_21, isRf_22, isRf_23, isRf_24, isRf_25, isRf_26, isRf_27, isRf_28, k_X11_law_0, k_X11_law_1, k_X11_law_2, k_X11_law_5, k_X11_law_6, k_X11_law_7, k_X11_law_10, k_X11_law_13, k_X11_law_14, k_X11_law_15, k_X11_law_18, k_X11_law_19, k_X11_law_22, k_X11_law_23, k_X11_law_24, k_X11_law_25, k_X11_law_26, k_X11_law_29, k_X11_law_30, k_X11_law_33, k_X11_law_34, k_X11_law_37, k_X11_law_38, k_X11_law_41, k_X11_law_42, k_X11_law_45, k_X11_law_46, k_X11_law_47, k_X11_law_50, k_X11_law_51, up_s, up_nj, up_na, up_up, savR_o, cpy_o, fillm_o, setAud_o, setv_o, setv_s, Int.reduceNe, Int.reduceEq, Int.reduceLT, Int.reduceAdd, not_false_eq_true, ne_eq, or_true, true_or]
  by_cases c : v = -1
  · repeat' (first | assumption | apply And.intro | intro _)
    all_goals first | omega | exact absurd trivial (by assumption) | exact rfl | exact Or.inl rfl | exact Or.inr rfl | exact h2 c
  · by_cases c2 : 0 ≤ v ∧ v < σ 0 5
    · have hlv := hl v c2.1 c2.2
      repeat' (first | assumption | apply And.intro | intro _)
      all_goals first | omega | exact absurd trivial (by assumption) | exact rfl | exact Or.inl rfl | exact Or.inr rfl | exact h1 (by omega) | exact h3 (by omega) (by omega)
    · repeat' (first | assumption | apply And.intro | intro _)
      all_goals first | omega | exact absurd trivial (by assumption) | exact rfl | exact Or.inl rfl | exact Or.inr rfl | exact h1 (by omega) | exact h3 (by omega) (by omega)
theorem wd_162 : Cond.fieldLink RX11 246 "ArmchairHouse$Audience" "eveningNow" "I" ∈ TBL := tb_tab (List.mem_of_getElem? (i := 162) (by decide +kernel)) rfl
theorem fl_X11_246 : amFl RX11 0 6 246 RX0 TX0 7 := ⟨rfl, inT_0, by decide, wd_162⟩
def a_X11_canShow : AC := [(0, vAload 0 1), (1, vGetR TT 27 2 22 4), (4, vI 1 5), (5, vIload 2 6), (6, vCallM w_X6_has 22 2 9), (9, vIfEq 26 12), (12, vAload 1 13), (13, vGetI 16 6 16), (16, vI 999 19), (19, vIcGe 26 22), (22, vI 1 23), (23, vGoto 27), (26, vI 0 27), (27, vZret)]
theorem k_X11_canShow_0 : look a_X11_canShow 0 = vAload 0 1 := rfl
theorem k_X11_canShow_1 : look a_X11_canShow 1 = vGetR TT 27 2 22 4 := rfl
theorem k_X11_canShow_4 : look a_X11_canShow 4 = vI 1 5 := rfl
theorem k_X11_canShow_5 : look a_X11_canShow 5 = vIload 2 6 := rfl
theorem k_X11_canShow_6 : look a_X11_canShow 6 = vCallM w_X6_has 22 2 9 := rfl
theorem k_X11_canShow_9 : look a_X11_canShow 9 = vIfEq 26 12 := rfl
theorem k_X11_canShow_12 : look a_X11_canShow 12 = vAload 1 13 := rfl
theorem k_X11_canShow_13 : look a_X11_canShow 13 = vGetI 16 6 16 := rfl
theorem k_X11_canShow_16 : look a_X11_canShow 16 = vI 999 19 := rfl
theorem k_X11_canShow_19 : look a_X11_canShow 19 = vIcGe 26 22 := rfl
theorem k_X11_canShow_22 : look a_X11_canShow 22 = vI 1 23 := rfl
theorem k_X11_canShow_23 : look a_X11_canShow 23 = vGoto 27 := rfl
theorem k_X11_canShow_26 : look a_X11_canShow 26 = vI 0 27 := rfl
theorem k_X11_canShow_27 : look a_X11_canShow 27 = vZret := rfl
theorem o_X11_canShow {X : amX} (e1 : XT X = TT) (e2 : XD X = 3) (hB : amB X RX11 cX11_canShow (some .boolean) 3) : ∀ pc, amOK X pc (look a_X11_canShow pc) := by
  have hT : amTok (XT X) := e1 ▸ TT_ok
  refine look_ok ?_
  unfold a_X11_canShow
  refine fc (ok_aload_n hB dX11_canShow_0) ?_
  refine fc (okt_getR e1 hB hT fl_X11_23 rfl af_11_2 at_11_2 (by decide) dX11_canShow_1) ?_
  refine fc (ok_iconst hB dX11_canShow_4) ?_
  refine fc (ok_iload_n hB dX11_canShow_5) ?_
  refine fc (ok_callM hB hT (e1 ▸ s_X6_has) lk_X11_174 (by rw [e2]; decide) (c := 6) rfl rfl rfl wd_729 wd_730 dX11_canShow_6) ?_
  refine fc (ok_if_eq hB (t := 26) (by decide) dX11_canShow_9) ?_
  refine fc (ok_aload_n hB dX11_canShow_12) ?_
  refine fc (ok_getI hB hT fl_X11_246 rfl rfl (Or.inl af_0_6) dX11_canShow_13) ?_
  refine fc (ok_sipush hB dX11_canShow_16 (by decide)) ?_
  refine fc (ok_icmp_ge hB (t := 26) (by decide) dX11_canShow_19) ?_
  refine fc (ok_iconst hB dX11_canShow_22) ?_
  refine fc (ok_goto hB (t := 27) (by decide) dX11_canShow_23) ?_
  refine fc (ok_iconst hB dX11_canShow_26) ?_
  refine fc (ok_zret hB dX11_canShow_27) ?_
  exact fn

def w_X11_canShow : WP := fun av σ Q => ∃ (a : Int) (p : Int), av = [(27, 0), (16, a), (0, p)] ∧ (isA a ∧ InR p ∧ planB σ 6 ∧ InR (σ a 6) ∧ Q (0, if 0 ≤ p ∧ p < pcnt σ 6 1 ∧ σ a 6 < 999 then 1 else 0) σ)
theorem w_X11_canShow_e (a : Int) (p : Int) (σ : Mem) (Q : AV → Mem → Prop) : w_X11_canShow [(27, 0), (16, a), (0, p)] σ Q = (isA a ∧ InR p ∧ planB σ 6 ∧ InR (σ a 6) ∧ Q (0, if 0 ≤ p ∧ p < pcnt σ 6 1 ∧ σ a 6 < 999 then 1 else 0) σ) := by
  apply propext; constructor
  · rintro ⟨a', p', h9, hb9⟩; cases h9; exact hb9
  · intro hb9; exact ⟨a, p, rfl, hb9⟩

set_option maxRecDepth 100000 in
set_option maxHeartbeats 4000000 in
theorem s_X11_canShow : ∀ av σ Q, w_X11_canShow av σ Q → amCall 3 0 0 TT yX11_canShow cX11_canShow 3 (some .boolean) av σ Q := by
  rintro av σ Q ⟨a, p, rfl, ha, hp, hB, he, h⟩
  have hab := isA_b ha
  have p0 : (0 : Int) ≤ a := by omega
  have c2 := pcnt_b hB 1
  refine am_m0 (own := RX11) (A := look a_X11_canShow) (fun X e1 e2 hB => o_X11_canShow e1 e2 hB) rfl (by decide +kernel) rfl rfl 190 (w := 3) ?_
  change vcs _ _ _ _ 190 0 [(27, 0), (16, a), (0, p)] [] σ
  simp only [↓reduceIte, inR_0, inR_1, inR_m, vSw2_e, swP_n, swP_c, vI_e, vL_e, vNull_e, vIload_e, vLload_e, vAload_e, vIstore_e, vLstore_e, vAstore_e, vIinc_e, vIadd_e, vIsub_e, vImul_e, vIand_e, vIor_e, vIxor_e, vIshl_e, vIshr_e, vIushr_e, vIdiv_e, vIrem_e, vLadd_e, vLsub_e, vLmul_e, vLand_e, vLor_e, vLxor_e, vLdiv_e, vLrem_e, vLushr_e, vLshl_e, vLcmp_e, vIneg_e, vI2l_e, vL2i_e, vI2b_e, vI2c_e, vDup_e, vPop_e, vDup2_e, vGoto_e, vIcEq_e, vIfEq_e, vIcNe_e, vIfNe_e, vIcLt_e, vIfLt_e, vIcGe_e, vIfGe_e, vIcGt_e, vIfGt_e, vIcLe_e, vIfLe_e, vNonnull_e, vSw_e, vGetI_e, vGetL_e, vGetR_e, vPutI_e, vPutZ_e, vPutL_e, vPutR_e, vIald_e, vIald_s, vLald_e, vBald_e, vBald_s, vAald_e, vIast_e, vLast_e, vBast_e, vAast_e, vAlen_e8, vAlen_e9, vAlen_e10, vAlen_e11, vAlen_e5, vAlen_e3, vGets_e, vCompact_e, vLdcS_e, vIret_e, vZret_e, vCret_e, vBret_e, vLret_e, vVret_e, vAret_e, vCallM_e0, vCallMV_e0, vCallS_e0, vCallSV_e0, vCallM_e1, vCallMV_e1, vCallS_e1, vCallSV_e1, vCallM_e2, vCallMV_e2, vCallS_e2, vCallSV_e2, vCallM_e3, vCallMV_e3, vCallS_e3, vCallSV_e3, vCallM_e4, vCallMV_e4, vCallS_e4, vCallSV_e4, vCallM_e5, vCallMV_e5, vCallS_e5, vCallSV_e5, vCallM_e6, vCallMV_e6, vCallS_e6, vCallSV_e6, vCallM_e7, vCallMV_e7, vCallS_e7, vCallSV_e7, vBad_e, vStrVal_e, vStrCod_e, vForm_e, vCallT_e0, vCallT_e1, vCallT_e2, vCopy_e, rf_0_0, rf_0_1, rf_0_2, rf_0_3, rf_0_4, rf_0_7, rf_0_10, rf_0_11, rf_0_12, rf_0_13, rf_0_14, rf_0_15, rf_0_16, rf_1_0, rf_3_0, rf_3_1, rf_6_0, rf_6_1, rf_9_0, rf_9_1, rf_9_3, rf_13_0, rf_13_1, rf_13_2, rf_16_0, rf_16_1, rf_16_2, rf_16_3, rf_21_0, rf_21_1, rf_21_2, rf_21_3, rf_26_0, rf_26_1, rf_26_2, rf_26_3, rf_26_4, rf_26_5, rf_26_6, rf_31_0, rf_31_2, rf_31_5, rf_31_6, rf_36_0, rf_36_1, rf_36_2, rf_36_3, rf_39_0, rf_39_1, rf_39_2, rf_41_0, rf_41_1, rf_41_2, rf_41_3, rf_5000_1, rf_5000_2, rf_5000_3, rf_5000_4, rf_5000_5, rf_5000_15, rf_5000_16, rf_5000_18, rf_5000_19, rf_5000_20, rf_5000_21, rf_5000_22, rf_5000_23, rf_5000_24, rf_5000_25, rf_5000_26, rf_5000_27, rf_5000_36, rf_5000_37, rf_5000_40, rf_5000_41, rf_5000_42, rf_5000_43, rf_5000_44, rf_5000_45, rf_5000_47, rf_5000_52, rf_5000_54, rf_5000_55, rf_100_0, rf_100_1, rf_103_0, rf_103_1, rf_106_0, rf_106_1, rf_109_0, rf_109_1, al_2, al_4, al_5, al_7, al_8, al_10, al_11, al_12, al_14, al_15, al_17, al_18, al_19, al_20, al_22, al_23, al_24, al_25, al_27, al_28, al_29, al_30, al_32, al_33, al_34, al_35, al_37, al_38, al_40, al_42, al_5001, al_5002, al_5003, al_5004, al_5005, al_5006, al_5007, al_5008, al_5009, al_5010, al_5011, al_5012, al_5013, al_5014, al_5015, al_5016, al_5017, al_5018, al_5019, al_5020, al_5021, al_5022, al_5023, al_5024, al_5025, al_5026, al_9000, al_101, al_102, al_104, al_105, al_107, al_108, al_110, al_111, vcs_e, lg_c0, lg_cs, lg_nil, set_c0, set_cs, okst_0, okst_s, acok_n, acok_c, List.contains_nil, List.contains_cons, Bool.or_false, Bool.false_or, Bool.false_eq_true, if_false, if_true, ite_self, ne_eq, true_and, and_true, not_false_eq_true, not_true_eq_false, false_imp_iff, true_imp_iff, Nat.ble_eq, Bool.and_eq_true, reduceCtorEq, or_false, false_or, or_true, true_or, false_and, and_false, and_self, Int.reduceLE, Int.reduceAdd, Int.reduceSub, Int.reduceMul, Int.reduceNeg, Int.reduceLT, Int.reduceEq, Int.reduceNe, Nat.reduceBEq, Nat.reduceBNe, Nat.reduceEqDiff, amCmp_in, amCmp_lt, amCmp_le, amCmp_gt, amCmp_ge, amCmp_eq, amCmp_ne, Nat.reduceLeDiff, Nat.reduceSub, Bool.and_true, Bool.true_and, Bool.and_self, Bool.or_true, Bool.true_or, isRf_3, isRf_4, isRf_5, isRf_8, isRf_9, isRf_10, isRf_11, isRf_15, isRf_16, isRf_17, isRf_18, isRf_19, isRf_20, isRf_21, isRf_22, isRf_23, isRf_24, isRf_25, isRf_26, isRf_27, isRf_28, k_X11_canShow_0, k_X11_canShow_1, k_X11_canShow_4, k_X11_canShow_5, k_X11_canShow_6, k_X11_canShow_9, k_X11_canShow_12, k_X11_canShow_13, k_X11_canShow_16, k_X11_canShow_19, k_X11_canShow_22, k_X11_canShow_23, k_X11_canShow_26, k_X11_canShow_27, w_X6_has_e, up_s, up_nj, up_na, up_up, savR_o, cpy_o, fillm_o, setAud_o, setv_o, setv_s, Int.reduceNe, Int.reduceEq, Int.reduceLT, Int.reduceAdd, not_false_eq_true, ne_eq, or_true, true_or, p0]
  by_cases c : 0 ≤ p ∧ p < pcnt σ 6 1
  · rw [if_pos c]
    by_cases c3 : σ a 6 < 999
    · rw [if_pos ⟨c.1, c.2, c3⟩] at h
      repeat' (first | assumption | apply And.intro | intro _)
      all_goals first | omega | exact absurd trivial (by assumption) | exact isP6 | exact h
    · rw [if_neg (fun q => c3 q.2.2)] at h
      repeat' (first | assumption | apply And.intro | intro _)
      all_goals first | omega | exact absurd trivial (by assumption) | exact isP6 | exact h
  · rw [if_neg c]
    rw [if_neg (fun q => c ⟨q.1, q.2.1⟩)] at h
    repeat' (first | assumption | apply And.intro | intro _)
    all_goals first | omega | exact absurd trivial (by assumption) | exact isP6 | exact h
theorem wd_149 : Cond.fieldLink RX11 193 "ArmchairHouse$Audience" "seats" "[I" ∈ TBL := tb_tab (List.mem_of_getElem? (i := 149) (by decide +kernel)) rfl
theorem fl_X11_193 : amFl RX11 0 1 193 RX0 TX0 7 := ⟨rfl, inT_0, by decide, wd_149⟩
theorem wd_151 : Cond.fieldLink RX11 196 "ArmchairHouse$Audience" "money" "[I" ∈ TBL := tb_tab (List.mem_of_getElem? (i := 151) (by decide +kernel)) rfl
theorem fl_X11_196 : amFl RX11 0 2 196 RX0 TX0 7 := ⟨rfl, inT_0, by decide, wd_151⟩
def a_X11_canChange : AC := [(0, vAload 0 1), (1, vGetR TT 27 2 22 4), (4, vI 2 5), (5, vIload 2 6), (6, vCallM w_X6_has 22 2 9), (9, vIfEq 51 12), (12, vAload 0 13), (13, vGetR TT 27 2 22 16), (16, vI 3 17), (17, vIload 3 18), (18, vCallM w_X6_has 22 2 21), (21, vIfEq 51 24), (24, vAload 1 25), (25, vGetR TT 16 1 8 28), (28, vIload 2 29), (29, vIald TT 30), (30, vIload 3 31), (31, vIcEq 51 34), (34, vAload 1 35), (35, vGetR TT 16 2 8 38), (38, vIload 2 39), (39, vIald TT 40), (40, vAload 1 41), (41, vGetI 16 5 44), (44, vIcLt 51 47), (47, vI 1 48), (48, vGoto 52), (51, vI 0 52), (52, vZret)]
theorem k_X11_canChange_0 : look a_X11_canChange 0 = vAload 0 1 := rfl
theorem k_X11_canChange_1 : look a_X11_canChange 1 = vGetR TT 27 2 22 4 := rfl
theorem k_X11_canChange_4 : look a_X11_canChange 4 = vI 2 5 := rfl
theorem k_X11_canChange_5 : look a_X11_canChange 5 = vIload 2 6 := rfl
theorem k_X11_canChange_6 : look a_X11_canChange 6 = vCallM w_X6_has 22 2 9 := rfl
theorem k_X11_canChange_9 : look a_X11_canChange 9 = vIfEq 51 12 := rfl
theorem k_X11_canChange_12 : look a_X11_canChange 12 = vAload 0 13 := rfl
theorem k_X11_canChange_13 : look a_X11_canChange 13 = vGetR TT 27 2 22 16 := rfl
theorem k_X11_canChange_16 : look a_X11_canChange 16 = vI 3 17 := rfl
theorem k_X11_canChange_17 : look a_X11_canChange 17 = vIload 3 18 := rfl
theorem k_X11_canChange_18 : look a_X11_canChange 18 = vCallM w_X6_has 22 2 21 := rfl
theorem k_X11_canChange_21 : look a_X11_canChange 21 = vIfEq 51 24 := rfl
theorem k_X11_canChange_24 : look a_X11_canChange 24 = vAload 1 25 := rfl
theorem k_X11_canChange_25 : look a_X11_canChange 25 = vGetR TT 16 1 8 28 := rfl
theorem k_X11_canChange_28 : look a_X11_canChange 28 = vIload 2 29 := rfl
theorem k_X11_canChange_29 : look a_X11_canChange 29 = vIald TT 30 := rfl
theorem k_X11_canChange_30 : look a_X11_canChange 30 = vIload 3 31 := rfl
theorem k_X11_canChange_31 : look a_X11_canChange 31 = vIcEq 51 34 := rfl
theorem k_X11_canChange_34 : look a_X11_canChange 34 = vAload 1 35 := rfl
theorem k_X11_canChange_35 : look a_X11_canChange 35 = vGetR TT 16 2 8 38 := rfl
theorem k_X11_canChange_38 : look a_X11_canChange 38 = vIload 2 39 := rfl
theorem k_X11_canChange_39 : look a_X11_canChange 39 = vIald TT 40 := rfl
theorem k_X11_canChange_40 : look a_X11_canChange 40 = vAload 1 41 := rfl
theorem k_X11_canChange_41 : look a_X11_canChange 41 = vGetI 16 5 44 := rfl
theorem k_X11_canChange_44 : look a_X11_canChange 44 = vIcLt 51 47 := rfl
theorem k_X11_canChange_47 : look a_X11_canChange 47 = vI 1 48 := rfl
theorem k_X11_canChange_48 : look a_X11_canChange 48 = vGoto 52 := rfl
theorem k_X11_canChange_51 : look a_X11_canChange 51 = vI 0 52 := rfl
theorem k_X11_canChange_52 : look a_X11_canChange 52 = vZret := rfl
theorem o_X11_canChange {X : amX} (e1 : XT X = TT) (e2 : XD X = 3) (hB : amB X RX11 cX11_canChange (some .boolean) 4) : ∀ pc, amOK X pc (look a_X11_canChange pc) := by
  have hT : amTok (XT X) := e1 ▸ TT_ok
  refine look_ok ?_
  unfold a_X11_canChange
  refine fc (ok_aload_n hB dX11_canChange_0) ?_
  refine fc (okt_getR e1 hB hT fl_X11_23 rfl af_11_2 at_11_2 (by decide) dX11_canChange_1) ?_
  refine fc (ok_iconst hB dX11_canChange_4) ?_
  refine fc (ok_iload_n hB dX11_canChange_5) ?_
  refine fc (ok_callM hB hT (e1 ▸ s_X6_has) lk_X11_174 (by rw [e2]; decide) (c := 6) rfl rfl rfl wd_729 wd_730 dX11_canChange_6) ?_
  refine fc (ok_if_eq hB (t := 51) (by decide) dX11_canChange_9) ?_
  refine fc (ok_aload_n hB dX11_canChange_12) ?_
  refine fc (okt_getR e1 hB hT fl_X11_23 rfl af_11_2 at_11_2 (by decide) dX11_canChange_13) ?_
  refine fc (ok_iconst hB dX11_canChange_16) ?_
  refine fc (ok_iload_n hB dX11_canChange_17) ?_
  refine fc (ok_callM hB hT (e1 ▸ s_X6_has) lk_X11_174 (by rw [e2]; decide) (c := 6) rfl rfl rfl wd_729 wd_730 dX11_canChange_18) ?_
  refine fc (ok_if_eq hB (t := 51) (by decide) dX11_canChange_21) ?_
  refine fc (ok_aload_n hB dX11_canChange_24) ?_
  refine fc (okt_getR e1 hB hT fl_X11_193 rfl af_0_1 at_0_1 (by decide) dX11_canChange_25) ?_
  refine fc (ok_iload_n hB dX11_canChange_28) ?_
  refine fc (okt_iaload e1 hB dX11_canChange_29) ?_
  refine fc (ok_iload_n hB dX11_canChange_30) ?_
  refine fc (ok_icmp_eq hB (t := 51) (by decide) dX11_canChange_31) ?_
  refine fc (ok_aload_n hB dX11_canChange_34) ?_
  refine fc (okt_getR e1 hB hT fl_X11_196 rfl af_0_2 at_0_2 (by decide) dX11_canChange_35) ?_
  refine fc (ok_iload_n hB dX11_canChange_38) ?_
  refine fc (okt_iaload e1 hB dX11_canChange_39) ?_
  refine fc (ok_aload_n hB dX11_canChange_40) ?_
  refine fc (ok_getI hB hT fl_X11_171 rfl rfl (Or.inl af_0_5) dX11_canChange_41) ?_
  refine fc (ok_icmp_lt hB (t := 51) (by decide) dX11_canChange_44) ?_
  refine fc (ok_iconst hB dX11_canChange_47) ?_
  refine fc (ok_goto hB (t := 52) (by decide) dX11_canChange_48) ?_
  refine fc (ok_iconst hB dX11_canChange_51) ?_
  refine fc (ok_zret hB dX11_canChange_52) ?_
  exact fn

def w_X11_canChange : WP := fun av σ Q => ∃ (a : Int) (c : Int) (t : Int), av = [(27, 0), (16, a), (0, c), (0, t)] ∧ (isA a ∧ InR c ∧ InR t ∧ planB σ 6 ∧ (∀ i, 0 ≤ i → i < 6 → InR (σ (a + 2) i)) ∧ (∀ i, 0 ≤ i → i < 6 → InR (σ (a + 3) i)) ∧ InR (σ a 5) ∧ Q (0, if (0 ≤ c ∧ c < pcnt σ 6 2) ∧ (0 ≤ t ∧ t < pcnt σ 6 3) ∧ σ (a + 2) c ≠ t ∧ σ a 5 ≤ σ (a + 3) c then 1 else 0) σ)
theorem w_X11_canChange_e (a : Int) (c : Int) (t : Int) (σ : Mem) (Q : AV → Mem → Prop) : w_X11_canChange [(27, 0), (16, a), (0, c), (0, t)] σ Q = (isA a ∧ InR c ∧ InR t ∧ planB σ 6 ∧ (∀ i, 0 ≤ i → i < 6 → InR (σ (a + 2) i)) ∧ (∀ i, 0 ≤ i → i < 6 → InR (σ (a + 3) i)) ∧ InR (σ a 5) ∧ Q (0, if (0 ≤ c ∧ c < pcnt σ 6 2) ∧ (0 ≤ t ∧ t < pcnt σ 6 3) ∧ σ (a + 2) c ≠ t ∧ σ a 5 ≤ σ (a + 3) c then 1 else 0) σ) := by
  apply propext; constructor
  · rintro ⟨a', c', t', h9, hb9⟩; cases h9; exact hb9
  · intro hb9; exact ⟨a, c, t, rfl, hb9⟩

set_option maxRecDepth 100000 in
set_option maxHeartbeats 4000000 in
theorem s_X11_canChange : ∀ av σ Q, w_X11_canChange av σ Q → amCall 3 0 0 TT yX11_canChange cX11_canChange 4 (some .boolean) av σ Q := by
  rintro av σ Q ⟨a, c, t, rfl, ha, hc, ht, hB, hse, hmo, hpr, h⟩
  have hab := isA_b ha
  have p0 : (0 : Int) ≤ a := by omega
  have p2 : (0 : Int) ≤ a + 2 := by omega
  have p3 : (0 : Int) ≤ a + 3 := by omega
  have r1 : ∀ τ, rfv TT τ a 1 = a + 2 := fun τ => rfA_1 ha τ
  have r2 : ∀ τ, rfv TT τ a 2 = a + 3 := fun τ => rfA_2 ha τ
  have l2 : ∀ τ, alen TT τ (a + 2) = 6 := fun τ => alA_2 ha τ
  have l3 : ∀ τ, alen TT τ (a + 3) = 6 := fun τ => alA_3 ha τ
  have c2 := pcnt_b hB 2
  have c3 := pcnt_b hB 3
  refine am_m0 (own := RX11) (A := look a_X11_canChange) (fun X e1 e2 hB => o_X11_canChange e1 e2 hB) rfl (by decide +kernel) rfl rfl 190 (w := 4) ?_
  change vcs _ _ _ _ 190 0 [(27, 0), (16, a), (0, c), (0, t)] [] σ
  simp only [↓reduceIte, inR_0, inR_1, inR_m, vSw2_e, swP_n, swP_c, vI_e, vL_e, vNull_e, vIload_e, vLload_e, vAload_e, vIstore_e, vLstore_e, vAstore_e, vIinc_e, vIadd_e, vIsub_e, vImul_e, vIand_e, vIor_e, vIxor_e, vIshl_e, vIshr_e, vIushr_e, vIdiv_e, vIrem_e, vLadd_e, vLsub_e, vLmul_e, vLand_e, vLor_e, vLxor_e, vLdiv_e, vLrem_e, vLushr_e, vLshl_e, vLcmp_e, vIneg_e, vI2l_e, vL2i_e, vI2b_e, vI2c_e, vDup_e, vPop_e, vDup2_e, vGoto_e, vIcEq_e, vIfEq_e, vIcNe_e, vIfNe_e, vIcLt_e, vIfLt_e, vIcGe_e, vIfGe_e, vIcGt_e, vIfGt_e, vIcLe_e, vIfLe_e, vNonnull_e, vSw_e, vGetI_e, vGetL_e, vGetR_e, vPutI_e, vPutZ_e, vPutL_e, vPutR_e, vIald_e, vIald_s, vLald_e, vBald_e, vBald_s, vAald_e, vIast_e, vLast_e, vBast_e, vAast_e, vAlen_e8, vAlen_e9, vAlen_e10, vAlen_e11, vAlen_e5, vAlen_e3, vGets_e, vCompact_e, vLdcS_e, vIret_e, vZret_e, vCret_e, vBret_e, vLret_e, vVret_e, vAret_e, vCallM_e0, vCallMV_e0, vCallS_e0, vCallSV_e0, vCallM_e1, vCallMV_e1, vCallS_e1, vCallSV_e1, vCallM_e2, vCallMV_e2, vCallS_e2, vCallSV_e2, vCallM_e3, vCallMV_e3, vCallS_e3, vCallSV_e3, vCallM_e4, vCallMV_e4, vCallS_e4, vCallSV_e4, vCallM_e5, vCallMV_e5, vCallS_e5, vCallSV_e5, vCallM_e6, vCallMV_e6, vCallS_e6, vCallSV_e6, vCallM_e7, vCallMV_e7, vCallS_e7, vCallSV_e7, vBad_e, vStrVal_e, vStrCod_e, vForm_e, vCallT_e0, vCallT_e1, vCallT_e2, vCopy_e, rf_0_0, rf_0_1, rf_0_2, rf_0_3, rf_0_4, rf_0_7, rf_0_10, rf_0_11, rf_0_12, rf_0_13, rf_0_14, rf_0_15, rf_0_16, rf_1_0, rf_3_0, rf_3_1, rf_6_0, rf_6_1, rf_9_0, rf_9_1, rf_9_3, rf_13_0, rf_13_1, rf_13_2, rf_16_0, rf_16_1, rf_16_2, rf_16_3, rf_21_0, rf_21_1, rf_21_2, rf_21_3, rf_26_0, rf_26_1, rf_26_2, rf_26_3, rf_26_4, rf_26_5, rf_26_6, rf_31_0, rf_31_2, rf_31_5, rf_31_6, rf_36_0, rf_36_1, rf_36_2, rf_36_3, rf_39_0, rf_39_1, rf_39_2, rf_41_0, rf_41_1, rf_41_2, rf_41_3, rf_5000_1, rf_5000_2, rf_5000_3, rf_5000_4, rf_5000_5, rf_5000_15, rf_5000_16, rf_5000_18, rf_5000_19, rf_5000_20, rf_5000_21, rf_5000_22, rf_5000_23, rf_5000_24, rf_5000_25, rf_5000_26, rf_5000_27, rf_5000_36, rf_5000_37, rf_5000_40, rf_5000_41, rf_5000_42, rf_5000_43, rf_5000_44, rf_5000_45, rf_5000_47, rf_5000_52, rf_5000_54, rf_5000_55, rf_100_0, rf_100_1, rf_103_0, rf_103_1, rf_106_0, rf_106_1, rf_109_0, rf_109_1, al_2, al_4, al_5, al_7, al_8, al_10, al_11, al_12, al_14, al_15, al_17, al_18, al_19, al_20, al_22, al_23, al_24, al_25, al_27, al_28, al_29, al_30, al_32, al_33, al_34, al_35, al_37, al_38, al_40, al_42, al_5001, al_5002, al_5003, al_5004, al_5005, al_5006, al_5007, al_5008, al_5009, al_5010, al_5011, al_5012, al_5013, al_5014, al_5015, al_5016, al_5017, al_5018, al_5019, al_5020, al_5021, al_5022, al_5023, al_5024, al_5025, al_5026, al_9000, al_101, al_102, al_104, al_105, al_107, al_108, al_110, al_111, vcs_e, lg_c0, lg_cs, lg_nil, set_c0, set_cs, okst_0, okst_s, acok_n, acok_c, List.contains_nil, List.contains_cons, Bool.or_false, Bool.false_or, Bool.false_eq_true, if_false, if_true, ite_self, ne_eq, true_and, and_true, not_false_eq_true, not_true_eq_false, false_imp_iff, true_imp_iff, Nat.ble_eq, Bool.and_eq_true, reduceCtorEq, or_false, false_or, or_true, true_or, false_and, and_false, and_self, Int.reduceLE, Int.reduceAdd, Int.reduceSub, Int.reduceMul, Int.reduceNeg, Int.reduceLT, Int.reduceEq, Int.reduceNe, Nat.reduceBEq, Nat.reduceBNe, Nat.reduceEqDiff, amCmp_in, amCmp_lt, amCmp_le, amCmp_gt, amCmp_ge, amCmp_eq, amCmp_ne, Nat.reduceLeDiff, Nat.reduceSub, Bool.and_true, Bool.true_and, Bool.and_self, Bool.or_true, Bool.true_or, isRf_3, isRf_4, isRf_5, isRf_8, isRf_9, isRf_10, isRf_11, isRf_15, isRf_16, isRf_17, isRf_18, isRf_19, isRf_20, isRf_21, isRf_22, isRf_23, isRf_24, isRf_25, isRf_26, isRf_27, isRf_28, k_X11_canChange_0, k_X11_canChange_1, k_X11_canChange_4, k_X11_canChange_5, k_X11_canChange_6, k_X11_canChange_9, k_X11_canChange_12, k_X11_canChange_13, k_X11_canChange_16, k_X11_canChange_17, k_X11_canChange_18, k_X11_canChange_21, k_X11_canChange_24, k_X11_canChange_25, k_X11_canChange_28, k_X11_canChange_29, k_X11_canChange_30, k_X11_canChange_31, k_X11_canChange_34, k_X11_canChange_35, k_X11_canChange_38, k_X11_canChange_39, k_X11_canChange_40, k_X11_canChange_41, k_X11_canChange_44, k_X11_canChange_47, k_X11_canChange_48, k_X11_canChange_51, k_X11_canChange_52, w_X6_has_e, up_s, up_nj, up_na, up_up, savR_o, cpy_o, fillm_o, setAud_o, setv_o, setv_s, Int.reduceNe, Int.reduceEq, Int.reduceLT, Int.reduceAdd, not_false_eq_true, ne_eq, or_true, true_or, p0, p2, p3, r1, r2, l2, l3]
  by_cases d1 : 0 ≤ c ∧ c < pcnt σ 6 2
  · have hs := hse c d1.1 (by omega)
    have hm := hmo c d1.1 (by omega)
    rw [if_pos d1]
    by_cases d2 : 0 ≤ t ∧ t < pcnt σ 6 3
    · rw [if_pos d2]
      by_cases d3 : σ (a + 2) c ≠ t ∧ σ a 5 ≤ σ (a + 3) c
      · rw [if_pos ⟨d1, d2, d3⟩] at h
        repeat' (first | assumption | apply And.intro | intro _)
        all_goals first | omega | exact absurd trivial (by assumption) | exact isP6 | exact h
      · rw [if_neg (fun q => d3 q.2.2)] at h
        repeat' (first | assumption | apply And.intro | intro _)
        all_goals first | omega | exact absurd trivial (by assumption) | exact isP6 | exact h
    · rw [if_neg d2]
      rw [if_neg (fun q => d2 q.2.1)] at h
      repeat' (first | assumption | apply And.intro | intro _)
      all_goals first | omega | exact absurd trivial (by assumption) | exact isP6 | exact h
  · rw [if_neg d1]
    rw [if_neg (fun q => d1 q.1)] at h
    repeat' (first | assumption | apply And.intro | intro _)
    all_goals first | omega | exact absurd trivial (by assumption) | exact isP6 | exact h
def a_X11_canFallIll : AC := [(0, vAload 0 1), (1, vGetR TT 27 2 22 4), (4, vI 3 5), (5, vIload 2 6), (6, vCallM w_X6_has 22 2 9), (9, vIfEq 24 12), (12, vAload 1 13), (13, vIload 2 14), (14, vCallM w_X0_isIll 16 1 17), (17, vIfNe 24 20), (20, vI 1 21), (21, vGoto 25), (24, vI 0 25), (25, vZret)]
theorem k_X11_canFallIll_0 : look a_X11_canFallIll 0 = vAload 0 1 := rfl
theorem k_X11_canFallIll_1 : look a_X11_canFallIll 1 = vGetR TT 27 2 22 4 := rfl
theorem k_X11_canFallIll_4 : look a_X11_canFallIll 4 = vI 3 5 := rfl
theorem k_X11_canFallIll_5 : look a_X11_canFallIll 5 = vIload 2 6 := rfl
theorem k_X11_canFallIll_6 : look a_X11_canFallIll 6 = vCallM w_X6_has 22 2 9 := rfl
theorem k_X11_canFallIll_9 : look a_X11_canFallIll 9 = vIfEq 24 12 := rfl
theorem k_X11_canFallIll_12 : look a_X11_canFallIll 12 = vAload 1 13 := rfl
theorem k_X11_canFallIll_13 : look a_X11_canFallIll 13 = vIload 2 14 := rfl
theorem k_X11_canFallIll_14 : look a_X11_canFallIll 14 = vCallM w_X0_isIll 16 1 17 := rfl
theorem k_X11_canFallIll_17 : look a_X11_canFallIll 17 = vIfNe 24 20 := rfl
theorem k_X11_canFallIll_20 : look a_X11_canFallIll 20 = vI 1 21 := rfl
theorem k_X11_canFallIll_21 : look a_X11_canFallIll 21 = vGoto 25 := rfl
theorem k_X11_canFallIll_24 : look a_X11_canFallIll 24 = vI 0 25 := rfl
theorem k_X11_canFallIll_25 : look a_X11_canFallIll 25 = vZret := rfl
theorem o_X11_canFallIll {X : amX} (e1 : XT X = TT) (e2 : XD X = 3) (hB : amB X RX11 cX11_canFallIll (some .boolean) 3) : ∀ pc, amOK X pc (look a_X11_canFallIll pc) := by
  have hT : amTok (XT X) := e1 ▸ TT_ok
  refine look_ok ?_
  unfold a_X11_canFallIll
  refine fc (ok_aload_n hB dX11_canFallIll_0) ?_
  refine fc (okt_getR e1 hB hT fl_X11_23 rfl af_11_2 at_11_2 (by decide) dX11_canFallIll_1) ?_
  refine fc (ok_iconst hB dX11_canFallIll_4) ?_
  refine fc (ok_iload_n hB dX11_canFallIll_5) ?_
  refine fc (ok_callM hB hT (e1 ▸ s_X6_has) lk_X11_174 (by rw [e2]; decide) (c := 6) rfl rfl rfl wd_729 wd_730 dX11_canFallIll_6) ?_
  refine fc (ok_if_eq hB (t := 24) (by decide) dX11_canFallIll_9) ?_
  refine fc (ok_aload_n hB dX11_canFallIll_12) ?_
  refine fc (ok_iload_n hB dX11_canFallIll_13) ?_
  refine fc (ok_callM hB hT (e1 ▸ s_X0_isIll) lk_X11_205 (by rw [e2]; decide) (c := 0) rfl rfl rfl wd_742 wd_743 dX11_canFallIll_14) ?_
  refine fc (ok_if_ne hB (t := 24) (by decide) dX11_canFallIll_17) ?_
  refine fc (ok_iconst hB dX11_canFallIll_20) ?_
  refine fc (ok_goto hB (t := 25) (by decide) dX11_canFallIll_21) ?_
  refine fc (ok_iconst hB dX11_canFallIll_24) ?_
  refine fc (ok_zret hB dX11_canFallIll_25) ?_
  exact fn

def w_X11_canFallIll : WP := fun av σ Q => ∃ (a : Int) (t : Int), av = [(27, 0), (16, a), (0, t)] ∧ (isA a ∧ InR t ∧ planB σ 6 ∧ InR (σ a 4) ∧ Q (0, if 0 ≤ t ∧ t < pcnt σ 6 3 ∧ bt (σ a 4) t = 0 then 1 else 0) σ)
theorem w_X11_canFallIll_e (a : Int) (t : Int) (σ : Mem) (Q : AV → Mem → Prop) : w_X11_canFallIll [(27, 0), (16, a), (0, t)] σ Q = (isA a ∧ InR t ∧ planB σ 6 ∧ InR (σ a 4) ∧ Q (0, if 0 ≤ t ∧ t < pcnt σ 6 3 ∧ bt (σ a 4) t = 0 then 1 else 0) σ) := by
  apply propext; constructor
  · rintro ⟨a', t', h9, hb9⟩; cases h9; exact hb9
  · intro hb9; exact ⟨a, t, rfl, hb9⟩

set_option maxRecDepth 100000 in
set_option maxHeartbeats 4000000 in
theorem s_X11_canFallIll : ∀ av σ Q, w_X11_canFallIll av σ Q → amCall 3 0 0 TT yX11_canFallIll cX11_canFallIll 3 (some .boolean) av σ Q := by
  rintro av σ Q ⟨a, t, rfl, ha, ht, hB, hi, h⟩
  have hab := isA_b ha
  have p0 : (0 : Int) ≤ a := by omega
  have c3 := pcnt_b hB 3
  have b01 := bt_b (σ a 4) t
  refine am_m0 (own := RX11) (A := look a_X11_canFallIll) (fun X e1 e2 hB => o_X11_canFallIll e1 e2 hB) rfl (by decide +kernel) rfl rfl 190 (w := 3) ?_
  change vcs _ _ _ _ 190 0 [(27, 0), (16, a), (0, t)] [] σ
  simp only [↓reduceIte, inR_0, inR_1, inR_m, vSw2_e, swP_n, swP_c, vI_e, vL_e, vNull_e, vIload_e, vLload_e, vAload_e, vIstore_e, vLstore_e, vAstore_e, vIinc_e, vIadd_e, vIsub_e, vImul_e, vIand_e, vIor_e, vIxor_e, vIshl_e, vIshr_e, vIushr_e, vIdiv_e, vIrem_e, vLadd_e, vLsub_e, vLmul_e, vLand_e, vLor_e, vLxor_e, vLdiv_e, vLrem_e, vLushr_e, vLshl_e, vLcmp_e, vIneg_e, vI2l_e, vL2i_e, vI2b_e, vI2c_e, vDup_e, vPop_e, vDup2_e, vGoto_e, vIcEq_e, vIfEq_e, vIcNe_e, vIfNe_e, vIcLt_e, vIfLt_e, vIcGe_e, vIfGe_e, vIcGt_e, vIfGt_e, vIcLe_e, vIfLe_e, vNonnull_e, vSw_e, vGetI_e, vGetL_e, vGetR_e, vPutI_e, vPutZ_e, vPutL_e, vPutR_e, vIald_e, vIald_s, vLald_e, vBald_e, vBald_s, vAald_e, vIast_e, vLast_e, vBast_e, vAast_e, vAlen_e8, vAlen_e9, vAlen_e10, vAlen_e11, vAlen_e5, vAlen_e3, vGets_e, vCompact_e, vLdcS_e, vIret_e, vZret_e, vCret_e, vBret_e, vLret_e, vVret_e, vAret_e, vCallM_e0, vCallMV_e0, vCallS_e0, vCallSV_e0, vCallM_e1, vCallMV_e1, vCallS_e1, vCallSV_e1, vCallM_e2, vCallMV_e2, vCallS_e2, vCallSV_e2, vCallM_e3, vCallMV_e3, vCallS_e3, vCallSV_e3, vCallM_e4, vCallMV_e4, vCallS_e4, vCallSV_e4, vCallM_e5, vCallMV_e5, vCallS_e5, vCallSV_e5, vCallM_e6, vCallMV_e6, vCallS_e6, vCallSV_e6, vCallM_e7, vCallMV_e7, vCallS_e7, vCallSV_e7, vBad_e, vStrVal_e, vStrCod_e, vForm_e, vCallT_e0, vCallT_e1, vCallT_e2, vCopy_e, rf_0_0, rf_0_1, rf_0_2, rf_0_3, rf_0_4, rf_0_7, rf_0_10, rf_0_11, rf_0_12, rf_0_13, rf_0_14, rf_0_15, rf_0_16, rf_1_0, rf_3_0, rf_3_1, rf_6_0, rf_6_1, rf_9_0, rf_9_1, rf_9_3, rf_13_0, rf_13_1, rf_13_2, rf_16_0, rf_16_1, rf_16_2, rf_16_3, rf_21_0, rf_21_1, rf_21_2, rf_21_3, rf_26_0, rf_26_1, rf_26_2, rf_26_3, rf_26_4, rf_26_5, rf_26_6, rf_31_0, rf_31_2, rf_31_5, rf_31_6, rf_36_0, rf_36_1, rf_36_2, rf_36_3, rf_39_0, rf_39_1, rf_39_2, rf_41_0, rf_41_1, rf_41_2, rf_41_3, rf_5000_1, rf_5000_2, rf_5000_3, rf_5000_4, rf_5000_5, rf_5000_15, rf_5000_16, rf_5000_18, rf_5000_19, rf_5000_20, rf_5000_21, rf_5000_22, rf_5000_23, rf_5000_24, rf_5000_25, rf_5000_26, rf_5000_27, rf_5000_36, rf_5000_37, rf_5000_40, rf_5000_41, rf_5000_42, rf_5000_43, rf_5000_44, rf_5000_45, rf_5000_47, rf_5000_52, rf_5000_54, rf_5000_55, rf_100_0, rf_100_1, rf_103_0, rf_103_1, rf_106_0, rf_106_1, rf_109_0, rf_109_1, al_2, al_4, al_5, al_7, al_8, al_10, al_11, al_12, al_14, al_15, al_17, al_18, al_19, al_20, al_22, al_23, al_24, al_25, al_27, al_28, al_29, al_30, al_32, al_33, al_34, al_35, al_37, al_38, al_40, al_42, al_5001, al_5002, al_5003, al_5004, al_5005, al_5006, al_5007, al_5008, al_5009, al_5010, al_5011, al_5012, al_5013, al_5014, al_5015, al_5016, al_5017, al_5018, al_5019, al_5020, al_5021, al_5022, al_5023, al_5024, al_5025, al_5026, al_9000, al_101, al_102, al_104, al_105, al_107, al_108, al_110, al_111, vcs_e, lg_c0, lg_cs, lg_nil, set_c0, set_cs, okst_0, okst_s, acok_n, acok_c, List.contains_nil, List.contains_cons, Bool.or_false, Bool.false_or, Bool.false_eq_true, if_false, if_true, ite_self, ne_eq, true_and, and_true, not_false_eq_true, not_true_eq_false, false_imp_iff, true_imp_iff, Nat.ble_eq, Bool.and_eq_true, reduceCtorEq, or_false, false_or, or_true, true_or, false_and, and_false, and_self, Int.reduceLE, Int.reduceAdd, Int.reduceSub, Int.reduceMul, Int.reduceNeg, Int.reduceLT, Int.reduceEq, Int.reduceNe, Nat.reduceBEq, Nat.reduceBNe, Nat.reduceEqDiff, amCmp_in, amCmp_lt, amCmp_le, amCmp_gt, amCmp_ge, amCmp_eq, amCmp_ne, Nat.reduceLeDiff, Nat.reduceSub, Bool.and_true, Bool.true_and, Bool.and_self, Bool.or_true, Bool.true_or, isRf_3, isRf_4, isRf_5, isRf_8, isRf_9, isRf_10, isRf_11, isRf_15, isRf_16, isRf_17, isRf_18, isRf_19, isRf_20, isRf_21, isRf_22, isRf_23, isRf_24, isRf_25, isRf_26, isRf_27, isRf_28, k_X11_canFallIll_0, k_X11_canFallIll_1, k_X11_canFallIll_4, k_X11_canFallIll_5, k_X11_canFallIll_6, k_X11_canFallIll_9, k_X11_canFallIll_12, k_X11_canFallIll_13, k_X11_canFallIll_14, k_X11_canFallIll_17, k_X11_canFallIll_20, k_X11_canFallIll_21, k_X11_canFallIll_24, k_X11_canFallIll_25, w_X0_isIll_e, w_X6_has_e, up_s, up_nj, up_na, up_up, savR_o, cpy_o, fillm_o, setAud_o, setv_o, setv_s, Int.reduceNe, Int.reduceEq, Int.reduceLT, Int.reduceAdd, not_false_eq_true, ne_eq, or_true, true_or, p0]
  by_cases d2 : 0 ≤ t ∧ t < pcnt σ 6 3
  · rw [if_pos d2]
    by_cases d3 : bt (σ a 4) t = 0
    · rw [if_pos ⟨d2.1, d2.2, d3⟩] at h
      rw [if_neg (show ¬ (0 ≤ t ∧ t < 6 ∧ bt (σ a 4) t = 1) by omega)]
      repeat' (first | assumption | apply And.intro | intro _)
      all_goals first | omega | exact absurd trivial (by assumption) | exact isP6 | exact ha | exact h
    · rw [if_neg (fun q => d3 q.2.2)] at h
      rw [if_pos (show 0 ≤ t ∧ t < 6 ∧ bt (σ a 4) t = 1 by omega)]
      repeat' (first | assumption | apply And.intro | intro _)
      all_goals first | omega | exact absurd trivial (by assumption) | exact isP6 | exact ha | exact h
  · rw [if_neg d2]
    rw [if_neg (fun q => d2 ⟨q.1, q.2.1⟩)] at h
    repeat' (first | assumption | apply And.intro | intro _)
    all_goals first | omega | exact absurd trivial (by assumption) | exact isP6 | exact h
