/-! ArmchairHouse: TICKETS, GAMES, counts -/

theorem wd_327 : Cond.fieldLink RX11 93 "ArmchairHouse" "seating" "LArmchairHouse$Seating;" ∈ TBL := tb_tab (List.mem_of_getElem? (i := 327) (by decide +kernel)) rfl
theorem fl_X11_93 : amFl RX11 11 14 93 RX11 TX11 17 := ⟨rfl, inT_11, by decide, wd_327⟩
theorem wd_992 : Cond.methodLink RX11 304 yX8_best ∈ TBL := tb_tab (List.mem_of_getElem? (i := 992) (by decide +kernel)) rfl
theorem wd_995 : Cond.code yX8_best cX8_best 9 (some .long) ∈ TBL := tb_tab (List.mem_of_getElem? (i := 995) (by decide +kernel)) rfl
theorem lk_X11_304 : amLk RX11 304 yX8_best cX8_best 9 (some .long) 3 := ⟨wd_992, wd_9, wd_995, by decide +kernel, by decide +kernel, by decide⟩
theorem wd_993 : Cond.instanceMethod yX8_best ∈ TBL := tb_tab (List.mem_of_getElem? (i := 993) (by decide +kernel)) rfl
theorem wd_994 : Cond.selects RX8 yX8_best yX8_best ∈ TBL := tb_tab (List.mem_of_getElem? (i := 994) (by decide +kernel)) rfl
theorem wd_1024 : Cond.constantLong RX11 308 1152921504606846976 ∈ TBL := tb_tab (List.mem_of_getElem? (i := 1024) (by decide +kernel)) rfl
theorem wd_1025 : Cond.methodLink RX11 310 yX8_costOf ∈ TBL := tb_tab (List.mem_of_getElem? (i := 1025) (by decide +kernel)) rfl
theorem wd_1027 : Cond.code yX8_costOf cX8_costOf 2 (some .int) ∈ TBL := tb_tab (List.mem_of_getElem? (i := 1027) (by decide +kernel)) rfl
theorem lk_X11_310 : amLk RX11 310 yX8_costOf cX8_costOf 2 (some .int) 1 := ⟨wd_1025, wd_9, wd_1027, by decide +kernel, by decide +kernel, by decide⟩
theorem wd_1026 : Cond.static yX8_costOf ∈ TBL := tb_tab (List.mem_of_getElem? (i := 1026) (by decide +kernel)) rfl
theorem wd_1031 : Cond.methodLink RX11 314 yX8_rowOf ∈ TBL := tb_tab (List.mem_of_getElem? (i := 1031) (by decide +kernel)) rfl
theorem wd_1033 : Cond.code yX8_rowOf cX8_rowOf 2 (some .int) ∈ TBL := tb_tab (List.mem_of_getElem? (i := 1033) (by decide +kernel)) rfl
theorem lk_X11_314 : amLk RX11 314 yX8_rowOf cX8_rowOf 2 (some .int) 1 := ⟨wd_1031, wd_9, wd_1033, by decide +kernel, by decide +kernel, by decide⟩
theorem wd_1032 : Cond.static yX8_rowOf ∈ TBL := tb_tab (List.mem_of_getElem? (i := 1032) (by decide +kernel)) rfl
def a_X11_tickets : AC := [(0, vAload 0 1), (1, vGetR TT 27 2 22 4), (4, vI 1 5), (5, vIload 1 6), (6, vCallM w_X6_has 22 2 9), (9, vIfEq 31 12), (12, vIload 2 13), (13, vIfLt 31 16), (16, vIload 2 17), (17, vI 99 19), (19, vIcGt 31 22), (22, vIload 3 23), (23, vIfLt 31 26), (26, vIload 3 27), (27, vI 1 28), (28, vIcLe 33 31), (31, vI (-1) 32), (32, vIret), (33, vAload 0 34), (34, vGetR TT 27 14 24 37), (37, vAload 0 38), (38, vGetR TT 27 10 16 41), (41, vIload 1 42), (42, vIload 2 43), (43, vCallM w_X8_best 24 3 46), (46, vLstore 4 48), (48, vLload 4 50), (50, vL 1152921504606846976 53), (53, vLcmp 54), (54, vIfLt 59 57), (57, vI (-1) 58), (58, vIret), (59, vIload 3 60), (60, vIfNe 71 63), (63, vLload 4 65), (65, vCallS w_X8_costOf 1 68), (68, vGoto 76), (71, vLload 4 73), (73, vCallS w_X8_rowOf 1 76), (76, vIret)]
theorem k_X11_tickets_0 : look a_X11_tickets 0 = vAload 0 1 := rfl
theorem k_X11_tickets_1 : look a_X11_tickets 1 = vGetR TT 27 2 22 4 := rfl
theorem k_X11_tickets_4 : look a_X11_tickets 4 = vI 1 5 := rfl
theorem k_X11_tickets_5 : look a_X11_tickets 5 = vIload 1 6 := rfl
theorem k_X11_tickets_6 : look a_X11_tickets 6 = vCallM w_X6_has 22 2 9 := rfl
theorem k_X11_tickets_9 : look a_X11_tickets 9 = vIfEq 31 12 := rfl
theorem k_X11_tickets_12 : look a_X11_tickets 12 = vIload 2 13 := rfl
theorem k_X11_tickets_13 : look a_X11_tickets 13 = vIfLt 31 16 := rfl
theorem k_X11_tickets_16 : look a_X11_tickets 16 = vIload 2 17 := rfl
theorem k_X11_tickets_17 : look a_X11_tickets 17 = vI 99 19 := rfl
theorem k_X11_tickets_19 : look a_X11_tickets 19 = vIcGt 31 22 := rfl
theorem k_X11_tickets_22 : look a_X11_tickets 22 = vIload 3 23 := rfl
theorem k_X11_tickets_23 : look a_X11_tickets 23 = vIfLt 31 26 := rfl
theorem k_X11_tickets_26 : look a_X11_tickets 26 = vIload 3 27 := rfl
theorem k_X11_tickets_27 : look a_X11_tickets 27 = vI 1 28 := rfl
theorem k_X11_tickets_28 : look a_X11_tickets 28 = vIcLe 33 31 := rfl
theorem k_X11_tickets_31 : look a_X11_tickets 31 = vI (-1) 32 := rfl
theorem k_X11_tickets_32 : look a_X11_tickets 32 = vIret := rfl
theorem k_X11_tickets_33 : look a_X11_tickets 33 = vAload 0 34 := rfl
theorem k_X11_tickets_34 : look a_X11_tickets 34 = vGetR TT 27 14 24 37 := rfl
theorem k_X11_tickets_37 : look a_X11_tickets 37 = vAload 0 38 := rfl
theorem k_X11_tickets_38 : look a_X11_tickets 38 = vGetR TT 27 10 16 41 := rfl
theorem k_X11_tickets_41 : look a_X11_tickets 41 = vIload 1 42 := rfl
theorem k_X11_tickets_42 : look a_X11_tickets 42 = vIload 2 43 := rfl
theorem k_X11_tickets_43 : look a_X11_tickets 43 = vCallM w_X8_best 24 3 46 := rfl
theorem k_X11_tickets_46 : look a_X11_tickets 46 = vLstore 4 48 := rfl
theorem k_X11_tickets_48 : look a_X11_tickets 48 = vLload 4 50 := rfl
theorem k_X11_tickets_50 : look a_X11_tickets 50 = vL 1152921504606846976 53 := rfl
theorem k_X11_tickets_53 : look a_X11_tickets 53 = vLcmp 54 := rfl
theorem k_X11_tickets_54 : look a_X11_tickets 54 = vIfLt 59 57 := rfl
theorem k_X11_tickets_57 : look a_X11_tickets 57 = vI (-1) 58 := rfl
theorem k_X11_tickets_58 : look a_X11_tickets 58 = vIret := rfl
theorem k_X11_tickets_59 : look a_X11_tickets 59 = vIload 3 60 := rfl
theorem k_X11_tickets_60 : look a_X11_tickets 60 = vIfNe 71 63 := rfl
theorem k_X11_tickets_63 : look a_X11_tickets 63 = vLload 4 65 := rfl
theorem k_X11_tickets_65 : look a_X11_tickets 65 = vCallS w_X8_costOf 1 68 := rfl
theorem k_X11_tickets_68 : look a_X11_tickets 68 = vGoto 76 := rfl
theorem k_X11_tickets_71 : look a_X11_tickets 71 = vLload 4 73 := rfl
theorem k_X11_tickets_73 : look a_X11_tickets 73 = vCallS w_X8_rowOf 1 76 := rfl
theorem k_X11_tickets_76 : look a_X11_tickets 76 = vIret := rfl
theorem o_X11_tickets {X : amX} (e1 : XT X = TT) (e2 : XD X = 6) (hB : amB X RX11 cX11_tickets (some .int) 6) : ∀ pc, amOK X pc (look a_X11_tickets pc) := by
  have hT : amTok (XT X) := e1 ▸ TT_ok
  refine look_ok ?_
  unfold a_X11_tickets
  refine fc (ok_aload_n hB dX11_tickets_0) ?_
  refine fc (okt_getR e1 hB hT fl_X11_23 rfl af_11_2 at_11_2 (by decide) dX11_tickets_1) ?_
  refine fc (ok_iconst hB dX11_tickets_4) ?_
  refine fc (ok_iload_n hB dX11_tickets_5) ?_
  refine fc (ok_callM hB hT (e1 ▸ s_X6_has) lk_X11_174 (by rw [e2]; decide) (c := 6) rfl rfl rfl wd_729 wd_730 dX11_tickets_6) ?_
  refine fc (ok_if_eq hB (t := 31) (by decide) dX11_tickets_9) ?_
  refine fc (ok_iload_n hB dX11_tickets_12) ?_
  refine fc (ok_if_lt hB (t := 31) (by decide) dX11_tickets_13) ?_
  refine fc (ok_iload_n hB dX11_tickets_16) ?_
  refine fc (ok_bipush hB dX11_tickets_17 (by decide)) ?_
  refine fc (ok_icmp_gt hB (t := 31) (by decide) dX11_tickets_19) ?_
  refine fc (ok_iload_n hB dX11_tickets_22) ?_
  refine fc (ok_if_lt hB (t := 31) (by decide) dX11_tickets_23) ?_
  refine fc (ok_iload_n hB dX11_tickets_26) ?_
  refine fc (ok_iconst hB dX11_tickets_27) ?_
  refine fc (ok_icmp_le hB (t := 33) (by decide) dX11_tickets_28) ?_
  refine fc (ok_iconst hB dX11_tickets_31) ?_
  refine fc (ok_iret hB dX11_tickets_32) ?_
  refine fc (ok_aload_n hB dX11_tickets_33) ?_
  refine fc (okt_getR e1 hB hT fl_X11_93 rfl af_11_14 at_11_14 (by decide) dX11_tickets_34) ?_
  refine fc (ok_aload_n hB dX11_tickets_37) ?_
  refine fc (okt_getR e1 hB hT fl_X11_65 rfl af_11_10 at_11_10 (by decide) dX11_tickets_38) ?_
  refine fc (ok_iload_n hB dX11_tickets_41) ?_
  refine fc (ok_iload_n hB dX11_tickets_42) ?_
  refine fc (ok_callM hB hT (e1 ▸ s_X8_best) lk_X11_304 (by rw [e2]; decide) (c := 8) rfl rfl rfl wd_993 wd_994 dX11_tickets_43) ?_
  refine fc (ok_lstore hB (by decide) dX11_tickets_46) ?_
  refine fc (ok_lload hB dX11_tickets_48) ?_
  refine fc (ok_ldc2 hB wd_1024 rfl dX11_tickets_50) ?_
  refine fc (ok_lcmp hB dX11_tickets_53) ?_
  refine fc (ok_if_lt hB (t := 59) (by decide) dX11_tickets_54) ?_
  refine fc (ok_iconst hB dX11_tickets_57) ?_
  refine fc (ok_iret hB dX11_tickets_58) ?_
  refine fc (ok_iload_n hB dX11_tickets_59) ?_
  refine fc (ok_if_ne hB (t := 71) (by decide) dX11_tickets_60) ?_
  refine fc (ok_lload hB dX11_tickets_63) ?_
  refine fc (ok_callS hB (e1 ▸ s_X8_costOf) lk_X11_310 (by rw [e2]; decide) wd_1026 dX11_tickets_65) ?_
  refine fc (ok_goto hB (t := 76) (by decide) dX11_tickets_68) ?_
  refine fc (ok_lload hB dX11_tickets_71) ?_
  refine fc (ok_callS hB (e1 ▸ s_X8_rowOf) lk_X11_314 (by rw [e2]; decide) wd_1032 dX11_tickets_73) ?_
  refine fc (ok_iret hB dX11_tickets_76) ?_
  exact fn

def w_X11_tickets : WP := fun av σ Q => ∃ (p : Int) (v : Int) (w : Int), av = [(27, 0), (0, p), (0, v), (0, w)] ∧ (InR p ∧ InR v ∧ InR w ∧ xS σ ∧ (0 < pcnt σ 6 1 → 1 ≤ pcnt σ 6 2) ∧ (¬ (0 ≤ p ∧ p < pcnt σ 6 1 ∧ 0 ≤ v ∧ v ≤ 99 ∧ 0 ≤ w ∧ w ≤ 1) → Q (0, -1) σ) ∧
(0 ≤ p ∧ p < pcnt σ 6 1 ∧ 0 ≤ v ∧ v ≤ 99 ∧ 0 ≤ w ∧ w ≤ 1 → ∀ τ B, SW σ τ → dpC σ p v (2 ^ (pcnt σ 6 2).toNat - 1) (pcnt σ 6 3).toNat B → (B (2 ^ (pcnt σ 6 2).toNat - 1) < 1152921504606846976 → 0 ≤ B (2 ^ (pcnt σ 6 2).toNat - 1) ∧ B (2 ^ (pcnt σ 6 2).toNat - 1) ≤ 1000000000000) ∧ Q (0, if 1152921504606846976 ≤ B (2 ^ (pcnt σ 6 2).toNat - 1) then -1 else if w = 0 then B (2 ^ (pcnt σ 6 2).toNat - 1) / 1000000 else B (2 ^ (pcnt σ 6 2).toNat - 1) % 1000000) τ))
theorem w_X11_tickets_e (p : Int) (v : Int) (w : Int) (σ : Mem) (Q : AV → Mem → Prop) : w_X11_tickets [(27, 0), (0, p), (0, v), (0, w)] σ Q = (InR p ∧ InR v ∧ InR w ∧ xS σ ∧ (0 < pcnt σ 6 1 → 1 ≤ pcnt σ 6 2) ∧ (¬ (0 ≤ p ∧ p < pcnt σ 6 1 ∧ 0 ≤ v ∧ v ≤ 99 ∧ 0 ≤ w ∧ w ≤ 1) → Q (0, -1) σ) ∧
(0 ≤ p ∧ p < pcnt σ 6 1 ∧ 0 ≤ v ∧ v ≤ 99 ∧ 0 ≤ w ∧ w ≤ 1 → ∀ τ B, SW σ τ → dpC σ p v (2 ^ (pcnt σ 6 2).toNat - 1) (pcnt σ 6 3).toNat B → (B (2 ^ (pcnt σ 6 2).toNat - 1) < 1152921504606846976 → 0 ≤ B (2 ^ (pcnt σ 6 2).toNat - 1) ∧ B (2 ^ (pcnt σ 6 2).toNat - 1) ≤ 1000000000000) ∧ Q (0, if 1152921504606846976 ≤ B (2 ^ (pcnt σ 6 2).toNat - 1) then -1 else if w = 0 then B (2 ^ (pcnt σ 6 2).toNat - 1) / 1000000 else B (2 ^ (pcnt σ 6 2).toNat - 1) % 1000000) τ)) := by
  apply propext; constructor
  · rintro ⟨p', v', w', h9, hb9⟩; cases h9; exact hb9
  · intro hb9; exact ⟨p, v, w, rfl, hb9⟩

set_option maxRecDepth 100000 in
set_option maxHeartbeats 4000000 in
theorem s_X11_tickets : ∀ av σ Q, w_X11_tickets av σ Q → amCall 6 0 0 TT yX11_tickets cX11_tickets 6 (some .int) av σ Q := by
  rintro av σ Q ⟨p, v, w, rfl, hp, hv, hw, ⟨hst, hse, h9, hsi⟩, hc, h1, h2⟩
  have hB := hst.2.1
  have c1 := pcnt_b hB 1
  have c2 := pcnt_b hB 2
  have c3 := pcnt_b hB 3
  have h9p := h9 p
  have fl := full_64 (n := (pcnt σ 6 2).toNat) (by omega)
  refine am_m0 (own := RX11) (A := look a_X11_tickets) (fun X e1 e2 hB => o_X11_tickets e1 e2 hB) rfl (by decide +kernel) rfl rfl 190 (w := 6) ?_
  change vcs _ _ _ _ 190 0 [(27, 0), (0, p), (0, v), (0, w), (6, 0), (6, 0)] [] σ
  simp only [↓reduceIte, inR_0, inR_1, inR_m, vSw2_e, swP_n, swP_c, vI_e, vL_e, vNull_e, vIload_e, vLload_e, vAload_e, vIstore_e, vLstore_e, vAstore_e, vIinc_e, vIadd_e, vIsub_e, vImul_e, vIand_e, vIor_e, vIxor_e, vIshl_e, vIshr_e, vIushr_e, vIdiv_e, vIrem_e, vLadd_e, vLsub_e, vLmul_e, vLand_e, vLor_e, vLxor_e, vLdiv_e, vLrem_e, vLushr_e, vLshl_e, vLcmp_e, vIneg_e, vI2l_e, vL2i_e, vI2b_e, vI2c_e, vDup_e, vPop_e, vDup2_e, vGoto_e, vIcEq_e, vIfEq_e, vIcNe_e, vIfNe_e, vIcLt_e, vIfLt_e, vIcGe_e, vIfGe_e, vIcGt_e, vIfGt_e, vIcLe_e, vIfLe_e, vNonnull_e, vSw_e, vGetI_e, vGetL_e, vGetR_e, vPutI_e, vPutZ_e, vPutL_e, vPutR_e, vIald_e, vIald_s, vLald_e, vBald_e, vBald_s, vAald_e, vIast_e, vLast_e, vBast_e, vAast_e, vAlen_e8, vAlen_e9, vAlen_e10, vAlen_e11, vAlen_e5, vAlen_e3, vGets_e, vCompact_e, vLdcS_e, vIret_e, vZret_e, vCret_e, vBret_e, vLret_e, vVret_e, vAret_e, vCallM_e0, vCallMV_e0, vCallS_e0, vCallSV_e0, vCallM_e1, vCallMV_e1, vCallS_e1, vCallSV_e1, vCallM_e2, vCallMV_e2, vCallS_e2, vCallSV_e2, vCallM_e3, vCallMV_e3, vCallS_e3, vCallSV_e3, vCallM_e4, vCallMV_e4, vCallS_e4, vCallSV_e4, vCallM_e5, vCallMV_e5, vCallS_e5, vCallSV_e5, vCallM_e6, vCallMV_e6, vCallS_e6, vCallSV_e6, vCallM_e7, vCallMV_e7, vCallS_e7, vCallSV_e7, vBad_e, vStrVal_e, vStrCod_e, vForm_e, vCallT_e0, vCallT_e1, vCallT_e2, vCopy_e, rf_0_0, rf_0_1, rf_0_2, rf_0_3, rf_0_4, rf_0_7, rf_0_10, rf_0_11, rf_0_12, rf_0_13, rf_0_14, rf_0_15, rf_0_16, rf_1_0, rf_3_0, rf_3_1, rf_6_0, rf_6_1, rf_9_0, rf_9_1, rf_9_3, rf_13_0, rf_13_1, rf_13_2, rf_16_0, rf_16_1, rf_16_2, rf_16_3, rf_21_0, rf_21_1, rf_21_2, rf_21_3, rf_26_0, rf_26_1, rf_26_2, rf_26_3, rf_26_4, rf_26_5, rf_26_6, rf_31_0, rf_31_2, rf_31_5, rf_31_6, rf_36_0, rf_36_1, rf_36_2, rf_36_3, rf_39_0, rf_39_1, rf_39_2, rf_41_0, rf_41_1, rf_41_2, rf_41_3, rf_5000_1, rf_5000_2, rf_5000_3, rf_5000_4, rf_5000_5, rf_5000_15, rf_5000_16, rf_5000_18, rf_5000_19, rf_5000_20, rf_5000_21, rf_5000_22, rf_5000_23, rf_5000_24, rf_5000_25, rf_5000_26, rf_5000_27, rf_5000_36, rf_5000_37, rf_5000_40, rf_5000_41, rf_5000_42, rf_5000_43, rf_5000_44, rf_5000_45, rf_5000_47, rf_5000_52, rf_5000_54, rf_5000_55, rf_100_0, rf_100_1, rf_103_0, rf_103_1, rf_106_0, rf_106_1, rf_109_0, rf_109_1, al_2, al_4, al_5, al_7, al_8, al_10, al_11, al_12, al_14, al_15, al_17, al_18, al_19, al_20, al_22, al_23, al_24, al_25, al_27, al_28, al_29, al_30, al_32, al_33, al_34, al_35, al_37, al_38, al_40, al_42, al_5001, al_5002, al_5003, al_5004, al_5005, al_5006, al_5007, al_5008, al_5009, al_5010, al_5011, al_5012, al_5013, al_5014, al_5015, al_5016, al_5017, al_5018, al_5019, al_5020, al_5021, al_5022, al_5023, al_5024, al_5025, al_5026, al_9000, al_101, al_102, al_104, al_105, al_107, al_108, al_110, al_111, vcs_e, lg_c0, lg_cs, lg_nil, set_c0, set_cs, okst_0, okst_s, acok_n, acok_c, List.contains_nil, List.contains_cons, Bool.or_false, Bool.false_or, Bool.false_eq_true, if_false, if_true, ite_self, ne_eq, true_and, and_true, not_false_eq_true, not_true_eq_false, false_imp_iff, true_imp_iff, Nat.ble_eq, Bool.and_eq_true, reduceCtorEq, or_false, false_or, or_true, true_or, false_and, and_false, and_self, Int.reduceLE, Int.reduceAdd, Int.reduceSub, Int.reduceMul, Int.reduceNeg, Int.reduceLT, Int.reduceEq, Int.reduceNe, Nat.reduceBEq, Nat.reduceBNe, Nat.reduceEqDiff, amCmp_in, amCmp_lt, amCmp_le, amCmp_gt, amCmp_ge, amCmp_eq, amCmp_ne, Nat.reduceLeDiff, Nat.reduceSub, Bool.and_true, Bool.true_and, Bool.and_self, Bool.or_true, Bool.true_or, isRf_3, isRf_4, isRf_5, isRf_8, isRf_9, isRf_10, isRf_11, isRf_15, isRf_16, isRf_17, isRf_18, isRf_19, isRf_20, isRf_21, isRf_22, isRf_23, isRf_24, isRf_25, isRf_26, isRf_27, isRf_28, k_X11_tickets_0, k_X11_tickets_1, k_X11_tickets_4, k_X11_tickets_5, k_X11_tickets_6, k_X11_tickets_9, k_X11_tickets_12, k_X11_tickets_13, k_X11_tickets_16, k_X11_tickets_17, k_X11_tickets_19, k_X11_tickets_22, k_X11_tickets_23, k_X11_tickets_26, k_X11_tickets_27, k_X11_tickets_28, k_X11_tickets_31, k_X11_tickets_32, k_X11_tickets_33, k_X11_tickets_34, k_X11_tickets_37, k_X11_tickets_38, k_X11_tickets_41, k_X11_tickets_42, k_X11_tickets_43, k_X11_tickets_46, k_X11_tickets_48, k_X11_tickets_50, k_X11_tickets_53, k_X11_tickets_54, k_X11_tickets_57, k_X11_tickets_58, k_X11_tickets_59, k_X11_tickets_60, k_X11_tickets_63, k_X11_tickets_65, k_X11_tickets_68, k_X11_tickets_71, k_X11_tickets_73, k_X11_tickets_76, w_X6_has_e, w_X8_best_e, w_X8_costOf_e, w_X8_rowOf_e, up_s, up_nj, up_na, up_up, savR_o, cpy_o, fillm_o, setAud_o, setv_o, setv_s, Int.reduceNe, Int.reduceEq, Int.reduceLT, Int.reduceAdd, not_false_eq_true, ne_eq, or_true, true_or]
  by_cases d2 : 0 ≤ p ∧ p < pcnt σ 6 1
  · rw [if_pos d2]
    have hc1 := hc (by omega)
    by_cases d3 : 0 ≤ v ∧ v ≤ 99 ∧ 0 ≤ w ∧ w ≤ 1
    · have hh := h2 ⟨d2.1, d2.2, d3⟩
      have key : ∀ τ B, SW σ τ → dpC σ p v (2 ^ (pcnt σ 6 2).toNat - 1) (pcnt σ 6 3).toNat B → (InL (B (2 ^ (pcnt σ 6 2).toNat - 1))) ∧ (1152921504606846976 ≤ B (2 ^ (pcnt σ 6 2).toNat - 1) → Q (0, -1) τ) ∧ (B (2 ^ (pcnt σ 6 2).toNat - 1) < 1152921504606846976 → (-1000000000000000 ≤ B (2 ^ (pcnt σ 6 2).toNat - 1) ∧ B (2 ^ (pcnt σ 6 2).toNat - 1) ≤ 1000000000000000) ∧ (w = 0 → Q (0, B (2 ^ (pcnt σ 6 2).toNat - 1) / 1000000) τ) ∧ (w ≠ 0 → Q (0, B (2 ^ (pcnt σ 6 2).toNat - 1) % 1000000) τ)) := fun τ B q1 q2 => by
        have hb := dpC_b hB h9p (by omega) (pcnt σ 6 3).toNat (by omega) B q2 (2 ^ (pcnt σ 6 2).toNat - 1) fl.1 fl.2
        obtain ⟨g1, g2⟩ := hh τ B q1 q2
        generalize B (2 ^ (pcnt σ 6 2).toNat - 1) = b at *
        refine ⟨⟨by omega, by omega⟩, fun g => by rw [if_pos g] at g2; exact g2, fun g => ?_⟩
        rw [if_neg (by omega)] at g2
        have := g1 g
        exact ⟨by omega, fun g => by rw [if_pos g] at g2; exact g2, fun g => by rw [if_neg g] at g2; exact g2⟩
      repeat' (first | assumption | apply And.intro | intro _)
      all_goals first | omega | exact absurd trivial (by assumption) | exact isP6 | exact h1 (by omega) | exact (key _ _ (by assumption) (by assumption)).1.1 | exact (key _ _ (by assumption) (by assumption)).1.2 | exact (key _ _ (by assumption) (by assumption)).2.1 (by omega) | exact ((key _ _ (by assumption) (by assumption)).2.2 (by omega)).1.1 | exact ((key _ _ (by assumption) (by assumption)).2.2 (by omega)).1.2 | exact ((key _ _ (by assumption) (by assumption)).2.2 (by omega)).2.1 (by omega) | exact ((key _ _ (by assumption) (by assumption)).2.2 (by omega)).2.2 (by omega)
    · have hh := h1 (fun q => d3 q.2.2)
      repeat' (first | assumption | apply And.intro | intro _)
      all_goals first | omega | exact absurd trivial (by assumption) | exact isP6 | exact hh
  · rw [if_neg d2]
    repeat' (first | assumption | apply And.intro | intro _)
    all_goals first | omega | exact absurd trivial (by assumption) | exact isP6 | exact h1 (by omega)
def a_X11_most : AC := [(0, vAload 0 1), (1, vGetR TT 27 2 22 4), (4, vI 1 5), (5, vIload 1 6), (6, vCallM w_X6_has 22 2 9), (9, vIfEq 21 12), (12, vIload 2 13), (13, vIfLt 21 16), (16, vIload 2 17), (17, vI 1 18), (18, vIcLe 23 21), (21, vI (-1) 22), (22, vIret), (23, vAload 0 24), (24, vGetR TT 27 14 24 27), (27, vAload 0 28), (28, vGetR TT 27 10 16 31), (31, vIload 1 32), (32, vI (-1) 33), (33, vCallM w_X8_best 24 3 36), (36, vLstore 3 37), (37, vIload 2 38), (38, vIfNe 48 41), (41, vLload 3 42), (42, vCallS w_X8_rowOf 1 45), (45, vGoto 53), (48, vLload 3 49), (49, vCallS w_X8_costOf 1 52), (52, vIneg 53), (53, vIret)]
theorem k_X11_most_0 : look a_X11_most 0 = vAload 0 1 := rfl
theorem k_X11_most_1 : look a_X11_most 1 = vGetR TT 27 2 22 4 := rfl
theorem k_X11_most_4 : look a_X11_most 4 = vI 1 5 := rfl
theorem k_X11_most_5 : look a_X11_most 5 = vIload 1 6 := rfl
theorem k_X11_most_6 : look a_X11_most 6 = vCallM w_X6_has 22 2 9 := rfl
theorem k_X11_most_9 : look a_X11_most 9 = vIfEq 21 12 := rfl
theorem k_X11_most_12 : look a_X11_most 12 = vIload 2 13 := rfl
theorem k_X11_most_13 : look a_X11_most 13 = vIfLt 21 16 := rfl
theorem k_X11_most_16 : look a_X11_most 16 = vIload 2 17 := rfl
theorem k_X11_most_17 : look a_X11_most 17 = vI 1 18 := rfl
theorem k_X11_most_18 : look a_X11_most 18 = vIcLe 23 21 := rfl
theorem k_X11_most_21 : look a_X11_most 21 = vI (-1) 22 := rfl
theorem k_X11_most_22 : look a_X11_most 22 = vIret := rfl
theorem k_X11_most_23 : look a_X11_most 23 = vAload 0 24 := rfl
theorem k_X11_most_24 : look a_X11_most 24 = vGetR TT 27 14 24 27 := rfl
theorem k_X11_most_27 : look a_X11_most 27 = vAload 0 28 := rfl
theorem k_X11_most_28 : look a_X11_most 28 = vGetR TT 27 10 16 31 := rfl
theorem k_X11_most_31 : look a_X11_most 31 = vIload 1 32 := rfl
theorem k_X11_most_32 : look a_X11_most 32 = vI (-1) 33 := rfl
theorem k_X11_most_33 : look a_X11_most 33 = vCallM w_X8_best 24 3 36 := rfl
theorem k_X11_most_36 : look a_X11_most 36 = vLstore 3 37 := rfl
theorem k_X11_most_37 : look a_X11_most 37 = vIload 2 38 := rfl
theorem k_X11_most_38 : look a_X11_most 38 = vIfNe 48 41 := rfl
theorem k_X11_most_41 : look a_X11_most 41 = vLload 3 42 := rfl
theorem k_X11_most_42 : look a_X11_most 42 = vCallS w_X8_rowOf 1 45 := rfl
theorem k_X11_most_45 : look a_X11_most 45 = vGoto 53 := rfl
theorem k_X11_most_48 : look a_X11_most 48 = vLload 3 49 := rfl
theorem k_X11_most_49 : look a_X11_most 49 = vCallS w_X8_costOf 1 52 := rfl
theorem k_X11_most_52 : look a_X11_most 52 = vIneg 53 := rfl
theorem k_X11_most_53 : look a_X11_most 53 = vIret := rfl
theorem o_X11_most {X : amX} (e1 : XT X = TT) (e2 : XD X = 6) (hB : amB X RX11 cX11_most (some .int) 5) : ∀ pc, amOK X pc (look a_X11_most pc) := by
  have hT : amTok (XT X) := e1 ▸ TT_ok
  refine look_ok ?_
  unfold a_X11_most
  refine fc (ok_aload_n hB dX11_most_0) ?_
  refine fc (okt_getR e1 hB hT fl_X11_23 rfl af_11_2 at_11_2 (by decide) dX11_most_1) ?_
  refine fc (ok_iconst hB dX11_most_4) ?_
  refine fc (ok_iload_n hB dX11_most_5) ?_
  refine fc (ok_callM hB hT (e1 ▸ s_X6_has) lk_X11_174 (by rw [e2]; decide) (c := 6) rfl rfl rfl wd_729 wd_730 dX11_most_6) ?_
  refine fc (ok_if_eq hB (t := 21) (by decide) dX11_most_9) ?_
  refine fc (ok_iload_n hB dX11_most_12) ?_
  refine fc (ok_if_lt hB (t := 21) (by decide) dX11_most_13) ?_
  refine fc (ok_iload_n hB dX11_most_16) ?_
  refine fc (ok_iconst hB dX11_most_17) ?_
  refine fc (ok_icmp_le hB (t := 23) (by decide) dX11_most_18) ?_
  refine fc (ok_iconst hB dX11_most_21) ?_
  refine fc (ok_iret hB dX11_most_22) ?_
  refine fc (ok_aload_n hB dX11_most_23) ?_
  refine fc (okt_getR e1 hB hT fl_X11_93 rfl af_11_14 at_11_14 (by decide) dX11_most_24) ?_
  refine fc (ok_aload_n hB dX11_most_27) ?_
  refine fc (okt_getR e1 hB hT fl_X11_65 rfl af_11_10 at_11_10 (by decide) dX11_most_28) ?_
  refine fc (ok_iload_n hB dX11_most_31) ?_
  refine fc (ok_iconst hB dX11_most_32) ?_
  refine fc (ok_callM hB hT (e1 ▸ s_X8_best) lk_X11_304 (by rw [e2]; decide) (c := 8) rfl rfl rfl wd_993 wd_994 dX11_most_33) ?_
  refine fc (ok_lstore_n hB (by decide) dX11_most_36) ?_
  refine fc (ok_iload_n hB dX11_most_37) ?_
  refine fc (ok_if_ne hB (t := 48) (by decide) dX11_most_38) ?_
  refine fc (ok_lload_n hB dX11_most_41) ?_
  refine fc (ok_callS hB (e1 ▸ s_X8_rowOf) lk_X11_314 (by rw [e2]; decide) wd_1032 dX11_most_42) ?_
  refine fc (ok_goto hB (t := 53) (by decide) dX11_most_45) ?_
  refine fc (ok_lload_n hB dX11_most_48) ?_
  refine fc (ok_callS hB (e1 ▸ s_X8_costOf) lk_X11_310 (by rw [e2]; decide) wd_1026 dX11_most_49) ?_
  refine fc (ok_ineg hB dX11_most_52) ?_
  refine fc (ok_iret hB dX11_most_53) ?_
  exact fn

def w_X11_most : WP := fun av σ Q => ∃ (p : Int) (w : Int), av = [(27, 0), (0, p), (0, w)] ∧ (InR p ∧ InR w ∧ xS σ ∧ (0 < pcnt σ 6 1 → 1 ≤ pcnt σ 6 2) ∧ (¬ (0 ≤ p ∧ p < pcnt σ 6 1 ∧ 0 ≤ w ∧ w ≤ 1) → Q (0, -1) σ) ∧
(0 ≤ p ∧ p < pcnt σ 6 1 ∧ 0 ≤ w ∧ w ≤ 1 → ∀ τ B, SW σ τ → dpC σ p (-1) (2 ^ (pcnt σ 6 2).toNat - 1) (pcnt σ 6 3).toNat B → (-1000000000000 ≤ B (2 ^ (pcnt σ 6 2).toNat - 1) ∧ B (2 ^ (pcnt σ 6 2).toNat - 1) ≤ 1000000000000) ∧ Q (0, if w = 0 then B (2 ^ (pcnt σ 6 2).toNat - 1) % 1000000 else -(B (2 ^ (pcnt σ 6 2).toNat - 1) / 1000000)) τ))
theorem w_X11_most_e (p : Int) (w : Int) (σ : Mem) (Q : AV → Mem → Prop) : w_X11_most [(27, 0), (0, p), (0, w)] σ Q = (InR p ∧ InR w ∧ xS σ ∧ (0 < pcnt σ 6 1 → 1 ≤ pcnt σ 6 2) ∧ (¬ (0 ≤ p ∧ p < pcnt σ 6 1 ∧ 0 ≤ w ∧ w ≤ 1) → Q (0, -1) σ) ∧
(0 ≤ p ∧ p < pcnt σ 6 1 ∧ 0 ≤ w ∧ w ≤ 1 → ∀ τ B, SW σ τ → dpC σ p (-1) (2 ^ (pcnt σ 6 2).toNat - 1) (pcnt σ 6 3).toNat B → (-1000000000000 ≤ B (2 ^ (pcnt σ 6 2).toNat - 1) ∧ B (2 ^ (pcnt σ 6 2).toNat - 1) ≤ 1000000000000) ∧ Q (0, if w = 0 then B (2 ^ (pcnt σ 6 2).toNat - 1) % 1000000 else -(B (2 ^ (pcnt σ 6 2).toNat - 1) / 1000000)) τ)) := by
  apply propext; constructor
  · rintro ⟨p', w', h9, hb9⟩; cases h9; exact hb9
  · intro hb9; exact ⟨p, w, rfl, hb9⟩

set_option maxRecDepth 100000 in
set_option maxHeartbeats 4000000 in
theorem s_X11_most : ∀ av σ Q, w_X11_most av σ Q → amCall 6 0 0 TT yX11_most cX11_most 5 (some .int) av σ Q := by
  rintro av σ Q ⟨p, w, rfl, hp, hw, ⟨hst, hse, h9, hsi⟩, hc, h1, h2⟩
  have hB := hst.2.1
  have c1 := pcnt_b hB 1
  have c2 := pcnt_b hB 2
  have h9p := h9 p
  refine am_m0 (own := RX11) (A := look a_X11_most) (fun X e1 e2 hB => o_X11_most e1 e2 hB) rfl (by decide +kernel) rfl rfl 190 (w := 5) ?_
  change vcs _ _ _ _ 190 0 [(27, 0), (0, p), (0, w), (6, 0), (6, 0)] [] σ
  simp only [↓reduceIte, inR_0, inR_1, inR_m, vSw2_e, swP_n, swP_c, vI_e, vL_e, vNull_e, vIload_e, vLload_e, vAload_e, vIstore_e, vLstore_e, vAstore_e, vIinc_e, vIadd_e, vIsub_e, vImul_e, vIand_e, vIor_e, vIxor_e, vIshl_e, vIshr_e, vIushr_e, vIdiv_e, vIrem_e, vLadd_e, vLsub_e, vLmul_e, vLand_e, vLor_e, vLxor_e, vLdiv_e, vLrem_e, vLushr_e, vLshl_e, vLcmp_e, vIneg_e, vI2l_e, vL2i_e, vI2b_e, vI2c_e, vDup_e, vPop_e, vDup2_e, vGoto_e, vIcEq_e, vIfEq_e, vIcNe_e, vIfNe_e, vIcLt_e, vIfLt_e, vIcGe_e, vIfGe_e, vIcGt_e, vIfGt_e, vIcLe_e, vIfLe_e, vNonnull_e, vSw_e, vGetI_e, vGetL_e, vGetR_e, vPutI_e, vPutZ_e, vPutL_e, vPutR_e, vIald_e, vIald_s, vLald_e, vBald_e, vBald_s, vAald_e, vIast_e, vLast_e, vBast_e, vAast_e, vAlen_e8, vAlen_e9, vAlen_e10, vAlen_e11, vAlen_e5, vAlen_e3, vGets_e, vCompact_e, vLdcS_e, vIret_e, vZret_e, vCret_e, vBret_e, vLret_e, vVret_e, vAret_e, vCallM_e0, vCallMV_e0, vCallS_e0, vCallSV_e0, vCallM_e1, vCallMV_e1, vCallS_e1, vCallSV_e1, vCallM_e2, vCallMV_e2, vCallS_e2, vCallSV_e2, vCallM_e3, vCallMV_e3, vCallS_e3, vCallSV_e3, vCallM_e4, vCallMV_e4, vCallS_e4, vCallSV_e4, vCallM_e5, vCallMV_e5, vCallS_e5, vCallSV_e5, vCallM_e6, vCallMV_e6, vCallS_e6, vCallSV_e6, vCallM_e7, vCallMV_e7, vCallS_e7, vCallSV_e7, vBad_e, vStrVal_e, vStrCod_e, vForm_e, vCallT_e0, vCallT_e1, vCallT_e2, vCopy_e, rf_0_0, rf_0_1, rf_0_2, rf_0_3, rf_0_4, rf_0_7, rf_0_10, rf_0_11, rf_0_12, rf_0_13, rf_0_14, rf_0_15, rf_0_16, rf_1_0, rf_3_0, rf_3_1, rf_6_0, rf_6_1, rf_9_0, rf_9_1, rf_9_3, rf_13_0, rf_13_1, rf_13_2, rf_16_0, rf_16_1, rf_16_2, rf_16_3, rf_21_0, rf_21_1, rf_21_2, rf_21_3, rf_26_0, rf_26_1, rf_26_2, rf_26_3, rf_26_4, rf_26_5, rf_26_6, rf_31_0, rf_31_2, rf_31_5, rf_31_6, rf_36_0, rf_36_1, rf_36_2, rf_36_3, rf_39_0, rf_39_1, rf_39_2, rf_41_0, rf_41_1, rf_41_2, rf_41_3, rf_5000_1, rf_5000_2, rf_5000_3, rf_5000_4, rf_5000_5, rf_5000_15, rf_5000_16, rf_5000_18, rf_5000_19, rf_5000_20, rf_5000_21, rf_5000_22, rf_5000_23, rf_5000_24, rf_5000_25, rf_5000_26, rf_5000_27, rf_5000_36, rf_5000_37, rf_5000_40, rf_5000_41, rf_5000_42, rf_5000_43, rf_5000_44, rf_5000_45, rf_5000_47, rf_5000_52, rf_5000_54, rf_5000_55, rf_100_0, rf_100_1, rf_103_0, rf_103_1, rf_106_0, rf_106_1, rf_109_0, rf_109_1, al_2, al_4, al_5, al_7, al_8, al_10, al_11, al_12, al_14, al_15, al_17, al_18, al_19, al_20, al_22, al_23, al_24, al_25, al_27, al_28, al_29, al_30, al_32, al_33, al_34, al_35, al_37, al_38, al_40, al_42, al_5001, al_5002, al_5003, al_5004, al_5005, al_5006, al_5007, al_5008, al_5009, al_5010, al_5011, al_5012, al_5013, al_5014, al_5015, al_5016, al_5017, al_5018, al_5019, al_5020, al_5021, al_5022, al_5023, al_5024, al_5025, al_5026, al_9000, al_101, al_102, al_104, al_105, al_107, al_108, al_110, al_111, vcs_e, lg_c0, lg_cs, lg_nil, set_c0, set_cs, okst_0, okst_s, acok_n, acok_c, List.contains_nil, List.contains_cons, Bool.or_false, Bool.false_or, Bool.false_eq_true, if_false, if_true, ite_self, ne_eq, true_and, and_true, not_false_eq_true, not_true_eq_false, false_imp_iff, true_imp_iff, Nat.ble_eq, Bool.and_eq_true, reduceCtorEq, or_false, false_or, or_true, true_or, false_and, and_false, and_self, Int.reduceLE, Int.reduceAdd, Int.reduceSub, Int.reduceMul, Int.reduceNeg, Int.reduceLT, Int.reduceEq, Int.reduceNe, Nat.reduceBEq, Nat.reduceBNe, Nat.reduceEqDiff, amCmp_in, amCmp_lt, amCmp_le, amCmp_gt, amCmp_ge, amCmp_eq, amCmp_ne, Nat.reduceLeDiff, Nat.reduceSub, Bool.and_true, Bool.true_and, Bool.and_self, Bool.or_true, Bool.true_or, isRf_3, isRf_4, isRf_5, isRf_8, isRf_9, isRf_10, isRf_11, isRf_15, isRf_16, isRf_17, isRf_18, isRf_19, isRf_20, isRf_21, isRf_22, isRf_23, isRf_24, isRf_25, isRf_26, isRf_27, isRf_28, k_X11_most_0, k_X11_most_1, k_X11_most_4, k_X11_most_5, k_X11_most_6, k_X11_most_9, k_X11_most_12, k_X11_most_13, k_X11_most_16, k_X11_most_17, k_X11_most_18, k_X11_most_21, k_X11_most_22, k_X11_most_23, k_X11_most_24, k_X11_most_27, k_X11_most_28, k_X11_most_31, k_X11_most_32, k_X11_most_33, k_X11_most_36, k_X11_most_37, k_X11_most_38, k_X11_most_41, k_X11_most_42, k_X11_most_45, k_X11_most_48, k_X11_most_49, k_X11_most_52, k_X11_most_53, w_X6_has_e, w_X8_best_e, w_X8_costOf_e, w_X8_rowOf_e, up_s, up_nj, up_na, up_up, savR_o, cpy_o, fillm_o, setAud_o, setv_o, setv_s, Int.reduceNe, Int.reduceEq, Int.reduceLT, Int.reduceAdd, not_false_eq_true, ne_eq, or_true, true_or]
  by_cases d2 : 0 ≤ p ∧ p < pcnt σ 6 1
  · rw [if_pos d2]
    have hc1 := hc (by omega)
    by_cases d3 : 0 ≤ w ∧ w ≤ 1
    · have hh := h2 ⟨d2.1, d2.2, d3⟩
      have key : ∀ τ B, SW σ τ → dpC σ p (-1) (2 ^ (pcnt σ 6 2).toNat - 1) (pcnt σ 6 3).toNat B → (-1000000000000000 ≤ B (2 ^ (pcnt σ 6 2).toNat - 1) ∧ B (2 ^ (pcnt σ 6 2).toNat - 1) ≤ 1000000000000000) ∧ (w = 0 → Q (0, B (2 ^ (pcnt σ 6 2).toNat - 1) % 1000000) τ) ∧ (w ≠ 0 → Q (0, -(B (2 ^ (pcnt σ 6 2).toNat - 1) / 1000000)) τ) := fun τ B q1 q2 => by
        obtain ⟨g1, g2⟩ := hh τ B q1 q2
        exact ⟨by omega, fun g => by rw [if_pos g] at g2; exact g2, fun g => by rw [if_neg g] at g2; exact g2⟩
      repeat' (first | assumption | apply And.intro | intro _)
      all_goals first | omega | exact absurd trivial (by assumption) | exact isP6 | exact h1 (by omega) | exact (key _ _ (by assumption) (by assumption)).1.1 | exact (key _ _ (by assumption) (by assumption)).1.2 | exact (key _ _ (by assumption) (by assumption)).2.1 (by omega) | exact (key _ _ (by assumption) (by assumption)).2.2 (by omega)
    · have hh := h1 (fun q => d3 q.2.2)
      repeat' (first | assumption | apply And.intro | intro _)
      all_goals first | omega | exact absurd trivial (by assumption) | exact isP6 | exact hh
  · rw [if_neg d2]
    repeat' (first | assumption | apply And.intro | intro _)
    all_goals first | omega | exact absurd trivial (by assumption) | exact isP6 | exact h1 (by omega)
theorem wd_1096 : Cond.methodLink RX11 334 yX11_canMatch ∈ TBL := tb_tab (List.mem_of_getElem? (i := 1096) (by decide +kernel)) rfl
theorem wd_1099 : Cond.code yX11_canMatch cX11_canMatch 4 (some .boolean) ∈ TBL := tb_tab (List.mem_of_getElem? (i := 1099) (by decide +kernel)) rfl
theorem lk_X11_334 : amLk RX11 334 yX11_canMatch cX11_canMatch 4 (some .boolean) 3 := ⟨wd_1096, wd_1, wd_1099, by decide +kernel, by decide +kernel, by decide⟩
theorem wd_1098 : Cond.instanceMethod yX11_canMatch ∈ TBL := tb_tab (List.mem_of_getElem? (i := 1098) (by decide +kernel)) rfl
theorem sl_X11_canMatch : Cond.selects RX11 yX11_canMatch yX11_canMatch ∈ TBL := tb_sel (List.mem_of_getElem? (i := 37) (by decide +kernel)) rfl
theorem wd_328 : Cond.fieldLink RX11 100 "ArmchairHouse" "match" "LArmchairHouse$Match;" ∈ TBL := tb_tab (List.mem_of_getElem? (i := 328) (by decide +kernel)) rfl
theorem fl_X11_100 : amFl RX11 11 15 100 RX11 TX11 17 := ⟨rfl, inT_11, by decide, wd_328⟩
theorem wd_1100 : Cond.methodLink RX11 338 yX4_prepare ∈ TBL := tb_tab (List.mem_of_getElem? (i := 1100) (by decide +kernel)) rfl
theorem wd_1103 : Cond.code yX4_prepare cX4_prepare 8 (none) ∈ TBL := tb_tab (List.mem_of_getElem? (i := 1103) (by decide +kernel)) rfl
theorem lk_X11_338 : amLk RX11 338 yX4_prepare cX4_prepare 8 (none) 4 := ⟨wd_1100, wd_10, wd_1103, by decide +kernel, by decide +kernel, by decide⟩
theorem wd_1101 : Cond.instanceMethod yX4_prepare ∈ TBL := tb_tab (List.mem_of_getElem? (i := 1101) (by decide +kernel)) rfl
theorem wd_1102 : Cond.selects RX4 yX4_prepare yX4_prepare ∈ TBL := tb_tab (List.mem_of_getElem? (i := 1102) (by decide +kernel)) rfl
theorem wd_1113 : Cond.methodLink RX11 342 yX4_gain ∈ TBL := tb_tab (List.mem_of_getElem? (i := 1113) (by decide +kernel)) rfl
theorem lk_X11_342 : amLk RX11 342 yX4_gain cX4_gain 5 (some .int) 3 := ⟨wd_1113, wd_10, wd_1116, by decide +kernel, by decide +kernel, by decide⟩
def a_X11_game : AC := [(0, vAload 0 1), (1, vIload 1 2), (2, vIload 2 3), (3, vIload 3 4), (4, vCallM w_X11_canMatch 27 3 7), (7, vIfEq 47 10), (10, vAload 0 11), (11, vGetR TT 27 2 22 14), (14, vI 3 15), (15, vIload 4 17), (17, vCallM w_X6_has 22 2 20), (20, vIfEq 47 23), (23, vAload 0 24), (24, vGetR TT 27 2 22 27), (27, vI 3 28), (28, vIload 5 30), (30, vCallM w_X6_has 22 2 33), (33, vIfEq 47 36), (36, vIload 6 38), (38, vIfLt 47 41), (41, vIload 6 43), (43, vI 1 44), (44, vIcLe 51 47), (47, vI (-1000000) 50), (50, vIret), (51, vAload 0 52), (52, vGetR TT 27 15 20 55), (55, vAload 0 56), (56, vGetR TT 27 10 16 59), (59, vIload 1 60), (60, vIload 2 61), (61, vIload 3 62), (62, vCallMV w_X4_prepare 20 4 65), (65, vAload 0 66), (66, vGetR TT 27 15 20 69), (69, vIload 6 71), (71, vIload 4 73), (73, vIload 5 75), (75, vCallM w_X4_gain 20 3 78), (78, vIret)]
theorem k_X11_game_0 : look a_X11_game 0 = vAload 0 1 := rfl
theorem k_X11_game_1 : look a_X11_game 1 = vIload 1 2 := rfl
theorem k_X11_game_2 : look a_X11_game 2 = vIload 2 3 := rfl
theorem k_X11_game_3 : look a_X11_game 3 = vIload 3 4 := rfl
theorem k_X11_game_4 : look a_X11_game 4 = vCallM w_X11_canMatch 27 3 7 := rfl
theorem k_X11_game_7 : look a_X11_game 7 = vIfEq 47 10 := rfl
theorem k_X11_game_10 : look a_X11_game 10 = vAload 0 11 := rfl
theorem k_X11_game_11 : look a_X11_game 11 = vGetR TT 27 2 22 14 := rfl
theorem k_X11_game_14 : look a_X11_game 14 = vI 3 15 := rfl
theorem k_X11_game_15 : look a_X11_game 15 = vIload 4 17 := rfl
theorem k_X11_game_17 : look a_X11_game 17 = vCallM w_X6_has 22 2 20 := rfl
theorem k_X11_game_20 : look a_X11_game 20 = vIfEq 47 23 := rfl
theorem k_X11_game_23 : look a_X11_game 23 = vAload 0 24 := rfl
theorem k_X11_game_24 : look a_X11_game 24 = vGetR TT 27 2 22 27 := rfl
theorem k_X11_game_27 : look a_X11_game 27 = vI 3 28 := rfl
theorem k_X11_game_28 : look a_X11_game 28 = vIload 5 30 := rfl
theorem k_X11_game_30 : look a_X11_game 30 = vCallM w_X6_has 22 2 33 := rfl
theorem k_X11_game_33 : look a_X11_game 33 = vIfEq 47 36 := rfl
theorem k_X11_game_36 : look a_X11_game 36 = vIload 6 38 := rfl
theorem k_X11_game_38 : look a_X11_game 38 = vIfLt 47 41 := rfl
theorem k_X11_game_41 : look a_X11_game 41 = vIload 6 43 := rfl
theorem k_X11_game_43 : look a_X11_game 43 = vI 1 44 := rfl
theorem k_X11_game_44 : look a_X11_game 44 = vIcLe 51 47 := rfl
theorem k_X11_game_47 : look a_X11_game 47 = vI (-1000000) 50 := rfl
theorem k_X11_game_50 : look a_X11_game 50 = vIret := rfl
theorem k_X11_game_51 : look a_X11_game 51 = vAload 0 52 := rfl
theorem k_X11_game_52 : look a_X11_game 52 = vGetR TT 27 15 20 55 := rfl
theorem k_X11_game_55 : look a_X11_game 55 = vAload 0 56 := rfl
theorem k_X11_game_56 : look a_X11_game 56 = vGetR TT 27 10 16 59 := rfl
theorem k_X11_game_59 : look a_X11_game 59 = vIload 1 60 := rfl
theorem k_X11_game_60 : look a_X11_game 60 = vIload 2 61 := rfl
theorem k_X11_game_61 : look a_X11_game 61 = vIload 3 62 := rfl
theorem k_X11_game_62 : look a_X11_game 62 = vCallMV w_X4_prepare 20 4 65 := rfl
theorem k_X11_game_65 : look a_X11_game 65 = vAload 0 66 := rfl
theorem k_X11_game_66 : look a_X11_game 66 = vGetR TT 27 15 20 69 := rfl
theorem k_X11_game_69 : look a_X11_game 69 = vIload 6 71 := rfl
theorem k_X11_game_71 : look a_X11_game 71 = vIload 4 73 := rfl
theorem k_X11_game_73 : look a_X11_game 73 = vIload 5 75 := rfl
theorem k_X11_game_75 : look a_X11_game 75 = vCallM w_X4_gain 20 3 78 := rfl
theorem k_X11_game_78 : look a_X11_game 78 = vIret := rfl
theorem o_X11_game {X : amX} (e1 : XT X = TT) (e2 : XD X = 6) (hB : amB X RX11 cX11_game (some .int) 7) : ∀ pc, amOK X pc (look a_X11_game pc) := by
  have hT : amTok (XT X) := e1 ▸ TT_ok
  refine look_ok ?_
  unfold a_X11_game
  refine fc (ok_aload_n hB dX11_game_0) ?_
  refine fc (ok_iload_n hB dX11_game_1) ?_
  refine fc (ok_iload_n hB dX11_game_2) ?_
  refine fc (ok_iload_n hB dX11_game_3) ?_
  refine fc (ok_callM hB hT (e1 ▸ s_X11_canMatch) lk_X11_334 (by rw [e2]; decide) (c := 11) rfl rfl rfl wd_1098 sl_X11_canMatch dX11_game_4) ?_
  refine fc (ok_if_eq hB (t := 47) (by decide) dX11_game_7) ?_
  refine fc (ok_aload_n hB dX11_game_10) ?_
  refine fc (okt_getR e1 hB hT fl_X11_23 rfl af_11_2 at_11_2 (by decide) dX11_game_11) ?_
  refine fc (ok_iconst hB dX11_game_14) ?_
  refine fc (ok_iload hB dX11_game_15) ?_
  refine fc (ok_callM hB hT (e1 ▸ s_X6_has) lk_X11_174 (by rw [e2]; decide) (c := 6) rfl rfl rfl wd_729 wd_730 dX11_game_17) ?_
  refine fc (ok_if_eq hB (t := 47) (by decide) dX11_game_20) ?_
  refine fc (ok_aload_n hB dX11_game_23) ?_
  refine fc (okt_getR e1 hB hT fl_X11_23 rfl af_11_2 at_11_2 (by decide) dX11_game_24) ?_
  refine fc (ok_iconst hB dX11_game_27) ?_
  refine fc (ok_iload hB dX11_game_28) ?_
  refine fc (ok_callM hB hT (e1 ▸ s_X6_has) lk_X11_174 (by rw [e2]; decide) (c := 6) rfl rfl rfl wd_729 wd_730 dX11_game_30) ?_
  refine fc (ok_if_eq hB (t := 47) (by decide) dX11_game_33) ?_
  refine fc (ok_iload hB dX11_game_36) ?_
  refine fc (ok_if_lt hB (t := 47) (by decide) dX11_game_38) ?_
  refine fc (ok_iload hB dX11_game_41) ?_
  refine fc (ok_iconst hB dX11_game_43) ?_
  refine fc (ok_icmp_le hB (t := 51) (by decide) dX11_game_44) ?_
  refine fc (ok_ldcw hB wd_946 rfl dX11_game_47) ?_
  refine fc (ok_iret hB dX11_game_50) ?_
  refine fc (ok_aload_n hB dX11_game_51) ?_
  refine fc (okt_getR e1 hB hT fl_X11_100 rfl af_11_15 at_11_15 (by decide) dX11_game_52) ?_
  refine fc (ok_aload_n hB dX11_game_55) ?_
  refine fc (okt_getR e1 hB hT fl_X11_65 rfl af_11_10 at_11_10 (by decide) dX11_game_56) ?_
  refine fc (ok_iload_n hB dX11_game_59) ?_
  refine fc (ok_iload_n hB dX11_game_60) ?_
  refine fc (ok_iload_n hB dX11_game_61) ?_
  refine fc (ok_callMV hB hT (e1 ▸ s_X4_prepare) lk_X11_338 (by rw [e2]; decide) (c := 4) rfl rfl rfl wd_1101 wd_1102 dX11_game_62) ?_
  refine fc (ok_aload_n hB dX11_game_65) ?_
  refine fc (okt_getR e1 hB hT fl_X11_100 rfl af_11_15 at_11_15 (by decide) dX11_game_66) ?_
  refine fc (ok_iload hB dX11_game_69) ?_
  refine fc (ok_iload hB dX11_game_71) ?_
  refine fc (ok_iload hB dX11_game_73) ?_
  refine fc (ok_callM hB hT (e1 ▸ s_X4_gain) lk_X11_342 (by rw [e2]; decide) (c := 4) rfl rfl rfl wd_1114 wd_1115 dX11_game_75) ?_
  refine fc (ok_iret hB dX11_game_78) ?_
  exact fn

def w_X11_game : WP := fun av σ Q => ∃ (o : Int) (r : Int) (p : Int) (x : Int) (y : Int) (w : Int), av = [(27, 0), (0, o), (0, r), (0, p), (0, x), (0, y), (0, w)] ∧ (InR o ∧ InR r ∧ InR p ∧ InR x ∧ InR y ∧ InR w ∧ xS σ ∧ (¬ (((0 ≤ o ∧ o < pcnt σ 6 2) ∧ (0 ≤ r ∧ r < pcnt σ 6 2) ∧ o ≠ r ∧ 0 ≤ p ∧ p < pcnt σ 6 1) ∧ (0 ≤ x ∧ x < pcnt σ 6 3) ∧ (0 ≤ y ∧ y < pcnt σ 6 3) ∧ 0 ≤ w ∧ w ≤ 1) → Q (0, -1000000) σ) ∧
(((0 ≤ o ∧ o < pcnt σ 6 2) ∧ (0 ≤ r ∧ r < pcnt σ 6 2) ∧ o ≠ r ∧ 0 ≤ p ∧ p < pcnt σ 6 1) ∧ (0 ≤ x ∧ x < pcnt σ 6 3) ∧ (0 ≤ y ∧ y < pcnt σ 6 3) ∧ 0 ≤ w ∧ w ≤ 1 → ∀ τ, SW σ τ → gnOk σ (τ 40) o r p (pcnt σ 6 3) → Q (0, gnF (τ 40) w x y) τ))
theorem w_X11_game_e (o : Int) (r : Int) (p : Int) (x : Int) (y : Int) (w : Int) (σ : Mem) (Q : AV → Mem → Prop) : w_X11_game [(27, 0), (0, o), (0, r), (0, p), (0, x), (0, y), (0, w)] σ Q = (InR o ∧ InR r ∧ InR p ∧ InR x ∧ InR y ∧ InR w ∧ xS σ ∧ (¬ (((0 ≤ o ∧ o < pcnt σ 6 2) ∧ (0 ≤ r ∧ r < pcnt σ 6 2) ∧ o ≠ r ∧ 0 ≤ p ∧ p < pcnt σ 6 1) ∧ (0 ≤ x ∧ x < pcnt σ 6 3) ∧ (0 ≤ y ∧ y < pcnt σ 6 3) ∧ 0 ≤ w ∧ w ≤ 1) → Q (0, -1000000) σ) ∧
(((0 ≤ o ∧ o < pcnt σ 6 2) ∧ (0 ≤ r ∧ r < pcnt σ 6 2) ∧ o ≠ r ∧ 0 ≤ p ∧ p < pcnt σ 6 1) ∧ (0 ≤ x ∧ x < pcnt σ 6 3) ∧ (0 ≤ y ∧ y < pcnt σ 6 3) ∧ 0 ≤ w ∧ w ≤ 1 → ∀ τ, SW σ τ → gnOk σ (τ 40) o r p (pcnt σ 6 3) → Q (0, gnF (τ 40) w x y) τ)) := by
  apply propext; constructor
  · rintro ⟨o', r', p', x', y', w', h9, hb9⟩; cases h9; exact hb9
  · intro hb9; exact ⟨o, r, p, x, y, w, rfl, hb9⟩

set_option maxRecDepth 100000 in
set_option maxHeartbeats 4000000 in
theorem s_X11_game : ∀ av σ Q, w_X11_game av σ Q → amCall 6 0 0 TT yX11_game cX11_game 7 (some .int) av σ Q := by
  rintro av σ Q ⟨o, r, p, x, y, w, rfl, ho, hr, hp, hx, hy, hw, ⟨hst, hse, h9, hsi⟩, h1, h2⟩
  have hB := hst.2.1
  have c1 := pcnt_b hB 1
  have c2 := pcnt_b hB 2
  have c3 := pcnt_b hB 3
  have h9p := h9 p
  refine am_m0 (own := RX11) (A := look a_X11_game) (fun X e1 e2 hB => o_X11_game e1 e2 hB) rfl (by decide +kernel) rfl rfl 190 (w := 7) ?_
  change vcs _ _ _ _ 190 0 [(27, 0), (0, o), (0, r), (0, p), (0, x), (0, y), (0, w)] [] σ
  simp only [↓reduceIte, inR_0, inR_1, inR_m, vSw2_e, swP_n, swP_c, vI_e, vL_e, vNull_e, vIload_e, vLload_e, vAload_e, vIstore_e, vLstore_e, vAstore_e, vIinc_e, vIadd_e, vIsub_e, vImul_e, vIand_e, vIor_e, vIxor_e, vIshl_e, vIshr_e, vIushr_e, vIdiv_e, vIrem_e, vLadd_e, vLsub_e, vLmul_e, vLand_e, vLor_e, vLxor_e, vLdiv_e, vLrem_e, vLushr_e, vLshl_e, vLcmp_e, vIneg_e, vI2l_e, vL2i_e, vI2b_e, vI2c_e, vDup_e, vPop_e, vDup2_e, vGoto_e, vIcEq_e, vIfEq_e, vIcNe_e, vIfNe_e, vIcLt_e, vIfLt_e, vIcGe_e, vIfGe_e, vIcGt_e, vIfGt_e, vIcLe_e, vIfLe_e, vNonnull_e, vSw_e, vGetI_e, vGetL_e, vGetR_e, vPutI_e, vPutZ_e, vPutL_e, vPutR_e, vIald_e, vIald_s, vLald_e, vBald_e, vBald_s, vAald_e, vIast_e, vLast_e, vBast_e, vAast_e, vAlen_e8, vAlen_e9, vAlen_e10, vAlen_e11, vAlen_e5, vAlen_e3, vGets_e, vCompact_e, vLdcS_e, vIret_e, vZret_e, vCret_e, vBret_e, vLret_e, vVret_e, vAret_e, vCallM_e0, vCallMV_e0, vCallS_e0, vCallSV_e0, vCallM_e1, vCallMV_e1, vCallS_e1, vCallSV_e1, vCallM_e2, vCallMV_e2, vCallS_e2, vCallSV_e2, vCallM_e3, vCallMV_e3, vCallS_e3, vCallSV_e3, vCallM_e4, vCallMV_e4, vCallS_e4, vCallSV_e4, vCallM_e5, vCallMV_e5, vCallS_e5, vCallSV_e5, vCallM_e6, vCallMV_e6, vCallS_e6, vCallSV_e6, vCallM_e7, vCallMV_e7, vCallS_e7, vCallSV_e7, vBad_e, vStrVal_e, vStrCod_e, vForm_e, vCallT_e0, vCallT_e1, vCallT_e2, vCopy_e, rf_0_0, rf_0_1, rf_0_2, rf_0_3, rf_0_4, rf_0_7, rf_0_10, rf_0_11, rf_0_12, rf_0_13, rf_0_14, rf_0_15, rf_0_16, rf_1_0, rf_3_0, rf_3_1, rf_6_0, rf_6_1, rf_9_0, rf_9_1, rf_9_3, rf_13_0, rf_13_1, rf_13_2, rf_16_0, rf_16_1, rf_16_2, rf_16_3, rf_21_0, rf_21_1, rf_21_2, rf_21_3, rf_26_0, rf_26_1, rf_26_2, rf_26_3, rf_26_4, rf_26_5, rf_26_6, rf_31_0, rf_31_2, rf_31_5, rf_31_6, rf_36_0, rf_36_1, rf_36_2, rf_36_3, rf_39_0, rf_39_1, rf_39_2, rf_41_0, rf_41_1, rf_41_2, rf_41_3, rf_5000_1, rf_5000_2, rf_5000_3, rf_5000_4, rf_5000_5, rf_5000_15, rf_5000_16, rf_5000_18, rf_5000_19, rf_5000_20, rf_5000_21, rf_5000_22, rf_5000_23, rf_5000_24, rf_5000_25, rf_5000_26, rf_5000_27, rf_5000_36, rf_5000_37, rf_5000_40, rf_5000_41, rf_5000_42, rf_5000_43, rf_5000_44, rf_5000_45, rf_5000_47, rf_5000_52, rf_5000_54, rf_5000_55, rf_100_0, rf_100_1, rf_103_0, rf_103_1, rf_106_0, rf_106_1, rf_109_0, rf_109_1, al_2, al_4, al_5, al_7, al_8, al_10, al_11, al_12, al_14, al_15, al_17, al_18, al_19, al_20, al_22, al_23, al_24, al_25, al_27, al_28, al_29, al_30, al_32, al_33, al_34, al_35, al_37, al_38, al_40, al_42, al_5001, al_5002, al_5003, al_5004, al_5005, al_5006, al_5007, al_5008, al_5009, al_5010, al_5011, al_5012, al_5013, al_5014, al_5015, al_5016, al_5017, al_5018, al_5019, al_5020, al_5021, al_5022, al_5023, al_5024, al_5025, al_5026, al_9000, al_101, al_102, al_104, al_105, al_107, al_108, al_110, al_111, vcs_e, lg_c0, lg_cs, lg_nil, set_c0, set_cs, okst_0, okst_s, acok_n, acok_c, List.contains_nil, List.contains_cons, Bool.or_false, Bool.false_or, Bool.false_eq_true, if_false, if_true, ite_self, ne_eq, true_and, and_true, not_false_eq_true, not_true_eq_false, false_imp_iff, true_imp_iff, Nat.ble_eq, Bool.and_eq_true, reduceCtorEq, or_false, false_or, or_true, true_or, false_and, and_false, and_self, Int.reduceLE, Int.reduceAdd, Int.reduceSub, Int.reduceMul, Int.reduceNeg, Int.reduceLT, Int.reduceEq, Int.reduceNe, Nat.reduceBEq, Nat.reduceBNe, Nat.reduceEqDiff, amCmp_in, amCmp_lt, amCmp_le, amCmp_gt, amCmp_ge, amCmp_eq, amCmp_ne, Nat.reduceLeDiff, Nat.reduceSub, Bool.and_true, Bool.true_and, Bool.and_self, Bool.or_true, Bool.true_or, isRf_3, isRf_4, isRf_5, isRf_8, isRf_9, isRf_10, isRf_11, isRf_15, isRf_16, isRf_17, isRf_18, isRf_19, isRf_20, isRf_21, isRf_22, isRf_23, isRf_24, isRf_25, isRf_26, isRf_27, isRf_28, k_X11_game_0, k_X11_game_1, k_X11_game_2, k_X11_game_3, k_X11_game_4, k_X11_game_7, k_X11_game_10, k_X11_game_11, k_X11_game_14, k_X11_game_15, k_X11_game_17, k_X11_game_20, k_X11_game_23, k_X11_game_24, k_X11_game_27, k_X11_game_28, k_X11_game_30, k_X11_game_33, k_X11_game_36, k_X11_game_38, k_X11_game_41, k_X11_game_43, k_X11_game_44, k_X11_game_47, k_X11_game_50, k_X11_game_51, k_X11_game_52, k_X11_game_55, k_X11_game_56, k_X11_game_59, k_X11_game_60, k_X11_game_61, k_X11_game_62, k_X11_game_65, k_X11_game_66, k_X11_game_69, k_X11_game_71, k_X11_game_73, k_X11_game_75, k_X11_game_78, w_X11_canMatch_e, w_X4_gain_e, w_X4_prepare_e, w_X6_has_e, up_s, up_nj, up_na, up_up, savR_o, cpy_o, fillm_o, setAud_o, setv_o, setv_s, Int.reduceNe, Int.reduceEq, Int.reduceLT, Int.reduceAdd, not_false_eq_true, ne_eq, or_true, true_or]
  by_cases d1 : (0 ≤ o ∧ o < pcnt σ 6 2) ∧ (0 ≤ r ∧ r < pcnt σ 6 2) ∧ o ≠ r ∧ 0 ≤ p ∧ p < pcnt σ 6 1
  · rw [if_pos d1]
    by_cases d2 : 0 ≤ x ∧ x < pcnt σ 6 3
    · rw [if_pos d2]
      by_cases d3 : 0 ≤ y ∧ y < pcnt σ 6 3
      · rw [if_pos d3]
        have hh := fun g => h2 ⟨d1, d2, d3, g⟩
        have hn := fun (g : ¬ (0 ≤ w ∧ w ≤ 1)) => h1 (fun q => g q.2.2.2)
        obtain ⟨d4, d5, d6, d7⟩ := d1
        repeat' (first | assumption | apply And.intro | intro _)
        all_goals first | omega | exact absurd trivial (by assumption) | exact isP6 | exact hn (by omega) | exact hh (by omega) _ (by assumption) (by assumption)
      · rw [if_neg d3]
        have hn := h1 (fun q => d3 q.2.2.1)
        repeat' (first | assumption | apply And.intro | intro _)
        all_goals first | omega | exact absurd trivial (by assumption) | exact isP6 | exact hn
    · rw [if_neg d2]
      have hn := h1 (fun q => d2 q.2.1)
      repeat' (first | assumption | apply And.intro | intro _)
      all_goals first | omega | exact absurd trivial (by assumption) | exact isP6 | exact hn
  · rw [if_neg d1]
    have hn := h1 (fun q => d1 q.1)
    repeat' (first | assumption | apply And.intro | intro _)
    all_goals first | omega | exact absurd trivial (by assumption) | exact isP6 | exact hn
theorem wd_153 : Cond.fieldLink RX11 199 "ArmchairHouse$Audience" "tears" "[I" ∈ TBL := tb_tab (List.mem_of_getElem? (i := 153) (by decide +kernel)) rfl
theorem fl_X11_199 : amFl RX11 0 3 199 RX0 TX0 7 := ⟨rfl, inT_0, by decide, wd_153⟩
theorem wd_1090 : Cond.methodLink RX11 327 yX6_everyChair ∈ TBL := tb_tab (List.mem_of_getElem? (i := 1090) (by decide +kernel)) rfl
theorem lk_X11_327 : amLk RX11 327 yX6_everyChair cX6_everyChair 1 (some .int) 0 := ⟨wd_1090, wd_3, wd_852, by decide +kernel, by decide +kernel, by decide⟩
theorem wd_1091 : Cond.methodLink RX11 330 yX11_sumOver ∈ TBL := tb_tab (List.mem_of_getElem? (i := 1091) (by decide +kernel)) rfl
theorem lk_X11_330 : amLk RX11 330 yX11_sumOver cX11_sumOver 4 (some .int) 2 := ⟨wd_1091, wd_1, wd_855, by decide +kernel, by decide +kernel, by decide⟩
theorem wd_156 : Cond.fieldLink RX11 399 "ArmchairHouse$Audience" "illBits" "I" ∈ TBL := tb_tab (List.mem_of_getElem? (i := 156) (by decide +kernel)) rfl
theorem fl_X11_399 : amFl RX11 0 4 399 RX0 TX0 7 := ⟨rfl, inT_0, by decide, wd_156⟩
theorem wd_301 : Cond.fieldLink RX11 151 "ArmchairHouse$Clues" "facts" "I" ∈ TBL := tb_tab (List.mem_of_getElem? (i := 301) (by decide +kernel)) rfl
theorem fl_X11_151 : amFl RX11 1 4 151 RX1 TX1 5 := ⟨rfl, inT_1, by decide, wd_301⟩
theorem wd_229 : Cond.fieldLink RX11 402 "ArmchairHouse$Past" "actCount" "I" ∈ TBL := tb_tab (List.mem_of_getElem? (i := 229) (by decide +kernel)) rfl
theorem fl_X11_402 : amFl RX11 5 3 402 RX5 TX5 9 := ⟨rfl, inT_5, by decide, wd_229⟩
def a_X11_countOfNow : AC := [(0, vIload 1 1), (1, vSw2 [(7, 44), (8, 52), (9, 70), (10, 78), (11, 83), (12, 91), (13, 99)] 107), (44, vAload 0 45), (45, vGetR TT 27 10 16 48), (48, vGetI 16 6 51), (51, vIret), (52, vAload 0 53), (53, vGetR TT 27 10 16 56), (56, vGetR TT 16 3 8 59), (59, vAload 0 60), (60, vGetR TT 27 2 22 63), (63, vCallM w_X6_everyChair 22 0 66), (66, vCallS w_X11_sumOver 2 69), (69, vIret), (70, vAload 0 71), (71, vGetR TT 27 10 16 74), (74, vGetI 16 4 77), (77, vIret), (78, vAload 0 79), (79, vGetI 27 8 82), (82, vIret), (83, vAload 0 84), (84, vGetR TT 27 16 17 87), (87, vGetI 17 4 90), (90, vIret), (91, vAload 0 92), (92, vGetR TT 27 13 21 95), (95, vCallM w_X5_shown 21 0 98), (98, vIret), (99, vAload 0 100), (100, vGetR TT 27 13 21 103), (103, vGetI 21 3 106), (106, vIret), (107, vI (-1000000) 110), (110, vIret)]
theorem k_X11_countOfNow_0 : look a_X11_countOfNow 0 = vIload 1 1 := rfl
theorem k_X11_countOfNow_1 : look a_X11_countOfNow 1 = vSw2 [(7, 44), (8, 52), (9, 70), (10, 78), (11, 83), (12, 91), (13, 99)] 107 := rfl
theorem k_X11_countOfNow_44 : look a_X11_countOfNow 44 = vAload 0 45 := rfl
theorem k_X11_countOfNow_45 : look a_X11_countOfNow 45 = vGetR TT 27 10 16 48 := rfl
theorem k_X11_countOfNow_48 : look a_X11_countOfNow 48 = vGetI 16 6 51 := rfl
theorem k_X11_countOfNow_51 : look a_X11_countOfNow 51 = vIret := rfl
theorem k_X11_countOfNow_52 : look a_X11_countOfNow 52 = vAload 0 53 := rfl
theorem k_X11_countOfNow_53 : look a_X11_countOfNow 53 = vGetR TT 27 10 16 56 := rfl
theorem k_X11_countOfNow_56 : look a_X11_countOfNow 56 = vGetR TT 16 3 8 59 := rfl
theorem k_X11_countOfNow_59 : look a_X11_countOfNow 59 = vAload 0 60 := rfl
theorem k_X11_countOfNow_60 : look a_X11_countOfNow 60 = vGetR TT 27 2 22 63 := rfl
theorem k_X11_countOfNow_63 : look a_X11_countOfNow 63 = vCallM w_X6_everyChair 22 0 66 := rfl
theorem k_X11_countOfNow_66 : look a_X11_countOfNow 66 = vCallS w_X11_sumOver 2 69 := rfl
theorem k_X11_countOfNow_69 : look a_X11_countOfNow 69 = vIret := rfl
theorem k_X11_countOfNow_70 : look a_X11_countOfNow 70 = vAload 0 71 := rfl
theorem k_X11_countOfNow_71 : look a_X11_countOfNow 71 = vGetR TT 27 10 16 74 := rfl
theorem k_X11_countOfNow_74 : look a_X11_countOfNow 74 = vGetI 16 4 77 := rfl
theorem k_X11_countOfNow_77 : look a_X11_countOfNow 77 = vIret := rfl
theorem k_X11_countOfNow_78 : look a_X11_countOfNow 78 = vAload 0 79 := rfl
theorem k_X11_countOfNow_79 : look a_X11_countOfNow 79 = vGetI 27 8 82 := rfl
theorem k_X11_countOfNow_82 : look a_X11_countOfNow 82 = vIret := rfl
theorem k_X11_countOfNow_83 : look a_X11_countOfNow 83 = vAload 0 84 := rfl
theorem k_X11_countOfNow_84 : look a_X11_countOfNow 84 = vGetR TT 27 16 17 87 := rfl
theorem k_X11_countOfNow_87 : look a_X11_countOfNow 87 = vGetI 17 4 90 := rfl
theorem k_X11_countOfNow_90 : look a_X11_countOfNow 90 = vIret := rfl
theorem k_X11_countOfNow_91 : look a_X11_countOfNow 91 = vAload 0 92 := rfl
theorem k_X11_countOfNow_92 : look a_X11_countOfNow 92 = vGetR TT 27 13 21 95 := rfl
theorem k_X11_countOfNow_95 : look a_X11_countOfNow 95 = vCallM w_X5_shown 21 0 98 := rfl
theorem k_X11_countOfNow_98 : look a_X11_countOfNow 98 = vIret := rfl
theorem k_X11_countOfNow_99 : look a_X11_countOfNow 99 = vAload 0 100 := rfl
theorem k_X11_countOfNow_100 : look a_X11_countOfNow 100 = vGetR TT 27 13 21 103 := rfl
theorem k_X11_countOfNow_103 : look a_X11_countOfNow 103 = vGetI 21 3 106 := rfl
theorem k_X11_countOfNow_106 : look a_X11_countOfNow 106 = vIret := rfl
theorem k_X11_countOfNow_107 : look a_X11_countOfNow 107 = vI (-1000000) 110 := rfl
theorem k_X11_countOfNow_110 : look a_X11_countOfNow 110 = vIret := rfl
theorem o_X11_countOfNow {X : amX} (e1 : XT X = TT) (e2 : XD X = 3) (hB : amB X RX11 cX11_countOfNow (some .int) 2) : ∀ pc, amOK X pc (look a_X11_countOfNow pc) := by
  have hT : amTok (XT X) := e1 ▸ TT_ok
  refine look_ok ?_
  unfold a_X11_countOfNow
  refine fc (ok_iload_n hB dX11_countOfNow_0) ?_
  refine fc (ok_sw2 (by decide) (ok_tableswitch hB [(7, 44), (8, 52), (9, 70), (10, 78), (11, 83), (12, 91), (13, 99)] dX11_countOfNow_1 (by decide) (by decide) (by decide) (by decide))) ?_
  refine fc (ok_aload_n hB dX11_countOfNow_44) ?_
  refine fc (okt_getR e1 hB hT fl_X11_65 rfl af_11_10 at_11_10 (by decide) dX11_countOfNow_45) ?_
  refine fc (ok_getI hB hT fl_X11_246 rfl rfl (Or.inl af_0_6) dX11_countOfNow_48) ?_
  refine fc (ok_iret hB dX11_countOfNow_51) ?_
  refine fc (ok_aload_n hB dX11_countOfNow_52) ?_
  refine fc (okt_getR e1 hB hT fl_X11_65 rfl af_11_10 at_11_10 (by decide) dX11_countOfNow_53) ?_
  refine fc (okt_getR e1 hB hT fl_X11_199 rfl af_0_3 at_0_3 (by decide) dX11_countOfNow_56) ?_
  refine fc (ok_aload_n hB dX11_countOfNow_59) ?_
  refine fc (okt_getR e1 hB hT fl_X11_23 rfl af_11_2 at_11_2 (by decide) dX11_countOfNow_60) ?_
  refine fc (ok_callM hB hT (e1 ▸ s_X6_everyChair) lk_X11_327 (by rw [e2]; decide) (c := 6) rfl rfl rfl wd_850 wd_851 dX11_countOfNow_63) ?_
  refine fc (ok_callS hB (e1 ▸ s_X11_sumOver) lk_X11_330 (by rw [e2]; decide) wd_854 dX11_countOfNow_66) ?_
  refine fc (ok_iret hB dX11_countOfNow_69) ?_
  refine fc (ok_aload_n hB dX11_countOfNow_70) ?_
  refine fc (okt_getR e1 hB hT fl_X11_65 rfl af_11_10 at_11_10 (by decide) dX11_countOfNow_71) ?_
  refine fc (ok_getI hB hT fl_X11_399 rfl rfl (Or.inl af_0_4) dX11_countOfNow_74) ?_
  refine fc (ok_iret hB dX11_countOfNow_77) ?_
  refine fc (ok_aload_n hB dX11_countOfNow_78) ?_
  refine fc (ok_getI hB hT fl_X11_55 rfl rfl (Or.inl af_11_8) dX11_countOfNow_79) ?_
  refine fc (ok_iret hB dX11_countOfNow_82) ?_
  refine fc (ok_aload_n hB dX11_countOfNow_83) ?_
  refine fc (okt_getR e1 hB hT fl_X11_109 rfl af_11_16 at_11_16 (by decide) dX11_countOfNow_84) ?_
  refine fc (ok_getI hB hT fl_X11_151 rfl rfl (Or.inl af_1_4) dX11_countOfNow_87) ?_
  refine fc (ok_iret hB dX11_countOfNow_90) ?_
  refine fc (ok_aload_n hB dX11_countOfNow_91) ?_
  refine fc (okt_getR e1 hB hT fl_X11_84 rfl af_11_13 at_11_13 (by decide) dX11_countOfNow_92) ?_
  refine fc (ok_callM hB hT (e1 ▸ s_X5_shown) lk_X11_263 (by rw [e2]; decide) (c := 5) rfl rfl rfl wd_931 wd_932 dX11_countOfNow_95) ?_
  refine fc (ok_iret hB dX11_countOfNow_98) ?_
  refine fc (ok_aload_n hB dX11_countOfNow_99) ?_
  refine fc (okt_getR e1 hB hT fl_X11_84 rfl af_11_13 at_11_13 (by decide) dX11_countOfNow_100) ?_
  refine fc (ok_getI hB hT fl_X11_402 rfl rfl (Or.inl af_5_3) dX11_countOfNow_103) ?_
  refine fc (ok_iret hB dX11_countOfNow_106) ?_
  refine fc (ok_ldcw hB wd_946 rfl dX11_countOfNow_107) ?_
  refine fc (ok_iret hB dX11_countOfNow_110) ?_
  exact fn

def w_X11_countOfNow : WP := fun av σ Q => ∃ (w : Int), av = [(27, 0), (0, w)] ∧ (InR w ∧ planB σ 6 ∧ InR (σ 31 1) ∧ (w = 7 → Q (0, σ 16 6) σ) ∧ (w = 8 → Q (0, sumC (σ 20) (pcnt σ 6 2).toNat) σ) ∧ (w = 9 → Q (0, σ 16 4) σ) ∧ (w = 10 → Q (0, σ 0 8) σ) ∧ (w = 11 → Q (0, σ 41 4) σ) ∧ (w = 12 → Q (0, min 60 (σ 31 1)) σ) ∧ (w = 13 → Q (0, σ 31 3) σ) ∧ (w < 7 ∨ 13 < w → Q (0, -1000000) σ))
theorem w_X11_countOfNow_e (w : Int) (σ : Mem) (Q : AV → Mem → Prop) : w_X11_countOfNow [(27, 0), (0, w)] σ Q = (InR w ∧ planB σ 6 ∧ InR (σ 31 1) ∧ (w = 7 → Q (0, σ 16 6) σ) ∧ (w = 8 → Q (0, sumC (σ 20) (pcnt σ 6 2).toNat) σ) ∧ (w = 9 → Q (0, σ 16 4) σ) ∧ (w = 10 → Q (0, σ 0 8) σ) ∧ (w = 11 → Q (0, σ 41 4) σ) ∧ (w = 12 → Q (0, min 60 (σ 31 1)) σ) ∧ (w = 13 → Q (0, σ 31 3) σ) ∧ (w < 7 ∨ 13 < w → Q (0, -1000000) σ)) := by
  apply propext; constructor
  · rintro ⟨w', h9, hb9⟩; cases h9; exact hb9
  · intro hb9; exact ⟨w, rfl, hb9⟩

set_option maxRecDepth 100000 in
set_option maxHeartbeats 4000000 in
theorem s_X11_countOfNow : ∀ av σ Q, w_X11_countOfNow av σ Q → amCall 3 0 0 TT yX11_countOfNow cX11_countOfNow 2 (some .int) av σ Q := by
  rintro av σ Q ⟨w, rfl, hw, hB, hr, h7, h8, h9, h10, h11, h12, h13, h14⟩
  have c2 := pcnt_b hB 2
  have fl := full_64 (n := (pcnt σ 6 2).toNat) (by omega)
  have e := sOv_full (σ 20) (n := (pcnt σ 6 2).toNat) (by omega) 6 (by omega)
  rw [show min 6 (pcnt σ 6 2).toNat = (pcnt σ 6 2).toNat by omega] at e
  refine am_m0 (own := RX11) (A := look a_X11_countOfNow) (fun X e1 e2 hB => o_X11_countOfNow e1 e2 hB) rfl (by decide +kernel) rfl rfl 190 (w := 2) ?_
  change vcs _ _ _ _ 190 0 [(27, 0), (0, w)] [] σ
  simp only [↓reduceIte, inR_0, inR_1, inR_m, vSw2_e, swP_n, swP_c, vI_e, vL_e, vNull_e, vIload_e, vLload_e, vAload_e, vIstore_e, vLstore_e, vAstore_e, vIinc_e, vIadd_e, vIsub_e, vImul_e, vIand_e, vIor_e, vIxor_e, vIshl_e, vIshr_e, vIushr_e, vIdiv_e, vIrem_e, vLadd_e, vLsub_e, vLmul_e, vLand_e, vLor_e, vLxor_e, vLdiv_e, vLrem_e, vLushr_e, vLshl_e, vLcmp_e, vIneg_e, vI2l_e, vL2i_e, vI2b_e, vI2c_e, vDup_e, vPop_e, vDup2_e, vGoto_e, vIcEq_e, vIfEq_e, vIcNe_e, vIfNe_e, vIcLt_e, vIfLt_e, vIcGe_e, vIfGe_e, vIcGt_e, vIfGt_e, vIcLe_e, vIfLe_e, vNonnull_e, vSw_e, vGetI_e, vGetL_e, vGetR_e, vPutI_e, vPutZ_e, vPutL_e, vPutR_e, vIald_e, vIald_s, vLald_e, vBald_e, vBald_s, vAald_e, vIast_e, vLast_e, vBast_e, vAast_e, vAlen_e8, vAlen_e9, vAlen_e10, vAlen_e11, vAlen_e5, vAlen_e3, vGets_e, vCompact_e, vLdcS_e, vIret_e, vZret_e, vCret_e, vBret_e, vLret_e, vVret_e, vAret_e, vCallM_e0, vCallMV_e0, vCallS_e0, vCallSV_e0, vCallM_e1, vCallMV_e1, vCallS_e1, vCallSV_e1, vCallM_e2, vCallMV_e2, vCallS_e2, vCallSV_e2, vCallM_e3, vCallMV_e3, vCallS_e3, vCallSV_e3, vCallM_e4, vCallMV_e4, vCallS_e4, vCallSV_e4, vCallM_e5, vCallMV_e5, vCallS_e5, vCallSV_e5, vCallM_e6, vCallMV_e6, vCallS_e6, vCallSV_e6, vCallM_e7, vCallMV_e7, vCallS_e7, vCallSV_e7, vBad_e, vStrVal_e, vStrCod_e, vForm_e, vCallT_e0, vCallT_e1, vCallT_e2, vCopy_e, rf_0_0, rf_0_1, rf_0_2, rf_0_3, rf_0_4, rf_0_7, rf_0_10, rf_0_11, rf_0_12, rf_0_13, rf_0_14, rf_0_15, rf_0_16, rf_1_0, rf_3_0, rf_3_1, rf_6_0, rf_6_1, rf_9_0, rf_9_1, rf_9_3, rf_13_0, rf_13_1, rf_13_2, rf_16_0, rf_16_1, rf_16_2, rf_16_3, rf_21_0, rf_21_1, rf_21_2, rf_21_3, rf_26_0, rf_26_1, rf_26_2, rf_26_3, rf_26_4, rf_26_5, rf_26_6, rf_31_0, rf_31_2, rf_31_5, rf_31_6, rf_36_0, rf_36_1, rf_36_2, rf_36_3, rf_39_0, rf_39_1, rf_39_2, rf_41_0, rf_41_1, rf_41_2, rf_41_3, rf_5000_1, rf_5000_2, rf_5000_3, rf_5000_4, rf_5000_5, rf_5000_15, rf_5000_16, rf_5000_18, rf_5000_19, rf_5000_20, rf_5000_21, rf_5000_22, rf_5000_23, rf_5000_24, rf_5000_25, rf_5000_26, rf_5000_27, rf_5000_36, rf_5000_37, rf_5000_40, rf_5000_41, rf_5000_42, rf_5000_43, rf_5000_44, rf_5000_45, rf_5000_47, rf_5000_52, rf_5000_54, rf_5000_55, rf_100_0, rf_100_1, rf_103_0, rf_103_1, rf_106_0, rf_106_1, rf_109_0, rf_109_1, al_2, al_4, al_5, al_7, al_8, al_10, al_11, al_12, al_14, al_15, al_17, al_18, al_19, al_20, al_22, al_23, al_24, al_25, al_27, al_28, al_29, al_30, al_32, al_33, al_34, al_35, al_37, al_38, al_40, al_42, al_5001, al_5002, al_5003, al_5004, al_5005, al_5006, al_5007, al_5008, al_5009, al_5010, al_5011, al_5012, al_5013, al_5014, al_5015, al_5016, al_5017, al_5018, al_5019, al_5020, al_5021, al_5022, al_5023, al_5024, al_5025, al_5026, al_9000, al_101, al_102, al_104, al_105, al_107, al_108, al_110, al_111, vcs_e, lg_c0, lg_cs, lg_nil, set_c0, set_cs, okst_0, okst_s, acok_n, acok_c, List.contains_nil, List.contains_cons, Bool.or_false, Bool.false_or, Bool.false_eq_true, if_false, if_true, ite_self, ne_eq, true_and, and_true, not_false_eq_true, not_true_eq_false, false_imp_iff, true_imp_iff, Nat.ble_eq, Bool.and_eq_true, reduceCtorEq, or_false, false_or, or_true, true_or, false_and, and_false, and_self, Int.reduceLE, Int.reduceAdd, Int.reduceSub, Int.reduceMul, Int.reduceNeg, Int.reduceLT, Int.reduceEq, Int.reduceNe, Nat.reduceBEq, Nat.reduceBNe, Nat.reduceEqDiff, amCmp_in, amCmp_lt, amCmp_le, amCmp_gt, amCmp_ge, amCmp_eq, amCmp_ne, Nat.reduceLeDiff, Nat.reduceSub, Bool.and_true, Bool.true_and, Bool.and_self, Bool.or_true, Bool.true_or, isRf_3, isRf_4, isRf_5, isRf_8, isRf_9, isRf_10, isRf_11, isRf_15, isRf_16, isRf_17, isRf_18, isRf_19, isRf_20, isRf_21, isRf_22, isRf_23, isRf_24, isRf_25, isRf_26, isRf_27, isRf_28, k_X11_countOfNow_0, k_X11_countOfNow_1, k_X11_countOfNow_44, k_X11_countOfNow_45, k_X11_countOfNow_48, k_X11_countOfNow_51, k_X11_countOfNow_52, k_X11_countOfNow_53, k_X11_countOfNow_56, k_X11_countOfNow_59, k_X11_countOfNow_60, k_X11_countOfNow_63, k_X11_countOfNow_66, k_X11_countOfNow_69, k_X11_countOfNow_70, k_X11_countOfNow_71, k_X11_countOfNow_74, k_X11_countOfNow_77, k_X11_countOfNow_78, k_X11_countOfNow_79, k_X11_countOfNow_82, k_X11_countOfNow_83, k_X11_countOfNow_84, k_X11_countOfNow_87, k_X11_countOfNow_90, k_X11_countOfNow_91, k_X11_countOfNow_92, k_X11_countOfNow_95, k_X11_countOfNow_98, k_X11_countOfNow_99, k_X11_countOfNow_100, k_X11_countOfNow_103, k_X11_countOfNow_106, k_X11_countOfNow_107, k_X11_countOfNow_110, w_X11_sumOver_e, w_X5_shown_e, w_X6_everyChair_e, up_s, up_nj, up_na, up_up, savR_o, cpy_o, fillm_o, setAud_o, setv_o, setv_s, Int.reduceNe, Int.reduceEq, Int.reduceLT, Int.reduceAdd, not_false_eq_true, ne_eq, or_true, true_or, e]
  repeat' (first | assumption | apply And.intro | intro _)
  all_goals first | omega | exact absurd trivial (by assumption) | exact isP6 | exact h7 (by omega) | exact h8 (by omega) | exact h9 (by omega) | exact h10 (by omega) | exact h11 (by omega) | exact h12 (by omega) | exact h13 (by omega) | exact h14 (by omega)
theorem wd_126 : Cond.fieldLink RX11 161 "ArmchairHouse$Seasons" "count" "I" ∈ TBL := tb_tab (List.mem_of_getElem? (i := 126) (by decide +kernel)) rfl
theorem fl_X11_161 : amFl RX11 7 3 161 RX7 TX7 4 := ⟨rfl, inT_7, by decide, wd_126⟩
theorem wd_1220 : Cond.methodLink RX11 396 yX11_countOfNow ∈ TBL := tb_tab (List.mem_of_getElem? (i := 1220) (by decide +kernel)) rfl
theorem wd_1223 : Cond.code yX11_countOfNow cX11_countOfNow 2 (some .int) ∈ TBL := tb_tab (List.mem_of_getElem? (i := 1223) (by decide +kernel)) rfl
theorem lk_X11_396 : amLk RX11 396 yX11_countOfNow cX11_countOfNow 2 (some .int) 1 := ⟨wd_1220, wd_1, wd_1223, by decide +kernel, by decide +kernel, by decide⟩
theorem wd_1222 : Cond.instanceMethod yX11_countOfNow ∈ TBL := tb_tab (List.mem_of_getElem? (i := 1222) (by decide +kernel)) rfl
theorem sl_X11_countOfNow : Cond.selects RX11 yX11_countOfNow yX11_countOfNow ∈ TBL := tb_sel (List.mem_of_getElem? (i := 45) (by decide +kernel)) rfl
def a_X11_count : AC := [(0, vIload 1 1), (1, vSw2 [(0, 44), (1, 53), (2, 62), (3, 71), (4, 76), (5, 84), (6, 92)] 97), (44, vAload 0 45), (45, vGetR TT 27 2 22 48), (48, vI 2 49), (49, vCallM w_X6_many 22 1 52), (52, vIret), (53, vAload 0 54), (54, vGetR TT 27 2 22 57), (57, vI 3 58), (58, vCallM w_X6_many 22 1 61), (61, vIret), (62, vAload 0 63), (63, vGetR TT 27 2 22 66), (66, vI 1 67), (67, vCallM w_X6_many 22 1 70), (70, vIret), (71, vAload 0 72), (72, vGetI 27 5 75), (75, vIret), (76, vAload 0 77), (77, vGetR TT 27 7 23 80), (80, vGetI 23 3 83), (83, vIret), (84, vAload 0 85), (85, vGetR TT 27 0 26 88), (88, vGetI 26 1 91), (91, vIret), (92, vAload 0 93), (93, vGetI 27 6 96), (96, vIret), (97, vAload 0 98), (98, vIload 1 99), (99, vCallM w_X11_countOfNow 27 1 102), (102, vIret)]
theorem k_X11_count_0 : look a_X11_count 0 = vIload 1 1 := rfl
theorem k_X11_count_1 : look a_X11_count 1 = vSw2 [(0, 44), (1, 53), (2, 62), (3, 71), (4, 76), (5, 84), (6, 92)] 97 := rfl
theorem k_X11_count_44 : look a_X11_count 44 = vAload 0 45 := rfl
theorem k_X11_count_45 : look a_X11_count 45 = vGetR TT 27 2 22 48 := rfl
theorem k_X11_count_48 : look a_X11_count 48 = vI 2 49 := rfl
theorem k_X11_count_49 : look a_X11_count 49 = vCallM w_X6_many 22 1 52 := rfl
theorem k_X11_count_52 : look a_X11_count 52 = vIret := rfl
theorem k_X11_count_53 : look a_X11_count 53 = vAload 0 54 := rfl
theorem k_X11_count_54 : look a_X11_count 54 = vGetR TT 27 2 22 57 := rfl
theorem k_X11_count_57 : look a_X11_count 57 = vI 3 58 := rfl
theorem k_X11_count_58 : look a_X11_count 58 = vCallM w_X6_many 22 1 61 := rfl
theorem k_X11_count_61 : look a_X11_count 61 = vIret := rfl
theorem k_X11_count_62 : look a_X11_count 62 = vAload 0 63 := rfl
theorem k_X11_count_63 : look a_X11_count 63 = vGetR TT 27 2 22 66 := rfl
theorem k_X11_count_66 : look a_X11_count 66 = vI 1 67 := rfl
theorem k_X11_count_67 : look a_X11_count 67 = vCallM w_X6_many 22 1 70 := rfl
theorem k_X11_count_70 : look a_X11_count 70 = vIret := rfl
theorem k_X11_count_71 : look a_X11_count 71 = vAload 0 72 := rfl
theorem k_X11_count_72 : look a_X11_count 72 = vGetI 27 5 75 := rfl
theorem k_X11_count_75 : look a_X11_count 75 = vIret := rfl
theorem k_X11_count_76 : look a_X11_count 76 = vAload 0 77 := rfl
theorem k_X11_count_77 : look a_X11_count 77 = vGetR TT 27 7 23 80 := rfl
theorem k_X11_count_80 : look a_X11_count 80 = vGetI 23 3 83 := rfl
theorem k_X11_count_83 : look a_X11_count 83 = vIret := rfl
theorem k_X11_count_84 : look a_X11_count 84 = vAload 0 85 := rfl
theorem k_X11_count_85 : look a_X11_count 85 = vGetR TT 27 0 26 88 := rfl
theorem k_X11_count_88 : look a_X11_count 88 = vGetI 26 1 91 := rfl
theorem k_X11_count_91 : look a_X11_count 91 = vIret := rfl
theorem k_X11_count_92 : look a_X11_count 92 = vAload 0 93 := rfl
theorem k_X11_count_93 : look a_X11_count 93 = vGetI 27 6 96 := rfl
theorem k_X11_count_96 : look a_X11_count 96 = vIret := rfl
theorem k_X11_count_97 : look a_X11_count 97 = vAload 0 98 := rfl
theorem k_X11_count_98 : look a_X11_count 98 = vIload 1 99 := rfl
theorem k_X11_count_99 : look a_X11_count 99 = vCallM w_X11_countOfNow 27 1 102 := rfl
theorem k_X11_count_102 : look a_X11_count 102 = vIret := rfl
theorem o_X11_count {X : amX} (e1 : XT X = TT) (e2 : XD X = 4) (hB : amB X RX11 cX11_count (some .int) 2) : ∀ pc, amOK X pc (look a_X11_count pc) := by
  have hT : amTok (XT X) := e1 ▸ TT_ok
  refine look_ok ?_
  unfold a_X11_count
  refine fc (ok_iload_n hB dX11_count_0) ?_
  refine fc (ok_sw2 (by decide) (ok_tableswitch hB [(0, 44), (1, 53), (2, 62), (3, 71), (4, 76), (5, 84), (6, 92)] dX11_count_1 (by decide) (by decide) (by decide) (by decide))) ?_
  refine fc (ok_aload_n hB dX11_count_44) ?_
  refine fc (okt_getR e1 hB hT fl_X11_23 rfl af_11_2 at_11_2 (by decide) dX11_count_45) ?_
  refine fc (ok_iconst hB dX11_count_48) ?_
  refine fc (ok_callM hB hT (e1 ▸ s_X6_many) lk_X11_154 (by rw [e2]; decide) (c := 6) rfl rfl rfl wd_557 wd_558 dX11_count_49) ?_
  refine fc (ok_iret hB dX11_count_52) ?_
  refine fc (ok_aload_n hB dX11_count_53) ?_
  refine fc (okt_getR e1 hB hT fl_X11_23 rfl af_11_2 at_11_2 (by decide) dX11_count_54) ?_
  refine fc (ok_iconst hB dX11_count_57) ?_
  refine fc (ok_callM hB hT (e1 ▸ s_X6_many) lk_X11_154 (by rw [e2]; decide) (c := 6) rfl rfl rfl wd_557 wd_558 dX11_count_58) ?_
  refine fc (ok_iret hB dX11_count_61) ?_
  refine fc (ok_aload_n hB dX11_count_62) ?_
  refine fc (okt_getR e1 hB hT fl_X11_23 rfl af_11_2 at_11_2 (by decide) dX11_count_63) ?_
  refine fc (ok_iconst hB dX11_count_66) ?_
  refine fc (ok_callM hB hT (e1 ▸ s_X6_many) lk_X11_154 (by rw [e2]; decide) (c := 6) rfl rfl rfl wd_557 wd_558 dX11_count_67) ?_
  refine fc (ok_iret hB dX11_count_70) ?_
  refine fc (ok_aload_n hB dX11_count_71) ?_
  refine fc (ok_getI hB hT fl_X11_41 rfl rfl (Or.inl af_11_5) dX11_count_72) ?_
  refine fc (ok_iret hB dX11_count_75) ?_
  refine fc (ok_aload_n hB dX11_count_76) ?_
  refine fc (okt_getR e1 hB hT fl_X11_51 rfl af_11_7 at_11_7 (by decide) dX11_count_77) ?_
  refine fc (ok_getI hB hT fl_X11_161 rfl rfl (Or.inl af_7_3) dX11_count_80) ?_
  refine fc (ok_iret hB dX11_count_83) ?_
  refine fc (ok_aload_n hB dX11_count_84) ?_
  refine fc (okt_getR e1 hB hT fl_X11_10 rfl af_11_0 at_11_0 (by decide) dX11_count_85) ?_
  refine fc (ok_getI hB hT fl_X11_117 rfl rfl (Or.inl af_10_1) dX11_count_88) ?_
  refine fc (ok_iret hB dX11_count_91) ?_
  refine fc (ok_aload_n hB dX11_count_92) ?_
  refine fc (ok_getI hB hT fl_X11_45 rfl rfl (Or.inl af_11_6) dX11_count_93) ?_
  refine fc (ok_iret hB dX11_count_96) ?_
  refine fc (ok_aload_n hB dX11_count_97) ?_
  refine fc (ok_iload_n hB dX11_count_98) ?_
  refine fc (ok_callM hB hT (e1 ▸ s_X11_countOfNow) lk_X11_396 (by rw [e2]; decide) (c := 11) rfl rfl rfl wd_1222 sl_X11_countOfNow dX11_count_99) ?_
  refine fc (ok_iret hB dX11_count_102) ?_
  exact fn

def w_X11_count : WP := fun av σ Q => ∃ (w : Int), av = [(27, 0), (0, w)] ∧ (InR w ∧ planB σ 6 ∧ InR (σ 31 1) ∧ (w = 0 → Q (0, pcnt σ 6 2) σ) ∧ (w = 1 → Q (0, pcnt σ 6 3) σ) ∧ (w = 2 → Q (0, pcnt σ 6 1) σ) ∧ (w = 3 → Q (0, σ 0 5) σ) ∧ (w = 4 → Q (0, σ 13 3) σ) ∧ (w = 5 → Q (0, σ 1 1) σ) ∧ (w = 6 → Q (0, σ 0 6) σ) ∧ (w = 7 → Q (0, σ 16 6) σ) ∧ (w = 8 → Q (0, sumC (σ 20) (pcnt σ 6 2).toNat) σ) ∧ (w = 9 → Q (0, σ 16 4) σ) ∧ (w = 10 → Q (0, σ 0 8) σ) ∧ (w = 11 → Q (0, σ 41 4) σ) ∧ (w = 12 → Q (0, min 60 (σ 31 1)) σ) ∧ (w = 13 → Q (0, σ 31 3) σ) ∧ (w < 0 ∨ 13 < w → Q (0, -1000000) σ))
theorem w_X11_count_e (w : Int) (σ : Mem) (Q : AV → Mem → Prop) : w_X11_count [(27, 0), (0, w)] σ Q = (InR w ∧ planB σ 6 ∧ InR (σ 31 1) ∧ (w = 0 → Q (0, pcnt σ 6 2) σ) ∧ (w = 1 → Q (0, pcnt σ 6 3) σ) ∧ (w = 2 → Q (0, pcnt σ 6 1) σ) ∧ (w = 3 → Q (0, σ 0 5) σ) ∧ (w = 4 → Q (0, σ 13 3) σ) ∧ (w = 5 → Q (0, σ 1 1) σ) ∧ (w = 6 → Q (0, σ 0 6) σ) ∧ (w = 7 → Q (0, σ 16 6) σ) ∧ (w = 8 → Q (0, sumC (σ 20) (pcnt σ 6 2).toNat) σ) ∧ (w = 9 → Q (0, σ 16 4) σ) ∧ (w = 10 → Q (0, σ 0 8) σ) ∧ (w = 11 → Q (0, σ 41 4) σ) ∧ (w = 12 → Q (0, min 60 (σ 31 1)) σ) ∧ (w = 13 → Q (0, σ 31 3) σ) ∧ (w < 0 ∨ 13 < w → Q (0, -1000000) σ)) := by
  apply propext; constructor
  · rintro ⟨w', h9, hb9⟩; cases h9; exact hb9
  · intro hb9; exact ⟨w, rfl, hb9⟩

set_option maxRecDepth 100000 in
set_option maxHeartbeats 4000000 in
theorem s_X11_count : ∀ av σ Q, w_X11_count av σ Q → amCall 4 0 0 TT yX11_count cX11_count 2 (some .int) av σ Q := by
  rintro av σ Q ⟨w, rfl, hw, hB, hr, h0, h1, h2, h3, h4, h5, h6, h7, h8, h9, h10, h11, h12, h13, h14⟩
  refine am_m0 (own := RX11) (A := look a_X11_count) (fun X e1 e2 hB => o_X11_count e1 e2 hB) rfl (by decide +kernel) rfl rfl 190 (w := 2) ?_
  change vcs _ _ _ _ 190 0 [(27, 0), (0, w)] [] σ
  simp only [↓reduceIte, inR_0, inR_1, inR_m, vSw2_e, swP_n, swP_c, vI_e, vL_e, vNull_e, vIload_e, vLload_e, vAload_e, vIstore_e, vLstore_e, vAstore_e, vIinc_e, vIadd_e, vIsub_e, vImul_e, vIand_e, vIor_e, vIxor_e, vIshl_e, vIshr_e, vIushr_e, vIdiv_e, vIrem_e, vLadd_e, vLsub_e, vLmul_e, vLand_e, vLor_e, vLxor_e, vLdiv_e, vLrem_e, vLushr_e, vLshl_e, vLcmp_e, vIneg_e, vI2l_e, vL2i_e, vI2b_e, vI2c_e, vDup_e, vPop_e, vDup2_e, vGoto_e, vIcEq_e, vIfEq_e, vIcNe_e, vIfNe_e, vIcLt_e, vIfLt_e, vIcGe_e, vIfGe_e, vIcGt_e, vIfGt_e, vIcLe_e, vIfLe_e, vNonnull_e, vSw_e, vGetI_e, vGetL_e, vGetR_e, vPutI_e, vPutZ_e, vPutL_e, vPutR_e, vIald_e, vIald_s, vLald_e, vBald_e, vBald_s, vAald_e, vIast_e, vLast_e, vBast_e, vAast_e, vAlen_e8, vAlen_e9, vAlen_e10, vAlen_e11, vAlen_e5, vAlen_e3, vGets_e, vCompact_e, vLdcS_e, vIret_e, vZret_e, vCret_e, vBret_e, vLret_e, vVret_e, vAret_e, vCallM_e0, vCallMV_e0, vCallS_e0, vCallSV_e0, vCallM_e1, vCallMV_e1, vCallS_e1, vCallSV_e1, vCallM_e2, vCallMV_e2, vCallS_e2, vCallSV_e2, vCallM_e3, vCallMV_e3, vCallS_e3, vCallSV_e3, vCallM_e4, vCallMV_e4, vCallS_e4, vCallSV_e4, vCallM_e5, vCallMV_e5, vCallS_e5, vCallSV_e5, vCallM_e6, vCallMV_e6, vCallS_e6, vCallSV_e6, vCallM_e7, vCallMV_e7, vCallS_e7, vCallSV_e7, vBad_e, vStrVal_e, vStrCod_e, vForm_e, vCallT_e0, vCallT_e1, vCallT_e2, vCopy_e, rf_0_0, rf_0_1, rf_0_2, rf_0_3, rf_0_4, rf_0_7, rf_0_10, rf_0_11, rf_0_12, rf_0_13, rf_0_14, rf_0_15, rf_0_16, rf_1_0, rf_3_0, rf_3_1, rf_6_0, rf_6_1, rf_9_0, rf_9_1, rf_9_3, rf_13_0, rf_13_1, rf_13_2, rf_16_0, rf_16_1, rf_16_2, rf_16_3, rf_21_0, rf_21_1, rf_21_2, rf_21_3, rf_26_0, rf_26_1, rf_26_2, rf_26_3, rf_26_4, rf_26_5, rf_26_6, rf_31_0, rf_31_2, rf_31_5, rf_31_6, rf_36_0, rf_36_1, rf_36_2, rf_36_3, rf_39_0, rf_39_1, rf_39_2, rf_41_0, rf_41_1, rf_41_2, rf_41_3, rf_5000_1, rf_5000_2, rf_5000_3, rf_5000_4, rf_5000_5, rf_5000_15, rf_5000_16, rf_5000_18, rf_5000_19, rf_5000_20, rf_5000_21, rf_5000_22, rf_5000_23, rf_5000_24, rf_5000_25, rf_5000_26, rf_5000_27, rf_5000_36, rf_5000_37, rf_5000_40, rf_5000_41, rf_5000_42, rf_5000_43, rf_5000_44, rf_5000_45, rf_5000_47, rf_5000_52, rf_5000_54, rf_5000_55, rf_100_0, rf_100_1, rf_103_0, rf_103_1, rf_106_0, rf_106_1, rf_109_0, rf_109_1, al_2, al_4, al_5, al_7, al_8, al_10, al_11, al_12, al_14, al_15, al_17, al_18, al_19, al_20, al_22, al_23, al_24, al_25, al_27, al_28, al_29, al_30, al_32, al_33, al_34, al_35, al_37, al_38, al_40, al_42, al_5001, al_5002, al_5003, al_5004, al_5005, al_5006, al_5007, al_5008, al_5009, al_5010, al_5011, al_5012, al_5013, al_5014, al_5015, al_5016, al_5017, al_5018, al_5019, al_5020, al_5021, al_5022, al_5023, al_5024, al_5025, al_5026, al_9000, al_101, al_102, al_104, al_105, al_107, al_108, al_110, al_111, vcs_e, lg_c0, lg_cs, lg_nil, set_c0, set_cs, okst_0, okst_s, acok_n, acok_c, List.contains_nil, List.contains_cons, Bool.or_false, Bool.false_or, Bool.false_eq_true, if_false, if_true, ite_self, ne_eq, true_and, and_true, not_false_eq_true, not_true_eq_false, false_imp_iff, true_imp_iff, Nat.ble_eq, Bool.and_eq_true, reduceCtorEq, or_false, false_or, or_true, true_or, false_and, and_false, and_self, Int.reduceLE, Int.reduceAdd, Int.reduceSub, Int.reduceMul, Int.reduceNeg, Int.reduceLT, Int.reduceEq, Int.reduceNe, Nat.reduceBEq, Nat.reduceBNe, Nat.reduceEqDiff, amCmp_in, amCmp_lt, amCmp_le, amCmp_gt, amCmp_ge, amCmp_eq, amCmp_ne, Nat.reduceLeDiff, Nat.reduceSub, Bool.and_true, Bool.true_and, Bool.and_self, Bool.or_true, Bool.true_or, isRf_3, isRf_4, isRf_5, isRf_8, isRf_9, isRf_10, isRf_11, isRf_15, isRf_16, isRf_17, isRf_18, isRf_19, isRf_20, isRf_21, isRf_22, isRf_23, isRf_24, isRf_25, isRf_26, isRf_27, isRf_28, k_X11_count_0, k_X11_count_1, k_X11_count_44, k_X11_count_45, k_X11_count_48, k_X11_count_49, k_X11_count_52, k_X11_count_53, k_X11_count_54, k_X11_count_57, k_X11_count_58, k_X11_count_61, k_X11_count_62, k_X11_count_63, k_X11_count_66, k_X11_count_67, k_X11_count_70, k_X11_count_71, k_X11_count_72, k_X11_count_75, k_X11_count_76, k_X11_count_77, k_X11_count_80, k_X11_count_83, k_X11_count_84, k_X11_count_85, k_X11_count_88, k_X11_count_91, k_X11_count_92, k_X11_count_93, k_X11_count_96, k_X11_count_97, k_X11_count_98, k_X11_count_99, k_X11_count_102, w_X11_countOfNow_e, w_X6_many_e, up_s, up_nj, up_na, up_up, savR_o, cpy_o, fillm_o, setAud_o, setv_o, setv_s, Int.reduceNe, Int.reduceEq, Int.reduceLT, Int.reduceAdd, not_false_eq_true, ne_eq, or_true, true_or]
  repeat' (first | assumption | apply And.intro | intro _)
  all_goals first | omega | exact absurd trivial (by assumption) | exact isP6 | exact h0 (by omega) | exact h1 (by omega) | exact h2 (by omega) | exact h3 (by omega) | exact h4 (by omega) | exact h5 (by omega) | exact h6 (by omega) | exact h7 (by omega) | exact h8 (by omega) | exact h9 (by omega) | exact h10 (by omega) | exact h11 (by omega) | exact h12 (by omega) | exact h13 (by omega) | exact h14 (by omega)
