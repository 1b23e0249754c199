/-! ArmchairHouse: ACTS, what would be -/
def rmM (σ : Mem) : Mem := up (up (up (savR σ 33 (σ 31 4 * 28)) 33 (σ 31 4 * 28 + 27) (σ 31 1)) 31 4 ((σ 31 4 + 1) % 40)) 31 3 (min 40 (σ 31 3 + 1))
theorem rmM_e (σ : Mem) : up (up (up (savR σ 33 (σ 31 4 * 28)) 33 (σ 31 4 * 28 + 27) (σ 31 1)) 31 4 ((σ 31 4 + 1) % 40)) 31 3 (min 40 (σ 31 3 + 1)) = rmM σ := rfl
theorem rmM_o (σ : Mem) {b : Int} (h1 : b ≠ 31) (h3 : b ≠ 33) : rmM σ b = σ b := by
  unfold rmM; rw [up_na _ h1, up_na _ h1, up_na _ h3, savR_o _ h3]
def pastOk (σ : Mem) : Prop := (0 ≤ σ 31 4 ∧ σ 31 4 < 40) ∧ (0 ≤ σ 31 3 ∧ σ 31 3 ≤ 40) ∧ 0 ≤ σ 31 1 ∧ σ 31 1 ≤ 1000000
/-- the audience's numbers are small -/
def auS (σ : Mem) (a : Int) : Prop := (∀ i, 0 ≤ i → i < 6 → InR (σ (a + 2) i)) ∧ (∀ i, 0 ≤ i → i < 6 → InR (σ (a + 3) i)) ∧ InR (σ a 5)
def okC (σ : Mem) (a c t : Int) : Prop := (0 ≤ c ∧ c < pcnt σ 6 2) ∧ (0 ≤ t ∧ t < pcnt σ 6 3) ∧ σ (a + 2) c ≠ t ∧ σ a 5 ≤ σ (a + 3) c

theorem wd_868 : Cond.methodLink RX11 232 yX11_canChange ∈ TBL := tb_tab (List.mem_of_getElem? (i := 868) (by decide +kernel)) rfl
theorem wd_871 : Cond.code yX11_canChange cX11_canChange 4 (some .boolean) ∈ TBL := tb_tab (List.mem_of_getElem? (i := 871) (by decide +kernel)) rfl
theorem lk_X11_232 : amLk RX11 232 yX11_canChange cX11_canChange 4 (some .boolean) 3 := ⟨wd_868, wd_1, wd_871, by decide +kernel, by decide +kernel, by decide⟩
theorem wd_870 : Cond.instanceMethod yX11_canChange ∈ TBL := tb_tab (List.mem_of_getElem? (i := 870) (by decide +kernel)) rfl
theorem sl_X11_canChange : Cond.selects RX11 yX11_canChange yX11_canChange ∈ TBL := tb_sel (List.mem_of_getElem? (i := 25) (by decide +kernel)) rfl
theorem wd_326 : Cond.fieldLink RX11 84 "ArmchairHouse" "past" "LArmchairHouse$Past;" ∈ TBL := tb_tab (List.mem_of_getElem? (i := 326) (by decide +kernel)) rfl
theorem fl_X11_84 : amFl RX11 11 13 84 RX11 TX11 17 := ⟨rfl, inT_11, by decide, wd_326⟩
theorem wd_761 : Cond.methodLink RX11 217 yX5_remember ∈ TBL := tb_tab (List.mem_of_getElem? (i := 761) (by decide +kernel)) rfl
theorem wd_764 : Cond.code yX5_remember cX5_remember 3 (none) ∈ TBL := tb_tab (List.mem_of_getElem? (i := 764) (by decide +kernel)) rfl
theorem lk_X11_217 : amLk RX11 217 yX5_remember cX5_remember 3 (none) 1 := ⟨wd_761, wd_8, wd_764, by decide +kernel, by decide +kernel, by decide⟩
theorem wd_762 : Cond.instanceMethod yX5_remember ∈ TBL := tb_tab (List.mem_of_getElem? (i := 762) (by decide +kernel)) rfl
theorem wd_763 : Cond.selects RX5 yX5_remember yX5_remember ∈ TBL := tb_tab (List.mem_of_getElem? (i := 763) (by decide +kernel)) rfl
theorem wd_872 : Cond.methodLink RX11 236 yX0_takeTicket ∈ TBL := tb_tab (List.mem_of_getElem? (i := 872) (by decide +kernel)) rfl
theorem wd_875 : Cond.code yX0_takeTicket cX0_takeTicket 3 (none) ∈ TBL := tb_tab (List.mem_of_getElem? (i := 875) (by decide +kernel)) rfl
theorem lk_X11_236 : amLk RX11 236 yX0_takeTicket cX0_takeTicket 3 (none) 2 := ⟨wd_872, wd_6, wd_875, by decide +kernel, by decide +kernel, by decide⟩
theorem wd_873 : Cond.instanceMethod yX0_takeTicket ∈ TBL := tb_tab (List.mem_of_getElem? (i := 873) (by decide +kernel)) rfl
theorem wd_874 : Cond.selects RX0 yX0_takeTicket yX0_takeTicket ∈ TBL := tb_tab (List.mem_of_getElem? (i := 874) (by decide +kernel)) rfl
def a_X11_change : AC := [(0, vAload 0 1), (1, vAload 0 2), (2, vGetR TT 27 10 16 5), (5, vIload 1 6), (6, vIload 2 7), (7, vCallM w_X11_canChange 27 3 10), (10, vIfNe 15 13), (13, vI (-1) 14), (14, vIret), (15, vAload 0 16), (16, vGetR TT 27 13 21 19), (19, vAload 0 20), (20, vGetR TT 27 10 16 23), (23, vCallMV w_X5_remember 21 1 26), (26, vAload 0 27), (27, vGetR TT 27 10 16 30), (30, vIload 1 31), (31, vIload 2 32), (32, vCallMV w_X0_takeTicket 16 2 35), (35, vAload 0 36), (36, vGetR TT 27 10 16 39), (39, vGetR TT 16 2 8 42), (42, vIload 1 43), (43, vIald TT 44), (44, vIret)]
theorem k_X11_change_0 : look a_X11_change 0 = vAload 0 1 := rfl
theorem k_X11_change_1 : look a_X11_change 1 = vAload 0 2 := rfl
theorem k_X11_change_2 : look a_X11_change 2 = vGetR TT 27 10 16 5 := rfl
theorem k_X11_change_5 : look a_X11_change 5 = vIload 1 6 := rfl
theorem k_X11_change_6 : look a_X11_change 6 = vIload 2 7 := rfl
theorem k_X11_change_7 : look a_X11_change 7 = vCallM w_X11_canChange 27 3 10 := rfl
theorem k_X11_change_10 : look a_X11_change 10 = vIfNe 15 13 := rfl
theorem k_X11_change_13 : look a_X11_change 13 = vI (-1) 14 := rfl
theorem k_X11_change_14 : look a_X11_change 14 = vIret := rfl
theorem k_X11_change_15 : look a_X11_change 15 = vAload 0 16 := rfl
theorem k_X11_change_16 : look a_X11_change 16 = vGetR TT 27 13 21 19 := rfl
theorem k_X11_change_19 : look a_X11_change 19 = vAload 0 20 := rfl
theorem k_X11_change_20 : look a_X11_change 20 = vGetR TT 27 10 16 23 := rfl
theorem k_X11_change_23 : look a_X11_change 23 = vCallMV w_X5_remember 21 1 26 := rfl
theorem k_X11_change_26 : look a_X11_change 26 = vAload 0 27 := rfl
theorem k_X11_change_27 : look a_X11_change 27 = vGetR TT 27 10 16 30 := rfl
theorem k_X11_change_30 : look a_X11_change 30 = vIload 1 31 := rfl
theorem k_X11_change_31 : look a_X11_change 31 = vIload 2 32 := rfl
theorem k_X11_change_32 : look a_X11_change 32 = vCallMV w_X0_takeTicket 16 2 35 := rfl
theorem k_X11_change_35 : look a_X11_change 35 = vAload 0 36 := rfl
theorem k_X11_change_36 : look a_X11_change 36 = vGetR TT 27 10 16 39 := rfl
theorem k_X11_change_39 : look a_X11_change 39 = vGetR TT 16 2 8 42 := rfl
theorem k_X11_change_42 : look a_X11_change 42 = vIload 1 43 := rfl
theorem k_X11_change_43 : look a_X11_change 43 = vIald TT 44 := rfl
theorem k_X11_change_44 : look a_X11_change 44 = vIret := rfl
theorem o_X11_change {X : amX} (e1 : XT X = TT) (e2 : XD X = 4) (hB : amB X RX11 cX11_change (some .int) 3) : ∀ pc, amOK X pc (look a_X11_change pc) := by
  have hT : amTok (XT X) := e1 ▸ TT_ok
  refine look_ok ?_
  unfold a_X11_change
  refine fc (ok_aload_n hB dX11_change_0) ?_
  refine fc (ok_aload_n hB dX11_change_1) ?_
  refine fc (okt_getR e1 hB hT fl_X11_65 rfl af_11_10 at_11_10 (by decide) dX11_change_2) ?_
  refine fc (ok_iload_n hB dX11_change_5) ?_
  refine fc (ok_iload_n hB dX11_change_6) ?_
  refine fc (ok_callM hB hT (e1 ▸ s_X11_canChange) lk_X11_232 (by rw [e2]; decide) (c := 11) rfl rfl rfl wd_870 sl_X11_canChange dX11_change_7) ?_
  refine fc (ok_if_ne hB (t := 15) (by decide) dX11_change_10) ?_
  refine fc (ok_iconst hB dX11_change_13) ?_
  refine fc (ok_iret hB dX11_change_14) ?_
  refine fc (ok_aload_n hB dX11_change_15) ?_
  refine fc (okt_getR e1 hB hT fl_X11_84 rfl af_11_13 at_11_13 (by decide) dX11_change_16) ?_
  refine fc (ok_aload_n hB dX11_change_19) ?_
  refine fc (okt_getR e1 hB hT fl_X11_65 rfl af_11_10 at_11_10 (by decide) dX11_change_20) ?_
  refine fc (ok_callMV hB hT (e1 ▸ s_X5_remember) lk_X11_217 (by rw [e2]; decide) (c := 5) rfl rfl rfl wd_762 wd_763 dX11_change_23) ?_
  refine fc (ok_aload_n hB dX11_change_26) ?_
  refine fc (okt_getR e1 hB hT fl_X11_65 rfl af_11_10 at_11_10 (by decide) dX11_change_27) ?_
  refine fc (ok_iload_n hB dX11_change_30) ?_
  refine fc (ok_iload_n hB dX11_change_31) ?_
  refine fc (ok_callMV hB hT (e1 ▸ s_X0_takeTicket) lk_X11_236 (by rw [e2]; decide) (c := 0) rfl rfl rfl wd_873 wd_874 dX11_change_32) ?_
  refine fc (ok_aload_n hB dX11_change_35) ?_
  refine fc (okt_getR e1 hB hT fl_X11_65 rfl af_11_10 at_11_10 (by decide) dX11_change_36) ?_
  refine fc (okt_getR e1 hB hT fl_X11_196 rfl af_0_2 at_0_2 (by decide) dX11_change_39) ?_
  refine fc (ok_iload_n hB dX11_change_42) ?_
  refine fc (okt_iaload e1 hB dX11_change_43) ?_
  refine fc (ok_iret hB dX11_change_44) ?_
  exact fn

def w_X11_change : WP := fun av σ Q => ∃ (c : Int) (t : Int), av = [(27, 0), (0, c), (0, t)] ∧ (InR c ∧ InR t ∧ planB σ 6 ∧ auS σ 16 ∧ pastOk σ ∧ (¬ okC σ 16 c t → Q (0, -1) σ) ∧ (okC σ 16 c t → Q (0, σ 19 c - σ 16 5) (up (up (rmM σ) 19 c (σ 19 c - σ 16 5)) 18 c t)))
theorem w_X11_change_e (c : Int) (t : Int) (σ : Mem) (Q : AV → Mem → Prop) : w_X11_change [(27, 0), (0, c), (0, t)] σ Q = (InR c ∧ InR t ∧ planB σ 6 ∧ auS σ 16 ∧ pastOk σ ∧ (¬ okC σ 16 c t → Q (0, -1) σ) ∧ (okC σ 16 c t → Q (0, σ 19 c - σ 16 5) (up (up (rmM σ) 19 c (σ 19 c - σ 16 5)) 18 c t))) := by
  apply propext; constructor
  · rintro ⟨c', t', h9, hb9⟩; cases h9; exact hb9
  · intro hb9; exact ⟨c, t, rfl, hb9⟩

set_option maxRecDepth 100000 in
set_option maxHeartbeats 4000000 in
theorem s_X11_change : ∀ av σ Q, w_X11_change av σ Q → amCall 4 0 0 TT yX11_change cX11_change 3 (some .int) av σ Q := by
  rintro av σ Q ⟨c, t, rfl, hc, ht, hB, hau, hpa, h1, h2⟩
  have c2 := pcnt_b hB 2
  obtain ⟨a1, a2, a3⟩ := id hau
  obtain ⟨p1, p2, p3⟩ := id hpa
  have o19 : rmM σ 19 = σ 19 := rmM_o σ (by decide) (by decide)
  have o16 : rmM σ 16 = σ 16 := rmM_o σ (by decide) (by decide)
  have e1 : (16 : Int) + 2 = 18 := rfl
  have e2 : (16 : Int) + 3 = 19 := rfl
  refine am_m0 (own := RX11) (A := look a_X11_change) (fun X e1 e2 hB => o_X11_change e1 e2 hB) rfl (by decide +kernel) rfl rfl 190 (w := 3) ?_
  change vcs _ _ _ _ 190 0 [(27, 0), (0, c), (0, t)] [] σ
  simp only [↓reduceIte, inR_0, inR_1, inR_m, vSw2_e, swP_n, swP_c, vI_e, vL_e, vNull_e, vIload_e, vLload_e, vAload_e, vIstore_e, vLstore_e, vAstore_e, vIinc_e, vIadd_e, vIsub_e, vImul_e, vIand_e, vIor_e, vIxor_e, vIshl_e, vIshr_e, vIushr_e, vIdiv_e, vIrem_e, vLadd_e, vLsub_e, vLmul_e, vLand_e, vLor_e, vLxor_e, vLdiv_e, vLrem_e, vLushr_e, vLshl_e, vLcmp_e, vIneg_e, vI2l_e, vL2i_e, vI2b_e, vI2c_e, vDup_e, vPop_e, vDup2_e, vGoto_e, vIcEq_e, vIfEq_e, vIcNe_e, vIfNe_e, vIcLt_e, vIfLt_e, vIcGe_e, vIfGe_e, vIcGt_e, vIfGt_e, vIcLe_e, vIfLe_e, vNonnull_e, vSw_e, vGetI_e, vGetL_e, vGetR_e, vPutI_e, vPutZ_e, vPutL_e, vPutR_e, vIald_e, vIald_s, vLald_e, vBald_e, vBald_s, vAald_e, vIast_e, vLast_e, vBast_e, vAast_e, vAlen_e8, vAlen_e9, vAlen_e10, vAlen_e11, vAlen_e5, vAlen_e3, vGets_e, vCompact_e, vLdcS_e, vIret_e, vZret_e, vCret_e, vBret_e, vLret_e, vVret_e, vAret_e, vCallM_e0, vCallMV_e0, vCallS_e0, vCallSV_e0, vCallM_e1, vCallMV_e1, vCallS_e1, vCallSV_e1, vCallM_e2, vCallMV_e2, vCallS_e2, vCallSV_e2, vCallM_e3, vCallMV_e3, vCallS_e3, vCallSV_e3, vCallM_e4, vCallMV_e4, vCallS_e4, vCallSV_e4, vCallM_e5, vCallMV_e5, vCallS_e5, vCallSV_e5, vCallM_e6, vCallMV_e6, vCallS_e6, vCallSV_e6, vCallM_e7, vCallMV_e7, vCallS_e7, vCallSV_e7, vBad_e, vStrVal_e, vStrCod_e, vForm_e, vCallT_e0, vCallT_e1, vCallT_e2, vCopy_e, rf_0_0, rf_0_1, rf_0_2, rf_0_3, rf_0_4, rf_0_7, rf_0_10, rf_0_11, rf_0_12, rf_0_13, rf_0_14, rf_0_15, rf_0_16, rf_1_0, rf_3_0, rf_3_1, rf_6_0, rf_6_1, rf_9_0, rf_9_1, rf_9_3, rf_13_0, rf_13_1, rf_13_2, rf_16_0, rf_16_1, rf_16_2, rf_16_3, rf_21_0, rf_21_1, rf_21_2, rf_21_3, rf_26_0, rf_26_1, rf_26_2, rf_26_3, rf_26_4, rf_26_5, rf_26_6, rf_31_0, rf_31_2, rf_31_5, rf_31_6, rf_36_0, rf_36_1, rf_36_2, rf_36_3, rf_39_0, rf_39_1, rf_39_2, rf_41_0, rf_41_1, rf_41_2, rf_41_3, rf_5000_1, rf_5000_2, rf_5000_3, rf_5000_4, rf_5000_5, rf_5000_15, rf_5000_16, rf_5000_18, rf_5000_19, rf_5000_20, rf_5000_21, rf_5000_22, rf_5000_23, rf_5000_24, rf_5000_25, rf_5000_26, rf_5000_27, rf_5000_36, rf_5000_37, rf_5000_40, rf_5000_41, rf_5000_42, rf_5000_43, rf_5000_44, rf_5000_45, rf_5000_47, rf_5000_52, rf_5000_54, rf_5000_55, rf_100_0, rf_100_1, rf_103_0, rf_103_1, rf_106_0, rf_106_1, rf_109_0, rf_109_1, al_2, al_4, al_5, al_7, al_8, al_10, al_11, al_12, al_14, al_15, al_17, al_18, al_19, al_20, al_22, al_23, al_24, al_25, al_27, al_28, al_29, al_30, al_32, al_33, al_34, al_35, al_37, al_38, al_40, al_42, al_5001, al_5002, al_5003, al_5004, al_5005, al_5006, al_5007, al_5008, al_5009, al_5010, al_5011, al_5012, al_5013, al_5014, al_5015, al_5016, al_5017, al_5018, al_5019, al_5020, al_5021, al_5022, al_5023, al_5024, al_5025, al_5026, al_9000, al_101, al_102, al_104, al_105, al_107, al_108, al_110, al_111, vcs_e, lg_c0, lg_cs, lg_nil, set_c0, set_cs, okst_0, okst_s, acok_n, acok_c, List.contains_nil, List.contains_cons, Bool.or_false, Bool.false_or, Bool.false_eq_true, if_false, if_true, ite_self, ne_eq, true_and, and_true, not_false_eq_true, not_true_eq_false, false_imp_iff, true_imp_iff, Nat.ble_eq, Bool.and_eq_true, reduceCtorEq, or_false, false_or, or_true, true_or, false_and, and_false, and_self, Int.reduceLE, Int.reduceAdd, Int.reduceSub, Int.reduceMul, Int.reduceNeg, Int.reduceLT, Int.reduceEq, Int.reduceNe, Nat.reduceBEq, Nat.reduceBNe, Nat.reduceEqDiff, amCmp_in, amCmp_lt, amCmp_le, amCmp_gt, amCmp_ge, amCmp_eq, amCmp_ne, Nat.reduceLeDiff, Nat.reduceSub, Bool.and_true, Bool.true_and, Bool.and_self, Bool.or_true, Bool.true_or, isRf_3, isRf_4, isRf_5, isRf_8, isRf_9, isRf_10, isRf_11, isRf_15, isRf_16, isRf_17, isRf_18, isRf_19, isRf_20, isRf_21, isRf_22, isRf_23, isRf_24, isRf_25, isRf_26, isRf_27, isRf_28, k_X11_change_0, k_X11_change_1, k_X11_change_2, k_X11_change_5, k_X11_change_6, k_X11_change_7, k_X11_change_10, k_X11_change_13, k_X11_change_14, k_X11_change_15, k_X11_change_16, k_X11_change_19, k_X11_change_20, k_X11_change_23, k_X11_change_26, k_X11_change_27, k_X11_change_30, k_X11_change_31, k_X11_change_32, k_X11_change_35, k_X11_change_36, k_X11_change_39, k_X11_change_42, k_X11_change_43, k_X11_change_44, w_X0_takeTicket_e, w_X11_canChange_e, w_X5_remember_e, up_s, up_nj, up_na, up_up, savR_o, cpy_o, fillm_o, setAud_o, setv_o, setv_s, Int.reduceNe, Int.reduceEq, Int.reduceLT, Int.reduceAdd, not_false_eq_true, ne_eq, or_true, true_or, rmM_e, o19, o16]
  unfold okC at h1 h2
  rw [e1, e2] at h1 h2
  by_cases d : (0 ≤ c ∧ c < pcnt σ 6 2) ∧ (0 ≤ t ∧ t < pcnt σ 6 3) ∧ σ 18 c ≠ t ∧ σ 16 5 ≤ σ 19 c
  · have hh := h2 d
    rw [if_pos d]
    repeat' (first | assumption | apply And.intro | intro _)
    all_goals first | omega | exact absurd trivial (by assumption) | exact isA16 | exact hh
  · have hh := h1 d
    rw [if_neg d]
    repeat' (first | assumption | apply And.intro | intro _)
    all_goals first | omega | exact absurd trivial (by assumption) | exact isA16 | exact hh
theorem wd_880 : Cond.methodLink RX11 240 yX11_canFallIll ∈ TBL := tb_tab (List.mem_of_getElem? (i := 880) (by decide +kernel)) rfl
theorem wd_883 : Cond.code yX11_canFallIll cX11_canFallIll 3 (some .boolean) ∈ TBL := tb_tab (List.mem_of_getElem? (i := 883) (by decide +kernel)) rfl
theorem lk_X11_240 : amLk RX11 240 yX11_canFallIll cX11_canFallIll 3 (some .boolean) 2 := ⟨wd_880, wd_1, wd_883, by decide +kernel, by decide +kernel, by decide⟩
theorem wd_882 : Cond.instanceMethod yX11_canFallIll ∈ TBL := tb_tab (List.mem_of_getElem? (i := 882) (by decide +kernel)) rfl
theorem sl_X11_canFallIll : Cond.selects RX11 yX11_canFallIll yX11_canFallIll ∈ TBL := tb_sel (List.mem_of_getElem? (i := 26) (by decide +kernel)) rfl
theorem wd_884 : Cond.methodLink RX11 243 yX0_fallIll ∈ TBL := tb_tab (List.mem_of_getElem? (i := 884) (by decide +kernel)) rfl
theorem wd_887 : Cond.code yX0_fallIll cX0_fallIll 2 (none) ∈ TBL := tb_tab (List.mem_of_getElem? (i := 887) (by decide +kernel)) rfl
theorem lk_X11_243 : amLk RX11 243 yX0_fallIll cX0_fallIll 2 (none) 1 := ⟨wd_884, wd_6, wd_887, by decide +kernel, by decide +kernel, by decide⟩
theorem wd_885 : Cond.instanceMethod yX0_fallIll ∈ TBL := tb_tab (List.mem_of_getElem? (i := 885) (by decide +kernel)) rfl
theorem wd_886 : Cond.selects RX0 yX0_fallIll yX0_fallIll ∈ TBL := tb_tab (List.mem_of_getElem? (i := 886) (by decide +kernel)) rfl
def a_X11_ill : AC := [(0, vAload 0 1), (1, vAload 0 2), (2, vGetR TT 27 10 16 5), (5, vIload 1 6), (6, vCallM w_X11_canFallIll 27 2 9), (9, vIfNe 14 12), (12, vI 0 13), (13, vZret), (14, vAload 0 15), (15, vGetR TT 27 13 21 18), (18, vAload 0 19), (19, vGetR TT 27 10 16 22), (22, vCallMV w_X5_remember 21 1 25), (25, vAload 0 26), (26, vGetR TT 27 10 16 29), (29, vIload 1 30), (30, vCallMV w_X0_fallIll 16 1 33), (33, vI 1 34), (34, vZret)]
theorem k_X11_ill_0 : look a_X11_ill 0 = vAload 0 1 := rfl
theorem k_X11_ill_1 : look a_X11_ill 1 = vAload 0 2 := rfl
theorem k_X11_ill_2 : look a_X11_ill 2 = vGetR TT 27 10 16 5 := rfl
theorem k_X11_ill_5 : look a_X11_ill 5 = vIload 1 6 := rfl
theorem k_X11_ill_6 : look a_X11_ill 6 = vCallM w_X11_canFallIll 27 2 9 := rfl
theorem k_X11_ill_9 : look a_X11_ill 9 = vIfNe 14 12 := rfl
theorem k_X11_ill_12 : look a_X11_ill 12 = vI 0 13 := rfl
theorem k_X11_ill_13 : look a_X11_ill 13 = vZret := rfl
theorem k_X11_ill_14 : look a_X11_ill 14 = vAload 0 15 := rfl
theorem k_X11_ill_15 : look a_X11_ill 15 = vGetR TT 27 13 21 18 := rfl
theorem k_X11_ill_18 : look a_X11_ill 18 = vAload 0 19 := rfl
theorem k_X11_ill_19 : look a_X11_ill 19 = vGetR TT 27 10 16 22 := rfl
theorem k_X11_ill_22 : look a_X11_ill 22 = vCallMV w_X5_remember 21 1 25 := rfl
theorem k_X11_ill_25 : look a_X11_ill 25 = vAload 0 26 := rfl
theorem k_X11_ill_26 : look a_X11_ill 26 = vGetR TT 27 10 16 29 := rfl
theorem k_X11_ill_29 : look a_X11_ill 29 = vIload 1 30 := rfl
theorem k_X11_ill_30 : look a_X11_ill 30 = vCallMV w_X0_fallIll 16 1 33 := rfl
theorem k_X11_ill_33 : look a_X11_ill 33 = vI 1 34 := rfl
theorem k_X11_ill_34 : look a_X11_ill 34 = vZret := rfl
theorem o_X11_ill {X : amX} (e1 : XT X = TT) (e2 : XD X = 4) (hB : amB X RX11 cX11_ill (some .boolean) 2) : ∀ pc, amOK X pc (look a_X11_ill pc) := by
  have hT : amTok (XT X) := e1 ▸ TT_ok
  refine look_ok ?_
  unfold a_X11_ill
  refine fc (ok_aload_n hB dX11_ill_0) ?_
  refine fc (ok_aload_n hB dX11_ill_1) ?_
  refine fc (okt_getR e1 hB hT fl_X11_65 rfl af_11_10 at_11_10 (by decide) dX11_ill_2) ?_
  refine fc (ok_iload_n hB dX11_ill_5) ?_
  refine fc (ok_callM hB hT (e1 ▸ s_X11_canFallIll) lk_X11_240 (by rw [e2]; decide) (c := 11) rfl rfl rfl wd_882 sl_X11_canFallIll dX11_ill_6) ?_
  refine fc (ok_if_ne hB (t := 14) (by decide) dX11_ill_9) ?_
  refine fc (ok_iconst hB dX11_ill_12) ?_
  refine fc (ok_zret hB dX11_ill_13) ?_
  refine fc (ok_aload_n hB dX11_ill_14) ?_
  refine fc (okt_getR e1 hB hT fl_X11_84 rfl af_11_13 at_11_13 (by decide) dX11_ill_15) ?_
  refine fc (ok_aload_n hB dX11_ill_18) ?_
  refine fc (okt_getR e1 hB hT fl_X11_65 rfl af_11_10 at_11_10 (by decide) dX11_ill_19) ?_
  refine fc (ok_callMV hB hT (e1 ▸ s_X5_remember) lk_X11_217 (by rw [e2]; decide) (c := 5) rfl rfl rfl wd_762 wd_763 dX11_ill_22) ?_
  refine fc (ok_aload_n hB dX11_ill_25) ?_
  refine fc (okt_getR e1 hB hT fl_X11_65 rfl af_11_10 at_11_10 (by decide) dX11_ill_26) ?_
  refine fc (ok_iload_n hB dX11_ill_29) ?_
  refine fc (ok_callMV hB hT (e1 ▸ s_X0_fallIll) lk_X11_243 (by rw [e2]; decide) (c := 0) rfl rfl rfl wd_885 wd_886 dX11_ill_30) ?_
  refine fc (ok_iconst hB dX11_ill_33) ?_
  refine fc (ok_zret hB dX11_ill_34) ?_
  exact fn

def w_X11_ill : WP := fun av σ Q => ∃ (t : Int), av = [(27, 0), (0, t)] ∧ (InR t ∧ planB σ 6 ∧ InR (σ 16 4) ∧ pastOk σ ∧ (¬ (0 ≤ t ∧ t < pcnt σ 6 3 ∧ bt (σ 16 4) t = 0) → Q (0, 0) σ) ∧ (0 ≤ t ∧ t < pcnt σ 6 3 ∧ bt (σ 16 4) t = 0 → Q (0, 1) (up (rmM σ) 16 4 (amIor (σ 16 4) (amIshl 1 t)))))
theorem w_X11_ill_e (t : Int) (σ : Mem) (Q : AV → Mem → Prop) : w_X11_ill [(27, 0), (0, t)] σ Q = (InR t ∧ planB σ 6 ∧ InR (σ 16 4) ∧ pastOk σ ∧ (¬ (0 ≤ t ∧ t < pcnt σ 6 3 ∧ bt (σ 16 4) t = 0) → Q (0, 0) σ) ∧ (0 ≤ t ∧ t < pcnt σ 6 3 ∧ bt (σ 16 4) t = 0 → Q (0, 1) (up (rmM σ) 16 4 (amIor (σ 16 4) (amIshl 1 t))))) := by
  apply propext; constructor
  · rintro ⟨t', h9, hb9⟩; cases h9; exact hb9
  · intro hb9; exact ⟨t, rfl, hb9⟩

set_option maxRecDepth 100000 in
set_option maxHeartbeats 4000000 in
theorem s_X11_ill : ∀ av σ Q, w_X11_ill av σ Q → amCall 4 0 0 TT yX11_ill cX11_ill 2 (some .boolean) av σ Q := by
  rintro av σ Q ⟨t, rfl, ht, hB, hi, hpa, h1, h2⟩
  have c3 := pcnt_b hB 3
  obtain ⟨p1, p2, p3⟩ := id hpa
  have o16 : rmM σ 16 = σ 16 := rmM_o σ (by decide) (by decide)
  refine am_m0 (own := RX11) (A := look a_X11_ill) (fun X e1 e2 hB => o_X11_ill e1 e2 hB) rfl (by decide +kernel) rfl rfl 190 (w := 2) ?_
  change vcs _ _ _ _ 190 0 [(27, 0), (0, t)] [] σ
  simp only [↓reduceIte, inR_0, inR_1, inR_m, vSw2_e, swP_n, swP_c, vI_e, vL_e, vNull_e, vIload_e, vLload_e, vAload_e, vIstore_e, vLstore_e, vAstore_e, vIinc_e, vIadd_e, vIsub_e, vImul_e, vIand_e, vIor_e, vIxor_e, vIshl_e, vIshr_e, vIushr_e, vIdiv_e, vIrem_e, vLadd_e, vLsub_e, vLmul_e, vLand_e, vLor_e, vLxor_e, vLdiv_e, vLrem_e, vLushr_e, vLshl_e, vLcmp_e, vIneg_e, vI2l_e, vL2i_e, vI2b_e, vI2c_e, vDup_e, vPop_e, vDup2_e, vGoto_e, vIcEq_e, vIfEq_e, vIcNe_e, vIfNe_e, vIcLt_e, vIfLt_e, vIcGe_e, vIfGe_e, vIcGt_e, vIfGt_e, vIcLe_e, vIfLe_e, vNonnull_e, vSw_e, vGetI_e, vGetL_e, vGetR_e, vPutI_e, vPutZ_e, vPutL_e, vPutR_e, vIald_e, vIald_s, vLald_e, vBald_e, vBald_s, vAald_e, vIast_e, vLast_e, vBast_e, vAast_e, vAlen_e8, vAlen_e9, vAlen_e10, vAlen_e11, vAlen_e5, vAlen_e3, vGets_e, vCompact_e, vLdcS_e, vIret_e, vZret_e, vCret_e, vBret_e, vLret_e, vVret_e, vAret_e, vCallM_e0, vCallMV_e0, vCallS_e0, vCallSV_e0, vCallM_e1, vCallMV_e1, vCallS_e1, vCallSV_e1, vCallM_e2, vCallMV_e2, vCallS_e2, vCallSV_e2, vCallM_e3, vCallMV_e3, vCallS_e3, vCallSV_e3, vCallM_e4, vCallMV_e4, vCallS_e4, vCallSV_e4, vCallM_e5, vCallMV_e5, vCallS_e5, vCallSV_e5, vCallM_e6, vCallMV_e6, vCallS_e6, vCallSV_e6, vCallM_e7, vCallMV_e7, vCallS_e7, vCallSV_e7, vBad_e, vStrVal_e, vStrCod_e, vForm_e, vCallT_e0, vCallT_e1, vCallT_e2, vCopy_e, rf_0_0, rf_0_1, rf_0_2, rf_0_3, rf_0_4, rf_0_7, rf_0_10, rf_0_11, rf_0_12, rf_0_13, rf_0_14, rf_0_15, rf_0_16, rf_1_0, rf_3_0, rf_3_1, rf_6_0, rf_6_1, rf_9_0, rf_9_1, rf_9_3, rf_13_0, rf_13_1, rf_13_2, rf_16_0, rf_16_1, rf_16_2, rf_16_3, rf_21_0, rf_21_1, rf_21_2, rf_21_3, rf_26_0, rf_26_1, rf_26_2, rf_26_3, rf_26_4, rf_26_5, rf_26_6, rf_31_0, rf_31_2, rf_31_5, rf_31_6, rf_36_0, rf_36_1, rf_36_2, rf_36_3, rf_39_0, rf_39_1, rf_39_2, rf_41_0, rf_41_1, rf_41_2, rf_41_3, rf_5000_1, rf_5000_2, rf_5000_3, rf_5000_4, rf_5000_5, rf_5000_15, rf_5000_16, rf_5000_18, rf_5000_19, rf_5000_20, rf_5000_21, rf_5000_22, rf_5000_23, rf_5000_24, rf_5000_25, rf_5000_26, rf_5000_27, rf_5000_36, rf_5000_37, rf_5000_40, rf_5000_41, rf_5000_42, rf_5000_43, rf_5000_44, rf_5000_45, rf_5000_47, rf_5000_52, rf_5000_54, rf_5000_55, rf_100_0, rf_100_1, rf_103_0, rf_103_1, rf_106_0, rf_106_1, rf_109_0, rf_109_1, al_2, al_4, al_5, al_7, al_8, al_10, al_11, al_12, al_14, al_15, al_17, al_18, al_19, al_20, al_22, al_23, al_24, al_25, al_27, al_28, al_29, al_30, al_32, al_33, al_34, al_35, al_37, al_38, al_40, al_42, al_5001, al_5002, al_5003, al_5004, al_5005, al_5006, al_5007, al_5008, al_5009, al_5010, al_5011, al_5012, al_5013, al_5014, al_5015, al_5016, al_5017, al_5018, al_5019, al_5020, al_5021, al_5022, al_5023, al_5024, al_5025, al_5026, al_9000, al_101, al_102, al_104, al_105, al_107, al_108, al_110, al_111, vcs_e, lg_c0, lg_cs, lg_nil, set_c0, set_cs, okst_0, okst_s, acok_n, acok_c, List.contains_nil, List.contains_cons, Bool.or_false, Bool.false_or, Bool.false_eq_true, if_false, if_true, ite_self, ne_eq, true_and, and_true, not_false_eq_true, not_true_eq_false, false_imp_iff, true_imp_iff, Nat.ble_eq, Bool.and_eq_true, reduceCtorEq, or_false, false_or, or_true, true_or, false_and, and_false, and_self, Int.reduceLE, Int.reduceAdd, Int.reduceSub, Int.reduceMul, Int.reduceNeg, Int.reduceLT, Int.reduceEq, Int.reduceNe, Nat.reduceBEq, Nat.reduceBNe, Nat.reduceEqDiff, amCmp_in, amCmp_lt, amCmp_le, amCmp_gt, amCmp_ge, amCmp_eq, amCmp_ne, Nat.reduceLeDiff, Nat.reduceSub, Bool.and_true, Bool.true_and, Bool.and_self, Bool.or_true, Bool.true_or, isRf_3, isRf_4, isRf_5, isRf_8, isRf_9, isRf_10, isRf_11, isRf_15, isRf_16, isRf_17, isRf_18, isRf_19, isRf_20, isRf_21, isRf_22, isRf_23, isRf_24, isRf_25, isRf_26, isRf_27, isRf_28, k_X11_ill_0, k_X11_ill_1, k_X11_ill_2, k_X11_ill_5, k_X11_ill_6, k_X11_ill_9, k_X11_ill_12, k_X11_ill_13, k_X11_ill_14, k_X11_ill_15, k_X11_ill_18, k_X11_ill_19, k_X11_ill_22, k_X11_ill_25, k_X11_ill_26, k_X11_ill_29, k_X11_ill_30, k_X11_ill_33, k_X11_ill_34, w_X0_fallIll_e, w_X11_canFallIll_e, w_X5_remember_e, up_s, up_nj, up_na, up_up, savR_o, cpy_o, fillm_o, setAud_o, setv_o, setv_s, Int.reduceNe, Int.reduceEq, Int.reduceLT, Int.reduceAdd, not_false_eq_true, ne_eq, or_true, true_or, rmM_e, o16]
  by_cases d : 0 ≤ t ∧ t < pcnt σ 6 3 ∧ bt (σ 16 4) t = 0
  · have hh := h2 d
    rw [if_pos d]
    repeat' (first | assumption | apply And.intro | intro _)
    all_goals first | omega | exact absurd trivial (by assumption) | exact isA16 | exact hh
  · have hh := h1 d
    rw [if_neg d]
    repeat' (first | assumption | apply And.intro | intro _)
    all_goals first | omega | exact absurd trivial (by assumption) | exact isA16 | exact hh
theorem wd_144 : Cond.fieldLink RX11 189 "ArmchairHouse$Audience" "hearts" "[I" ∈ TBL := tb_tab (List.mem_of_getElem? (i := 144) (by decide +kernel)) rfl
theorem fl_X11_189 : amFl RX11 0 0 189 RX0 TX0 7 := ⟨rfl, inT_0, by decide, wd_144⟩
def a_X11_heart : AC := [(0, vAload 0 1), (1, vGetR TT 27 2 22 4), (4, vI 2 5), (5, vIload 1 6), (6, vCallM w_X6_has 22 2 9), (9, vIfEq 35 12), (12, vIload 2 13), (13, vIfLt 35 16), (16, vIload 2 17), (17, vI 9 19), (19, vIcGt 35 22), (22, vAload 0 23), (23, vGetR TT 27 10 16 26), (26, vGetR TT 16 0 8 29), (29, vIload 1 30), (30, vIald TT 31), (31, vIload 2 32), (32, vIcNe 37 35), (35, vI (-1) 36), (36, vIret), (37, vAload 0 38), (38, vGetR TT 27 13 21 41), (41, vAload 0 42), (42, vGetR TT 27 10 16 45), (45, vCallMV w_X5_remember 21 1 48), (48, vAload 0 49), (49, vGetR TT 27 10 16 52), (52, vGetR TT 16 0 8 55), (55, vIload 1 56), (56, vIald TT 57), (57, vIstore 3 58), (58, vAload 0 59), (59, vGetR TT 27 10 16 62), (62, vGetR TT 16 0 8 65), (65, vIload 1 66), (66, vIload 2 67), (67, vIast TT 68), (68, vIload 3 69), (69, vIret)]
theorem k_X11_heart_0 : look a_X11_heart 0 = vAload 0 1 := rfl
theorem k_X11_heart_1 : look a_X11_heart 1 = vGetR TT 27 2 22 4 := rfl
theorem k_X11_heart_4 : look a_X11_heart 4 = vI 2 5 := rfl
theorem k_X11_heart_5 : look a_X11_heart 5 = vIload 1 6 := rfl
theorem k_X11_heart_6 : look a_X11_heart 6 = vCallM w_X6_has 22 2 9 := rfl
theorem k_X11_heart_9 : look a_X11_heart 9 = vIfEq 35 12 := rfl
theorem k_X11_heart_12 : look a_X11_heart 12 = vIload 2 13 := rfl
theorem k_X11_heart_13 : look a_X11_heart 13 = vIfLt 35 16 := rfl
theorem k_X11_heart_16 : look a_X11_heart 16 = vIload 2 17 := rfl
theorem k_X11_heart_17 : look a_X11_heart 17 = vI 9 19 := rfl
theorem k_X11_heart_19 : look a_X11_heart 19 = vIcGt 35 22 := rfl
theorem k_X11_heart_22 : look a_X11_heart 22 = vAload 0 23 := rfl
theorem k_X11_heart_23 : look a_X11_heart 23 = vGetR TT 27 10 16 26 := rfl
theorem k_X11_heart_26 : look a_X11_heart 26 = vGetR TT 16 0 8 29 := rfl
theorem k_X11_heart_29 : look a_X11_heart 29 = vIload 1 30 := rfl
theorem k_X11_heart_30 : look a_X11_heart 30 = vIald TT 31 := rfl
theorem k_X11_heart_31 : look a_X11_heart 31 = vIload 2 32 := rfl
theorem k_X11_heart_32 : look a_X11_heart 32 = vIcNe 37 35 := rfl
theorem k_X11_heart_35 : look a_X11_heart 35 = vI (-1) 36 := rfl
theorem k_X11_heart_36 : look a_X11_heart 36 = vIret := rfl
theorem k_X11_heart_37 : look a_X11_heart 37 = vAload 0 38 := rfl
theorem k_X11_heart_38 : look a_X11_heart 38 = vGetR TT 27 13 21 41 := rfl
theorem k_X11_heart_41 : look a_X11_heart 41 = vAload 0 42 := rfl
theorem k_X11_heart_42 : look a_X11_heart 42 = vGetR TT 27 10 16 45 := rfl
theorem k_X11_heart_45 : look a_X11_heart 45 = vCallMV w_X5_remember 21 1 48 := rfl
theorem k_X11_heart_48 : look a_X11_heart 48 = vAload 0 49 := rfl
theorem k_X11_heart_49 : look a_X11_heart 49 = vGetR TT 27 10 16 52 := rfl
theorem k_X11_heart_52 : look a_X11_heart 52 = vGetR TT 16 0 8 55 := rfl
theorem k_X11_heart_55 : look a_X11_heart 55 = vIload 1 56 := rfl
theorem k_X11_heart_56 : look a_X11_heart 56 = vIald TT 57 := rfl
theorem k_X11_heart_57 : look a_X11_heart 57 = vIstore 3 58 := rfl
theorem k_X11_heart_58 : look a_X11_heart 58 = vAload 0 59 := rfl
theorem k_X11_heart_59 : look a_X11_heart 59 = vGetR TT 27 10 16 62 := rfl
theorem k_X11_heart_62 : look a_X11_heart 62 = vGetR TT 16 0 8 65 := rfl
theorem k_X11_heart_65 : look a_X11_heart 65 = vIload 1 66 := rfl
theorem k_X11_heart_66 : look a_X11_heart 66 = vIload 2 67 := rfl
theorem k_X11_heart_67 : look a_X11_heart 67 = vIast TT 68 := rfl
theorem k_X11_heart_68 : look a_X11_heart 68 = vIload 3 69 := rfl
theorem k_X11_heart_69 : look a_X11_heart 69 = vIret := rfl
theorem o_X11_heart {X : amX} (e1 : XT X = TT) (e2 : XD X = 3) (hB : amB X RX11 cX11_heart (some .int) 4) : ∀ pc, amOK X pc (look a_X11_heart pc) := by
  have hT : amTok (XT X) := e1 ▸ TT_ok
  refine look_ok ?_
  unfold a_X11_heart
  refine fc (ok_aload_n hB dX11_heart_0) ?_
  refine fc (okt_getR e1 hB hT fl_X11_23 rfl af_11_2 at_11_2 (by decide) dX11_heart_1) ?_
  refine fc (ok_iconst hB dX11_heart_4) ?_
  refine fc (ok_iload_n hB dX11_heart_5) ?_
  refine fc (ok_callM hB hT (e1 ▸ s_X6_has) lk_X11_174 (by rw [e2]; decide) (c := 6) rfl rfl rfl wd_729 wd_730 dX11_heart_6) ?_
  refine fc (ok_if_eq hB (t := 35) (by decide) dX11_heart_9) ?_
  refine fc (ok_iload_n hB dX11_heart_12) ?_
  refine fc (ok_if_lt hB (t := 35) (by decide) dX11_heart_13) ?_
  refine fc (ok_iload_n hB dX11_heart_16) ?_
  refine fc (ok_bipush hB dX11_heart_17 (by decide)) ?_
  refine fc (ok_icmp_gt hB (t := 35) (by decide) dX11_heart_19) ?_
  refine fc (ok_aload_n hB dX11_heart_22) ?_
  refine fc (okt_getR e1 hB hT fl_X11_65 rfl af_11_10 at_11_10 (by decide) dX11_heart_23) ?_
  refine fc (okt_getR e1 hB hT fl_X11_189 rfl af_0_0 at_0_0 (by decide) dX11_heart_26) ?_
  refine fc (ok_iload_n hB dX11_heart_29) ?_
  refine fc (okt_iaload e1 hB dX11_heart_30) ?_
  refine fc (ok_iload_n hB dX11_heart_31) ?_
  refine fc (ok_icmp_ne hB (t := 37) (by decide) dX11_heart_32) ?_
  refine fc (ok_iconst hB dX11_heart_35) ?_
  refine fc (ok_iret hB dX11_heart_36) ?_
  refine fc (ok_aload_n hB dX11_heart_37) ?_
  refine fc (okt_getR e1 hB hT fl_X11_84 rfl af_11_13 at_11_13 (by decide) dX11_heart_38) ?_
  refine fc (ok_aload_n hB dX11_heart_41) ?_
  refine fc (okt_getR e1 hB hT fl_X11_65 rfl af_11_10 at_11_10 (by decide) dX11_heart_42) ?_
  refine fc (ok_callMV hB hT (e1 ▸ s_X5_remember) lk_X11_217 (by rw [e2]; decide) (c := 5) rfl rfl rfl wd_762 wd_763 dX11_heart_45) ?_
  refine fc (ok_aload_n hB dX11_heart_48) ?_
  refine fc (okt_getR e1 hB hT fl_X11_65 rfl af_11_10 at_11_10 (by decide) dX11_heart_49) ?_
  refine fc (okt_getR e1 hB hT fl_X11_189 rfl af_0_0 at_0_0 (by decide) dX11_heart_52) ?_
  refine fc (ok_iload_n hB dX11_heart_55) ?_
  refine fc (okt_iaload e1 hB dX11_heart_56) ?_
  refine fc (ok_istore_n hB (by decide) dX11_heart_57) ?_
  refine fc (ok_aload_n hB dX11_heart_58) ?_
  refine fc (okt_getR e1 hB hT fl_X11_65 rfl af_11_10 at_11_10 (by decide) dX11_heart_59) ?_
  refine fc (okt_getR e1 hB hT fl_X11_189 rfl af_0_0 at_0_0 (by decide) dX11_heart_62) ?_
  refine fc (ok_iload_n hB dX11_heart_65) ?_
  refine fc (ok_iload_n hB dX11_heart_66) ?_
  refine fc (okt_iastore e1 hB dX11_heart_67) ?_
  refine fc (ok_iload_n hB dX11_heart_68) ?_
  refine fc (ok_iret hB dX11_heart_69) ?_
  exact fn

def w_X11_heart : WP := fun av σ Q => ∃ (c : Int) (v : Int), av = [(27, 0), (0, c), (0, v)] ∧ (InR c ∧ InR v ∧ planB σ 6 ∧ (∀ i, 0 ≤ i → i < 6 → InR (σ 17 i)) ∧ pastOk σ ∧ (¬ (0 ≤ c ∧ c < pcnt σ 6 2 ∧ 0 ≤ v ∧ v ≤ 9 ∧ σ 17 c ≠ v) → Q (0, -1) σ) ∧ (0 ≤ c ∧ c < pcnt σ 6 2 ∧ 0 ≤ v ∧ v ≤ 9 ∧ σ 17 c ≠ v → Q (0, σ 17 c) (up (rmM σ) 17 c v)))
theorem w_X11_heart_e (c : Int) (v : Int) (σ : Mem) (Q : AV → Mem → Prop) : w_X11_heart [(27, 0), (0, c), (0, v)] σ Q = (InR c ∧ InR v ∧ planB σ 6 ∧ (∀ i, 0 ≤ i → i < 6 → InR (σ 17 i)) ∧ pastOk σ ∧ (¬ (0 ≤ c ∧ c < pcnt σ 6 2 ∧ 0 ≤ v ∧ v ≤ 9 ∧ σ 17 c ≠ v) → Q (0, -1) σ) ∧ (0 ≤ c ∧ c < pcnt σ 6 2 ∧ 0 ≤ v ∧ v ≤ 9 ∧ σ 17 c ≠ v → Q (0, σ 17 c) (up (rmM σ) 17 c v))) := by
  apply propext; constructor
  · rintro ⟨c', v', h9, hb9⟩; cases h9; exact hb9
  · intro hb9; exact ⟨c, v, rfl, hb9⟩

set_option maxRecDepth 100000 in
set_option maxHeartbeats 4000000 in
theorem s_X11_heart : ∀ av σ Q, w_X11_heart av σ Q → amCall 3 0 0 TT yX11_heart cX11_heart 4 (some .int) av σ Q := by
  rintro av σ Q ⟨c, v, rfl, hc, hv, hB, hh, hpa, h1, h2⟩
  have c2 := pcnt_b hB 2
  obtain ⟨p1, p2, p3⟩ := id hpa
  have o17 : rmM σ 17 = σ 17 := rmM_o σ (by decide) (by decide)
  refine am_m0 (own := RX11) (A := look a_X11_heart) (fun X e1 e2 hB => o_X11_heart e1 e2 hB) rfl (by decide +kernel) rfl rfl 190 (w := 4) ?_
  change vcs _ _ _ _ 190 0 [(27, 0), (0, c), (0, v), (6, 0)] [] σ
  simp only [↓reduceIte, inR_0, inR_1, inR_m, vSw2_e, swP_n, swP_c, vI_e, vL_e, vNull_e, vIload_e, vLload_e, vAload_e, vIstore_e, vLstore_e, vAstore_e, vIinc_e, vIadd_e, vIsub_e, vImul_e, vIand_e, vIor_e, vIxor_e, vIshl_e, vIshr_e, vIushr_e, vIdiv_e, vIrem_e, vLadd_e, vLsub_e, vLmul_e, vLand_e, vLor_e, vLxor_e, vLdiv_e, vLrem_e, vLushr_e, vLshl_e, vLcmp_e, vIneg_e, vI2l_e, vL2i_e, vI2b_e, vI2c_e, vDup_e, vPop_e, vDup2_e, vGoto_e, vIcEq_e, vIfEq_e, vIcNe_e, vIfNe_e, vIcLt_e, vIfLt_e, vIcGe_e, vIfGe_e, vIcGt_e, vIfGt_e, vIcLe_e, vIfLe_e, vNonnull_e, vSw_e, vGetI_e, vGetL_e, vGetR_e, vPutI_e, vPutZ_e, vPutL_e, vPutR_e, vIald_e, vIald_s, vLald_e, vBald_e, vBald_s, vAald_e, vIast_e, vLast_e, vBast_e, vAast_e, vAlen_e8, vAlen_e9, vAlen_e10, vAlen_e11, vAlen_e5, vAlen_e3, vGets_e, vCompact_e, vLdcS_e, vIret_e, vZret_e, vCret_e, vBret_e, vLret_e, vVret_e, vAret_e, vCallM_e0, vCallMV_e0, vCallS_e0, vCallSV_e0, vCallM_e1, vCallMV_e1, vCallS_e1, vCallSV_e1, vCallM_e2, vCallMV_e2, vCallS_e2, vCallSV_e2, vCallM_e3, vCallMV_e3, vCallS_e3, vCallSV_e3, vCallM_e4, vCallMV_e4, vCallS_e4, vCallSV_e4, vCallM_e5, vCallMV_e5, vCallS_e5, vCallSV_e5, vCallM_e6, vCallMV_e6, vCallS_e6, vCallSV_e6, vCallM_e7, vCallMV_e7, vCallS_e7, vCallSV_e7, vBad_e, vStrVal_e, vStrCod_e, vForm_e, vCallT_e0, vCallT_e1, vCallT_e2, vCopy_e, rf_0_0, rf_0_1, rf_0_2, rf_0_3, rf_0_4, rf_0_7, rf_0_10, rf_0_11, rf_0_12, rf_0_13, rf_0_14, rf_0_15, rf_0_16, rf_1_0, rf_3_0, rf_3_1, rf_6_0, rf_6_1, rf_9_0, rf_9_1, rf_9_3, rf_13_0, rf_13_1, rf_13_2, rf_16_0, rf_16_1, rf_16_2, rf_16_3, rf_21_0, rf_21_1, rf_21_2, rf_21_3, rf_26_0, rf_26_1, rf_26_2, rf_26_3, rf_26_4, rf_26_5, rf_26_6, rf_31_0, rf_31_2, rf_31_5, rf_31_6, rf_36_0, rf_36_1, rf_36_2, rf_36_3, rf_39_0, rf_39_1, rf_39_2, rf_41_0, rf_41_1, rf_41_2, rf_41_3, rf_5000_1, rf_5000_2, rf_5000_3, rf_5000_4, rf_5000_5, rf_5000_15, rf_5000_16, rf_5000_18, rf_5000_19, rf_5000_20, rf_5000_21, rf_5000_22, rf_5000_23, rf_5000_24, rf_5000_25, rf_5000_26, rf_5000_27, rf_5000_36, rf_5000_37, rf_5000_40, rf_5000_41, rf_5000_42, rf_5000_43, rf_5000_44, rf_5000_45, rf_5000_47, rf_5000_52, rf_5000_54, rf_5000_55, rf_100_0, rf_100_1, rf_103_0, rf_103_1, rf_106_0, rf_106_1, rf_109_0, rf_109_1, al_2, al_4, al_5, al_7, al_8, al_10, al_11, al_12, al_14, al_15, al_17, al_18, al_19, al_20, al_22, al_23, al_24, al_25, al_27, al_28, al_29, al_30, al_32, al_33, al_34, al_35, al_37, al_38, al_40, al_42, al_5001, al_5002, al_5003, al_5004, al_5005, al_5006, al_5007, al_5008, al_5009, al_5010, al_5011, al_5012, al_5013, al_5014, al_5015, al_5016, al_5017, al_5018, al_5019, al_5020, al_5021, al_5022, al_5023, al_5024, al_5025, al_5026, al_9000, al_101, al_102, al_104, al_105, al_107, al_108, al_110, al_111, vcs_e, lg_c0, lg_cs, lg_nil, set_c0, set_cs, okst_0, okst_s, acok_n, acok_c, List.contains_nil, List.contains_cons, Bool.or_false, Bool.false_or, Bool.false_eq_true, if_false, if_true, ite_self, ne_eq, true_and, and_true, not_false_eq_true, not_true_eq_false, false_imp_iff, true_imp_iff, Nat.ble_eq, Bool.and_eq_true, reduceCtorEq, or_false, false_or, or_true, true_or, false_and, and_false, and_self, Int.reduceLE, Int.reduceAdd, Int.reduceSub, Int.reduceMul, Int.reduceNeg, Int.reduceLT, Int.reduceEq, Int.reduceNe, Nat.reduceBEq, Nat.reduceBNe, Nat.reduceEqDiff, amCmp_in, amCmp_lt, amCmp_le, amCmp_gt, amCmp_ge, amCmp_eq, amCmp_ne, Nat.reduceLeDiff, Nat.reduceSub, Bool.and_true, Bool.true_and, Bool.and_self, Bool.or_true, Bool.true_or, isRf_3, isRf_4, isRf_5, isRf_8, isRf_9, isRf_10, isRf_11, isRf_15, isRf_16, isRf_17, isRf_18, isRf_19, isRf_20, isRf_21, isRf_22, isRf_23, isRf_24, isRf_25, isRf_26, isRf_27, isRf_28, k_X11_heart_0, k_X11_heart_1, k_X11_heart_4, k_X11_heart_5, k_X11_heart_6, k_X11_heart_9, k_X11_heart_12, k_X11_heart_13, k_X11_heart_16, k_X11_heart_17, k_X11_heart_19, k_X11_heart_22, k_X11_heart_23, k_X11_heart_26, k_X11_heart_29, k_X11_heart_30, k_X11_heart_31, k_X11_heart_32, k_X11_heart_35, k_X11_heart_36, k_X11_heart_37, k_X11_heart_38, k_X11_heart_41, k_X11_heart_42, k_X11_heart_45, k_X11_heart_48, k_X11_heart_49, k_X11_heart_52, k_X11_heart_55, k_X11_heart_56, k_X11_heart_57, k_X11_heart_58, k_X11_heart_59, k_X11_heart_62, k_X11_heart_65, k_X11_heart_66, k_X11_heart_67, k_X11_heart_68, k_X11_heart_69, w_X5_remember_e, w_X6_has_e, up_s, up_nj, up_na, up_up, savR_o, cpy_o, fillm_o, setAud_o, setv_o, setv_s, Int.reduceNe, Int.reduceEq, Int.reduceLT, Int.reduceAdd, not_false_eq_true, ne_eq, or_true, true_or, rmM_e, o17]
  by_cases d : 0 ≤ c ∧ c < pcnt σ 6 2
  · have hhc := hh c d.1 (by omega)
    rw [if_pos d]
    repeat' (first | assumption | apply And.intro | intro _)
    all_goals first | omega | exact absurd trivial (by assumption) | exact isP6 | exact h1 (by omega) | exact h2 (by omega)
  · rw [if_neg d]
    repeat' (first | assumption | apply And.intro | intro _)
    all_goals first | omega | exact absurd trivial (by assumption) | exact isP6 | exact h1 (by omega)
def a_X11_give : AC := [(0, vAload 0 1), (1, vGetR TT 27 2 22 4), (4, vI 2 5), (5, vIload 1 6), (6, vCallM w_X6_has 22 2 9), (9, vIfEq 39 12), (12, vIload 2 13), (13, vI 1 14), (14, vIcLt 39 17), (17, vIload 2 18), (18, vI 50 20), (20, vIcGt 39 23), (23, vAload 0 24), (24, vGetR TT 27 10 16 27), (27, vGetR TT 16 2 8 30), (30, vIload 1 31), (31, vIald TT 32), (32, vIload 2 33), (33, vIadd 34), (34, vI 99 36), (36, vIcLe 41 39), (39, vI (-1) 40), (40, vIret), (41, vAload 0 42), (42, vGetR TT 27 13 21 45), (45, vAload 0 46), (46, vGetR TT 27 10 16 49), (49, vCallMV w_X5_remember 21 1 52), (52, vAload 0 53), (53, vGetR TT 27 10 16 56), (56, vGetR TT 16 2 8 59), (59, vIload 1 60), (60, vDup2 61), (61, vIald TT 62), (62, vIload 2 63), (63, vIadd 64), (64, vIast TT 65), (65, vAload 0 66), (66, vGetR TT 27 10 16 69), (69, vGetR TT 16 2 8 72), (72, vIload 1 73), (73, vIald TT 74), (74, vIret)]
theorem k_X11_give_0 : look a_X11_give 0 = vAload 0 1 := rfl
theorem k_X11_give_1 : look a_X11_give 1 = vGetR TT 27 2 22 4 := rfl
theorem k_X11_give_4 : look a_X11_give 4 = vI 2 5 := rfl
theorem k_X11_give_5 : look a_X11_give 5 = vIload 1 6 := rfl
theorem k_X11_give_6 : look a_X11_give 6 = vCallM w_X6_has 22 2 9 := rfl
theorem k_X11_give_9 : look a_X11_give 9 = vIfEq 39 12 := rfl
theorem k_X11_give_12 : look a_X11_give 12 = vIload 2 13 := rfl
theorem k_X11_give_13 : look a_X11_give 13 = vI 1 14 := rfl
theorem k_X11_give_14 : look a_X11_give 14 = vIcLt 39 17 := rfl
theorem k_X11_give_17 : look a_X11_give 17 = vIload 2 18 := rfl
theorem k_X11_give_18 : look a_X11_give 18 = vI 50 20 := rfl
theorem k_X11_give_20 : look a_X11_give 20 = vIcGt 39 23 := rfl
theorem k_X11_give_23 : look a_X11_give 23 = vAload 0 24 := rfl
theorem k_X11_give_24 : look a_X11_give 24 = vGetR TT 27 10 16 27 := rfl
theorem k_X11_give_27 : look a_X11_give 27 = vGetR TT 16 2 8 30 := rfl
theorem k_X11_give_30 : look a_X11_give 30 = vIload 1 31 := rfl
theorem k_X11_give_31 : look a_X11_give 31 = vIald TT 32 := rfl
theorem k_X11_give_32 : look a_X11_give 32 = vIload 2 33 := rfl
theorem k_X11_give_33 : look a_X11_give 33 = vIadd 34 := rfl
theorem k_X11_give_34 : look a_X11_give 34 = vI 99 36 := rfl
theorem k_X11_give_36 : look a_X11_give 36 = vIcLe 41 39 := rfl
theorem k_X11_give_39 : look a_X11_give 39 = vI (-1) 40 := rfl
theorem k_X11_give_40 : look a_X11_give 40 = vIret := rfl
theorem k_X11_give_41 : look a_X11_give 41 = vAload 0 42 := rfl
theorem k_X11_give_42 : look a_X11_give 42 = vGetR TT 27 13 21 45 := rfl
theorem k_X11_give_45 : look a_X11_give 45 = vAload 0 46 := rfl
theorem k_X11_give_46 : look a_X11_give 46 = vGetR TT 27 10 16 49 := rfl
theorem k_X11_give_49 : look a_X11_give 49 = vCallMV w_X5_remember 21 1 52 := rfl
theorem k_X11_give_52 : look a_X11_give 52 = vAload 0 53 := rfl
theorem k_X11_give_53 : look a_X11_give 53 = vGetR TT 27 10 16 56 := rfl
theorem k_X11_give_56 : look a_X11_give 56 = vGetR TT 16 2 8 59 := rfl
theorem k_X11_give_59 : look a_X11_give 59 = vIload 1 60 := rfl
theorem k_X11_give_60 : look a_X11_give 60 = vDup2 61 := rfl
theorem k_X11_give_61 : look a_X11_give 61 = vIald TT 62 := rfl
theorem k_X11_give_62 : look a_X11_give 62 = vIload 2 63 := rfl
theorem k_X11_give_63 : look a_X11_give 63 = vIadd 64 := rfl
theorem k_X11_give_64 : look a_X11_give 64 = vIast TT 65 := rfl
theorem k_X11_give_65 : look a_X11_give 65 = vAload 0 66 := rfl
theorem k_X11_give_66 : look a_X11_give 66 = vGetR TT 27 10 16 69 := rfl
theorem k_X11_give_69 : look a_X11_give 69 = vGetR TT 16 2 8 72 := rfl
theorem k_X11_give_72 : look a_X11_give 72 = vIload 1 73 := rfl
theorem k_X11_give_73 : look a_X11_give 73 = vIald TT 74 := rfl
theorem k_X11_give_74 : look a_X11_give 74 = vIret := rfl
theorem o_X11_give {X : amX} (e1 : XT X = TT) (e2 : XD X = 3) (hB : amB X RX11 cX11_give (some .int) 3) : ∀ pc, amOK X pc (look a_X11_give pc) := by
  have hT : amTok (XT X) := e1 ▸ TT_ok
  refine look_ok ?_
  unfold a_X11_give
  refine fc (ok_aload_n hB dX11_give_0) ?_
  refine fc (okt_getR e1 hB hT fl_X11_23 rfl af_11_2 at_11_2 (by decide) dX11_give_1) ?_
  refine fc (ok_iconst hB dX11_give_4) ?_
  refine fc (ok_iload_n hB dX11_give_5) ?_
  refine fc (ok_callM hB hT (e1 ▸ s_X6_has) lk_X11_174 (by rw [e2]; decide) (c := 6) rfl rfl rfl wd_729 wd_730 dX11_give_6) ?_
  refine fc (ok_if_eq hB (t := 39) (by decide) dX11_give_9) ?_
  refine fc (ok_iload_n hB dX11_give_12) ?_
  refine fc (ok_iconst hB dX11_give_13) ?_
  refine fc (ok_icmp_lt hB (t := 39) (by decide) dX11_give_14) ?_
  refine fc (ok_iload_n hB dX11_give_17) ?_
  refine fc (ok_bipush hB dX11_give_18 (by decide)) ?_
  refine fc (ok_icmp_gt hB (t := 39) (by decide) dX11_give_20) ?_
  refine fc (ok_aload_n hB dX11_give_23) ?_
  refine fc (okt_getR e1 hB hT fl_X11_65 rfl af_11_10 at_11_10 (by decide) dX11_give_24) ?_
  refine fc (okt_getR e1 hB hT fl_X11_196 rfl af_0_2 at_0_2 (by decide) dX11_give_27) ?_
  refine fc (ok_iload_n hB dX11_give_30) ?_
  refine fc (okt_iaload e1 hB dX11_give_31) ?_
  refine fc (ok_iload_n hB dX11_give_32) ?_
  refine fc (ok_iadd hB dX11_give_33) ?_
  refine fc (ok_bipush hB dX11_give_34 (by decide)) ?_
  refine fc (ok_icmp_le hB (t := 41) (by decide) dX11_give_36) ?_
  refine fc (ok_iconst hB dX11_give_39) ?_
  refine fc (ok_iret hB dX11_give_40) ?_
  refine fc (ok_aload_n hB dX11_give_41) ?_
  refine fc (okt_getR e1 hB hT fl_X11_84 rfl af_11_13 at_11_13 (by decide) dX11_give_42) ?_
  refine fc (ok_aload_n hB dX11_give_45) ?_
  refine fc (okt_getR e1 hB hT fl_X11_65 rfl af_11_10 at_11_10 (by decide) dX11_give_46) ?_
  refine fc (ok_callMV hB hT (e1 ▸ s_X5_remember) lk_X11_217 (by rw [e2]; decide) (c := 5) rfl rfl rfl wd_762 wd_763 dX11_give_49) ?_
  refine fc (ok_aload_n hB dX11_give_52) ?_
  refine fc (okt_getR e1 hB hT fl_X11_65 rfl af_11_10 at_11_10 (by decide) dX11_give_53) ?_
  refine fc (okt_getR e1 hB hT fl_X11_196 rfl af_0_2 at_0_2 (by decide) dX11_give_56) ?_
  refine fc (ok_iload_n hB dX11_give_59) ?_
  refine fc (ok_dup2 hB dX11_give_60) ?_
  refine fc (okt_iaload e1 hB dX11_give_61) ?_
  refine fc (ok_iload_n hB dX11_give_62) ?_
  refine fc (ok_iadd hB dX11_give_63) ?_
  refine fc (okt_iastore e1 hB dX11_give_64) ?_
  refine fc (ok_aload_n hB dX11_give_65) ?_
  refine fc (okt_getR e1 hB hT fl_X11_65 rfl af_11_10 at_11_10 (by decide) dX11_give_66) ?_
  refine fc (okt_getR e1 hB hT fl_X11_196 rfl af_0_2 at_0_2 (by decide) dX11_give_69) ?_
  refine fc (ok_iload_n hB dX11_give_72) ?_
  refine fc (okt_iaload e1 hB dX11_give_73) ?_
  refine fc (ok_iret hB dX11_give_74) ?_
  exact fn

def w_X11_give : WP := fun av σ Q => ∃ (c : Int) (n : Int), av = [(27, 0), (0, c), (0, n)] ∧ (InR c ∧ InR n ∧ planB σ 6 ∧ (∀ i, 0 ≤ i → i < 6 → -1000 ≤ σ 19 i ∧ σ 19 i ≤ 1000) ∧ pastOk σ ∧ (¬ (0 ≤ c ∧ c < pcnt σ 6 2 ∧ 1 ≤ n ∧ n ≤ 50 ∧ σ 19 c + n ≤ 99) → Q (0, -1) σ) ∧ (0 ≤ c ∧ c < pcnt σ 6 2 ∧ 1 ≤ n ∧ n ≤ 50 ∧ σ 19 c + n ≤ 99 → Q (0, σ 19 c + n) (up (rmM σ) 19 c (σ 19 c + n))))
theorem w_X11_give_e (c : Int) (n : Int) (σ : Mem) (Q : AV → Mem → Prop) : w_X11_give [(27, 0), (0, c), (0, n)] σ Q = (InR c ∧ InR n ∧ planB σ 6 ∧ (∀ i, 0 ≤ i → i < 6 → -1000 ≤ σ 19 i ∧ σ 19 i ≤ 1000) ∧ pastOk σ ∧ (¬ (0 ≤ c ∧ c < pcnt σ 6 2 ∧ 1 ≤ n ∧ n ≤ 50 ∧ σ 19 c + n ≤ 99) → Q (0, -1) σ) ∧ (0 ≤ c ∧ c < pcnt σ 6 2 ∧ 1 ≤ n ∧ n ≤ 50 ∧ σ 19 c + n ≤ 99 → Q (0, σ 19 c + n) (up (rmM σ) 19 c (σ 19 c + n)))) := by
  apply propext; constructor
  · rintro ⟨c', n', h9, hb9⟩; cases h9; exact hb9
  · intro hb9; exact ⟨c, n, rfl, hb9⟩

set_option maxRecDepth 100000 in
set_option maxHeartbeats 4000000 in
theorem s_X11_give : ∀ av σ Q, w_X11_give av σ Q → amCall 3 0 0 TT yX11_give cX11_give 3 (some .int) av σ Q := by
  rintro av σ Q ⟨c, n, rfl, hc, hn, hB, hh, hpa, h1, h2⟩
  have c2 := pcnt_b hB 2
  obtain ⟨p1, p2, p3⟩ := id hpa
  have o19 : rmM σ 19 = σ 19 := rmM_o σ (by decide) (by decide)
  refine am_m0 (own := RX11) (A := look a_X11_give) (fun X e1 e2 hB => o_X11_give e1 e2 hB) rfl (by decide +kernel) rfl rfl 190 (w := 3) ?_
  change vcs _ _ _ _ 190 0 [(27, 0), (0, c), (0, n)] [] σ
  simp only [↓reduceIte, inR_0, inR_1, inR_m, vSw2_e, swP_n, swP_c, vI_e, vL_e, vNull_e, vIload_e, vLload_e, vAload_e, vIstore_e, vLstore_e, vAstore_e, vIinc_e, vIadd_e, vIsub_e, vImul_e, vIand_e, vIor_e, vIxor_e, vIshl_e, vIshr_e, vIushr_e, vIdiv_e, vIrem_e, vLadd_e, vLsub_e, vLmul_e, vLand_e, vLor_e, vLxor_e, vLdiv_e, vLrem_e, vLushr_e, vLshl_e, vLcmp_e, vIneg_e, vI2l_e, vL2i_e, vI2b_e, vI2c_e, vDup_e, vPop_e, vDup2_e, vGoto_e, vIcEq_e, vIfEq_e, vIcNe_e, vIfNe_e, vIcLt_e, vIfLt_e, vIcGe_e, vIfGe_e, vIcGt_e, vIfGt_e, vIcLe_e, vIfLe_e, vNonnull_e, vSw_e, vGetI_e, vGetL_e, vGetR_e, vPutI_e, vPutZ_e, vPutL_e, vPutR_e, vIald_e, vIald_s, vLald_e, vBald_e, vBald_s, vAald_e, vIast_e, vLast_e, vBast_e, vAast_e, vAlen_e8, vAlen_e9, vAlen_e10, vAlen_e11, vAlen_e5, vAlen_e3, vGets_e, vCompact_e, vLdcS_e, vIret_e, vZret_e, vCret_e, vBret_e, vLret_e, vVret_e, vAret_e, vCallM_e0, vCallMV_e0, vCallS_e0, vCallSV_e0, vCallM_e1, vCallMV_e1, vCallS_e1, vCallSV_e1, vCallM_e2, vCallMV_e2, vCallS_e2, vCallSV_e2, vCallM_e3, vCallMV_e3, vCallS_e3, vCallSV_e3, vCallM_e4, vCallMV_e4, vCallS_e4, vCallSV_e4, vCallM_e5, vCallMV_e5, vCallS_e5, vCallSV_e5, vCallM_e6, vCallMV_e6, vCallS_e6, vCallSV_e6, vCallM_e7, vCallMV_e7, vCallS_e7, vCallSV_e7, vBad_e, vStrVal_e, vStrCod_e, vForm_e, vCallT_e0, vCallT_e1, vCallT_e2, vCopy_e, rf_0_0, rf_0_1, rf_0_2, rf_0_3, rf_0_4, rf_0_7, rf_0_10, rf_0_11, rf_0_12, rf_0_13, rf_0_14, rf_0_15, rf_0_16, rf_1_0, rf_3_0, rf_3_1, rf_6_0, rf_6_1, rf_9_0, rf_9_1, rf_9_3, rf_13_0, rf_13_1, rf_13_2, rf_16_0, rf_16_1, rf_16_2, rf_16_3, rf_21_0, rf_21_1, rf_21_2, rf_21_3, rf_26_0, rf_26_1, rf_26_2, rf_26_3, rf_26_4, rf_26_5, rf_26_6, rf_31_0, rf_31_2, rf_31_5, rf_31_6, rf_36_0, rf_36_1, rf_36_2, rf_36_3, rf_39_0, rf_39_1, rf_39_2, rf_41_0, rf_41_1, rf_41_2, rf_41_3, rf_5000_1, rf_5000_2, rf_5000_3, rf_5000_4, rf_5000_5, rf_5000_15, rf_5000_16, rf_5000_18, rf_5000_19, rf_5000_20, rf_5000_21, rf_5000_22, rf_5000_23, rf_5000_24, rf_5000_25, rf_5000_26, rf_5000_27, rf_5000_36, rf_5000_37, rf_5000_40, rf_5000_41, rf_5000_42, rf_5000_43, rf_5000_44, rf_5000_45, rf_5000_47, rf_5000_52, rf_5000_54, rf_5000_55, rf_100_0, rf_100_1, rf_103_0, rf_103_1, rf_106_0, rf_106_1, rf_109_0, rf_109_1, al_2, al_4, al_5, al_7, al_8, al_10, al_11, al_12, al_14, al_15, al_17, al_18, al_19, al_20, al_22, al_23, al_24, al_25, al_27, al_28, al_29, al_30, al_32, al_33, al_34, al_35, al_37, al_38, al_40, al_42, al_5001, al_5002, al_5003, al_5004, al_5005, al_5006, al_5007, al_5008, al_5009, al_5010, al_5011, al_5012, al_5013, al_5014, al_5015, al_5016, al_5017, al_5018, al_5019, al_5020, al_5021, al_5022, al_5023, al_5024, al_5025, al_5026, al_9000, al_101, al_102, al_104, al_105, al_107, al_108, al_110, al_111, vcs_e, lg_c0, lg_cs, lg_nil, set_c0, set_cs, okst_0, okst_s, acok_n, acok_c, List.contains_nil, List.contains_cons, Bool.or_false, Bool.false_or, Bool.false_eq_true, if_false, if_true, ite_self, ne_eq, true_and, and_true, not_false_eq_true, not_true_eq_false, false_imp_iff, true_imp_iff, Nat.ble_eq, Bool.and_eq_true, reduceCtorEq, or_false, false_or, or_true, true_or, false_and, and_false, and_self, Int.reduceLE, Int.reduceAdd, Int.reduceSub, Int.reduceMul, Int.reduceNeg, Int.reduceLT, Int.reduceEq, Int.reduceNe, Nat.reduceBEq, Nat.reduceBNe, Nat.reduceEqDiff, amCmp_in, amCmp_lt, amCmp_le, amCmp_gt, amCmp_ge, amCmp_eq, amCmp_ne, Nat.reduceLeDiff, Nat.reduceSub, Bool.and_true, Bool.true_and, Bool.and_self, Bool.or_true, Bool.true_or, isRf_3, isRf_4, isRf_5, isRf_8, isRf_9, isRf_10, isRf_11, isRf_15, isRf_16, isRf_17, isRf_18, isRf_19, isRf_20, isRf_21, isRf_22, isRf_23, isRf_24, isRf_25, isRf_26, isRf_27, isRf_28, k_X11_give_0, k_X11_give_1, k_X11_give_4, k_X11_give_5, k_X11_give_6, k_X11_give_9, k_X11_give_12, k_X11_give_13, k_X11_give_14, k_X11_give_17, k_X11_give_18, k_X11_give_20, k_X11_give_23, k_X11_give_24, k_X11_give_27, k_X11_give_30, k_X11_give_31, k_X11_give_32, k_X11_give_33, k_X11_give_34, k_X11_give_36, k_X11_give_39, k_X11_give_40, k_X11_give_41, k_X11_give_42, k_X11_give_45, k_X11_give_46, k_X11_give_49, k_X11_give_52, k_X11_give_53, k_X11_give_56, k_X11_give_59, k_X11_give_60, k_X11_give_61, k_X11_give_62, k_X11_give_63, k_X11_give_64, k_X11_give_65, k_X11_give_66, k_X11_give_69, k_X11_give_72, k_X11_give_73, k_X11_give_74, w_X5_remember_e, w_X6_has_e, up_s, up_nj, up_na, up_up, savR_o, cpy_o, fillm_o, setAud_o, setv_o, setv_s, Int.reduceNe, Int.reduceEq, Int.reduceLT, Int.reduceAdd, not_false_eq_true, ne_eq, or_true, true_or, rmM_e, o19]
  by_cases d : 0 ≤ c ∧ c < pcnt σ 6 2
  · have hhc := hh c d.1 (by omega)
    rw [if_pos d]
    repeat' (first | assumption | apply And.intro | intro _)
    all_goals first | omega | exact absurd trivial (by assumption) | exact isP6 | exact h1 (by omega) | exact h2 (by omega)
  · rw [if_neg d]
    repeat' (first | assumption | apply And.intro | intro _)
    all_goals first | omega | exact absurd trivial (by assumption) | exact isP6 | exact h1 (by omega)
theorem fp_X11_171 : amFp RX11 0 5 171 RX0 TX0 7 tyX0 .int := ⟨fl_X11_171, tyX0_ok, nmX0, by decide +kernel⟩
def a_X11_price : AC := [(0, vAload 0 1), (1, vGetR TT 27 2 22 4), (4, vCallM w_X6_isTold 22 0 7), (7, vIfEq 31 10), (10, vIload 1 11), (11, vIfLt 31 14), (14, vIload 1 15), (15, vI 30 17), (17, vIcGt 31 20), (20, vIload 1 21), (21, vAload 0 22), (22, vGetR TT 27 10 16 25), (25, vGetI 16 5 28), (28, vIcNe 33 31), (31, vI (-1) 32), (32, vIret), (33, vAload 0 34), (34, vGetR TT 27 13 21 37), (37, vAload 0 38), (38, vGetR TT 27 10 16 41), (41, vCallMV w_X5_remember 21 1 44), (44, vAload 0 45), (45, vGetR TT 27 10 16 48), (48, vGetI 16 5 51), (51, vIstore 2 52), (52, vAload 0 53), (53, vGetR TT 27 10 16 56), (56, vIload 1 57), (57, vPutI 16 5 60), (60, vIload 2 61), (61, vIret)]
theorem k_X11_price_0 : look a_X11_price 0 = vAload 0 1 := rfl
theorem k_X11_price_1 : look a_X11_price 1 = vGetR TT 27 2 22 4 := rfl
theorem k_X11_price_4 : look a_X11_price 4 = vCallM w_X6_isTold 22 0 7 := rfl
theorem k_X11_price_7 : look a_X11_price 7 = vIfEq 31 10 := rfl
theorem k_X11_price_10 : look a_X11_price 10 = vIload 1 11 := rfl
theorem k_X11_price_11 : look a_X11_price 11 = vIfLt 31 14 := rfl
theorem k_X11_price_14 : look a_X11_price 14 = vIload 1 15 := rfl
theorem k_X11_price_15 : look a_X11_price 15 = vI 30 17 := rfl
theorem k_X11_price_17 : look a_X11_price 17 = vIcGt 31 20 := rfl
theorem k_X11_price_20 : look a_X11_price 20 = vIload 1 21 := rfl
theorem k_X11_price_21 : look a_X11_price 21 = vAload 0 22 := rfl
theorem k_X11_price_22 : look a_X11_price 22 = vGetR TT 27 10 16 25 := rfl
theorem k_X11_price_25 : look a_X11_price 25 = vGetI 16 5 28 := rfl
theorem k_X11_price_28 : look a_X11_price 28 = vIcNe 33 31 := rfl
theorem k_X11_price_31 : look a_X11_price 31 = vI (-1) 32 := rfl
theorem k_X11_price_32 : look a_X11_price 32 = vIret := rfl
theorem k_X11_price_33 : look a_X11_price 33 = vAload 0 34 := rfl
theorem k_X11_price_34 : look a_X11_price 34 = vGetR TT 27 13 21 37 := rfl
theorem k_X11_price_37 : look a_X11_price 37 = vAload 0 38 := rfl
theorem k_X11_price_38 : look a_X11_price 38 = vGetR TT 27 10 16 41 := rfl
theorem k_X11_price_41 : look a_X11_price 41 = vCallMV w_X5_remember 21 1 44 := rfl
theorem k_X11_price_44 : look a_X11_price 44 = vAload 0 45 := rfl
theorem k_X11_price_45 : look a_X11_price 45 = vGetR TT 27 10 16 48 := rfl
theorem k_X11_price_48 : look a_X11_price 48 = vGetI 16 5 51 := rfl
theorem k_X11_price_51 : look a_X11_price 51 = vIstore 2 52 := rfl
theorem k_X11_price_52 : look a_X11_price 52 = vAload 0 53 := rfl
theorem k_X11_price_53 : look a_X11_price 53 = vGetR TT 27 10 16 56 := rfl
theorem k_X11_price_56 : look a_X11_price 56 = vIload 1 57 := rfl
theorem k_X11_price_57 : look a_X11_price 57 = vPutI 16 5 60 := rfl
theorem k_X11_price_60 : look a_X11_price 60 = vIload 2 61 := rfl
theorem k_X11_price_61 : look a_X11_price 61 = vIret := rfl
theorem o_X11_price {X : amX} (e1 : XT X = TT) (e2 : XD X = 3) (hB : amB X RX11 cX11_price (some .int) 3) : ∀ pc, amOK X pc (look a_X11_price pc) := by
  have hT : amTok (XT X) := e1 ▸ TT_ok
  refine look_ok ?_
  unfold a_X11_price
  refine fc (ok_aload_n hB dX11_price_0) ?_
  refine fc (okt_getR e1 hB hT fl_X11_23 rfl af_11_2 at_11_2 (by decide) dX11_price_1) ?_
  refine fc (ok_callM hB hT (e1 ▸ s_X6_isTold) lk_X11_164 (by rw [e2]; decide) (c := 6) rfl rfl rfl wd_717 wd_718 dX11_price_4) ?_
  refine fc (ok_if_eq hB (t := 31) (by decide) dX11_price_7) ?_
  refine fc (ok_iload_n hB dX11_price_10) ?_
  refine fc (ok_if_lt hB (t := 31) (by decide) dX11_price_11) ?_
  refine fc (ok_iload_n hB dX11_price_14) ?_
  refine fc (ok_bipush hB dX11_price_15 (by decide)) ?_
  refine fc (ok_icmp_gt hB (t := 31) (by decide) dX11_price_17) ?_
  refine fc (ok_iload_n hB dX11_price_20) ?_
  refine fc (ok_aload_n hB dX11_price_21) ?_
  refine fc (okt_getR e1 hB hT fl_X11_65 rfl af_11_10 at_11_10 (by decide) dX11_price_22) ?_
  refine fc (ok_getI hB hT fl_X11_171 rfl rfl (Or.inl af_0_5) dX11_price_25) ?_
  refine fc (ok_icmp_ne hB (t := 33) (by decide) dX11_price_28) ?_
  refine fc (ok_iconst hB dX11_price_31) ?_
  refine fc (ok_iret hB dX11_price_32) ?_
  refine fc (ok_aload_n hB dX11_price_33) ?_
  refine fc (okt_getR e1 hB hT fl_X11_84 rfl af_11_13 at_11_13 (by decide) dX11_price_34) ?_
  refine fc (ok_aload_n hB dX11_price_37) ?_
  refine fc (okt_getR e1 hB hT fl_X11_65 rfl af_11_10 at_11_10 (by decide) dX11_price_38) ?_
  refine fc (ok_callMV hB hT (e1 ▸ s_X5_remember) lk_X11_217 (by rw [e2]; decide) (c := 5) rfl rfl rfl wd_762 wd_763 dX11_price_41) ?_
  refine fc (ok_aload_n hB dX11_price_44) ?_
  refine fc (okt_getR e1 hB hT fl_X11_65 rfl af_11_10 at_11_10 (by decide) dX11_price_45) ?_
  refine fc (ok_getI hB hT fl_X11_171 rfl rfl (Or.inl af_0_5) dX11_price_48) ?_
  refine fc (ok_istore_n hB (by decide) dX11_price_51) ?_
  refine fc (ok_aload_n hB dX11_price_52) ?_
  refine fc (okt_getR e1 hB hT fl_X11_65 rfl af_11_10 at_11_10 (by decide) dX11_price_53) ?_
  refine fc (ok_iload_n hB dX11_price_56) ?_
  refine fc (ok_putI hB hT fp_X11_171 rfl rfl rfl af_0_5 dX11_price_57) ?_
  refine fc (ok_iload_n hB dX11_price_60) ?_
  refine fc (ok_iret hB dX11_price_61) ?_
  exact fn

def w_X11_price : WP := fun av σ Q => ∃ (v : Int), av = [(27, 0), (0, v)] ∧ (InR v ∧ planB σ 6 ∧ InR (σ 16 5) ∧ pastOk σ ∧ (¬ (0 < pcnt σ 6 2 ∧ 0 ≤ v ∧ v ≤ 30 ∧ v ≠ σ 16 5) → Q (0, -1) σ) ∧ (0 < pcnt σ 6 2 ∧ 0 ≤ v ∧ v ≤ 30 ∧ v ≠ σ 16 5 → Q (0, σ 16 5) (up (rmM σ) 16 5 v)))
theorem w_X11_price_e (v : Int) (σ : Mem) (Q : AV → Mem → Prop) : w_X11_price [(27, 0), (0, v)] σ Q = (InR v ∧ planB σ 6 ∧ InR (σ 16 5) ∧ pastOk σ ∧ (¬ (0 < pcnt σ 6 2 ∧ 0 ≤ v ∧ v ≤ 30 ∧ v ≠ σ 16 5) → Q (0, -1) σ) ∧ (0 < pcnt σ 6 2 ∧ 0 ≤ v ∧ v ≤ 30 ∧ v ≠ σ 16 5 → Q (0, σ 16 5) (up (rmM σ) 16 5 v))) := by
  apply propext; constructor
  · rintro ⟨v', h9, hb9⟩; cases h9; exact hb9
  · intro hb9; exact ⟨v, rfl, hb9⟩

set_option maxRecDepth 100000 in
set_option maxHeartbeats 4000000 in
theorem s_X11_price : ∀ av σ Q, w_X11_price av σ Q → amCall 3 0 0 TT yX11_price cX11_price 3 (some .int) av σ Q := by
  rintro av σ Q ⟨v, rfl, hv, hB, hp, hpa, h1, h2⟩
  have c2 := pcnt_b hB 2
  obtain ⟨p1, p2, p3⟩ := id hpa
  have o16 : rmM σ 16 = σ 16 := rmM_o σ (by decide) (by decide)
  refine am_m0 (own := RX11) (A := look a_X11_price) (fun X e1 e2 hB => o_X11_price e1 e2 hB) rfl (by decide +kernel) rfl rfl 190 (w := 3) ?_
  change vcs _ _ _ _ 190 0 [(27, 0), (0, v), (6, 0)] [] σ
  simp only [↓reduceIte, inR_0, inR_1, inR_m, vSw2_e, swP_n, swP_c, vI_e, vL_e, vNull_e, vIload_e, vLload_e, vAload_e, vIstore_e, vLstore_e, vAstore_e, vIinc_e, vIadd_e, vIsub_e, vImul_e, vIand_e, vIor_e, vIxor_e, vIshl_e, vIshr_e, vIushr_e, vIdiv_e, vIrem_e, vLadd_e, vLsub_e, vLmul_e, vLand_e, vLor_e, vLxor_e, vLdiv_e, vLrem_e, vLushr_e, vLshl_e, vLcmp_e, vIneg_e, vI2l_e, vL2i_e, vI2b_e, vI2c_e, vDup_e, vPop_e, vDup2_e, vGoto_e, vIcEq_e, vIfEq_e, vIcNe_e, vIfNe_e, vIcLt_e, vIfLt_e, vIcGe_e, vIfGe_e, vIcGt_e, vIfGt_e, vIcLe_e, vIfLe_e, vNonnull_e, vSw_e, vGetI_e, vGetL_e, vGetR_e, vPutI_e, vPutZ_e, vPutL_e, vPutR_e, vIald_e, vIald_s, vLald_e, vBald_e, vBald_s, vAald_e, vIast_e, vLast_e, vBast_e, vAast_e, vAlen_e8, vAlen_e9, vAlen_e10, vAlen_e11, vAlen_e5, vAlen_e3, vGets_e, vCompact_e, vLdcS_e, vIret_e, vZret_e, vCret_e, vBret_e, vLret_e, vVret_e, vAret_e, vCallM_e0, vCallMV_e0, vCallS_e0, vCallSV_e0, vCallM_e1, vCallMV_e1, vCallS_e1, vCallSV_e1, vCallM_e2, vCallMV_e2, vCallS_e2, vCallSV_e2, vCallM_e3, vCallMV_e3, vCallS_e3, vCallSV_e3, vCallM_e4, vCallMV_e4, vCallS_e4, vCallSV_e4, vCallM_e5, vCallMV_e5, vCallS_e5, vCallSV_e5, vCallM_e6, vCallMV_e6, vCallS_e6, vCallSV_e6, vCallM_e7, vCallMV_e7, vCallS_e7, vCallSV_e7, vBad_e, vStrVal_e, vStrCod_e, vForm_e, vCallT_e0, vCallT_e1, vCallT_e2, vCopy_e, rf_0_0, rf_0_1, rf_0_2, rf_0_3, rf_0_4, rf_0_7, rf_0_10, rf_0_11, rf_0_12, rf_0_13, rf_0_14, rf_0_15, rf_0_16, rf_1_0, rf_3_0, rf_3_1, rf_6_0, rf_6_1, rf_9_0, rf_9_1, rf_9_3, rf_13_0, rf_13_1, rf_13_2, rf_16_0, rf_16_1, rf_16_2, rf_16_3, rf_21_0, rf_21_1, rf_21_2, rf_21_3, rf_26_0, rf_26_1, rf_26_2, rf_26_3, rf_26_4, rf_26_5, rf_26_6, rf_31_0, rf_31_2, rf_31_5, rf_31_6, rf_36_0, rf_36_1, rf_36_2, rf_36_3, rf_39_0, rf_39_1, rf_39_2, rf_41_0, rf_41_1, rf_41_2, rf_41_3, rf_5000_1, rf_5000_2, rf_5000_3, rf_5000_4, rf_5000_5, rf_5000_15, rf_5000_16, rf_5000_18, rf_5000_19, rf_5000_20, rf_5000_21, rf_5000_22, rf_5000_23, rf_5000_24, rf_5000_25, rf_5000_26, rf_5000_27, rf_5000_36, rf_5000_37, rf_5000_40, rf_5000_41, rf_5000_42, rf_5000_43, rf_5000_44, rf_5000_45, rf_5000_47, rf_5000_52, rf_5000_54, rf_5000_55, rf_100_0, rf_100_1, rf_103_0, rf_103_1, rf_106_0, rf_106_1, rf_109_0, rf_109_1, al_2, al_4, al_5, al_7, al_8, al_10, al_11, al_12, al_14, al_15, al_17, al_18, al_19, al_20, al_22, al_23, al_24, al_25, al_27, al_28, al_29, al_30, al_32, al_33, al_34, al_35, al_37, al_38, al_40, al_42, al_5001, al_5002, al_5003, al_5004, al_5005, al_5006, al_5007, al_5008, al_5009, al_5010, al_5011, al_5012, al_5013, al_5014, al_5015, al_5016, al_5017, al_5018, al_5019, al_5020, al_5021, al_5022, al_5023, al_5024, al_5025, al_5026, al_9000, al_101, al_102, al_104, al_105, al_107, al_108, al_110, al_111, vcs_e, lg_c0, lg_cs, lg_nil, set_c0, set_cs, okst_0, okst_s, acok_n, acok_c, List.contains_nil, List.contains_cons, Bool.or_false, Bool.false_or, Bool.false_eq_true, if_false, if_true, ite_self, ne_eq, true_and, and_true, not_false_eq_true, not_true_eq_false, false_imp_iff, true_imp_iff, Nat.ble_eq, Bool.and_eq_true, reduceCtorEq, or_false, false_or, or_true, true_or, false_and, and_false, and_self, Int.reduceLE, Int.reduceAdd, Int.reduceSub, Int.reduceMul, Int.reduceNeg, Int.reduceLT, Int.reduceEq, Int.reduceNe, Nat.reduceBEq, Nat.reduceBNe, Nat.reduceEqDiff, amCmp_in, amCmp_lt, amCmp_le, amCmp_gt, amCmp_ge, amCmp_eq, amCmp_ne, Nat.reduceLeDiff, Nat.reduceSub, Bool.and_true, Bool.true_and, Bool.and_self, Bool.or_true, Bool.true_or, isRf_3, isRf_4, isRf_5, isRf_8, isRf_9, isRf_10, isRf_11, isRf_15, isRf_16, isRf_17, isRf_18, isRf_19, isRf_20, isRf_21, isRf_22, isRf_23, isRf_24, isRf_25, isRf_26, isRf_27, isRf_28, k_X11_price_0, k_X11_price_1, k_X11_price_4, k_X11_price_7, k_X11_price_10, k_X11_price_11, k_X11_price_14, k_X11_price_15, k_X11_price_17, k_X11_price_20, k_X11_price_21, k_X11_price_22, k_X11_price_25, k_X11_price_28, k_X11_price_31, k_X11_price_32, k_X11_price_33, k_X11_price_34, k_X11_price_37, k_X11_price_38, k_X11_price_41, k_X11_price_44, k_X11_price_45, k_X11_price_48, k_X11_price_51, k_X11_price_52, k_X11_price_53, k_X11_price_56, k_X11_price_57, k_X11_price_60, k_X11_price_61, w_X5_remember_e, w_X6_isTold_e, up_s, up_nj, up_na, up_up, savR_o, cpy_o, fillm_o, setAud_o, setv_o, setv_s, Int.reduceNe, Int.reduceEq, Int.reduceLT, Int.reduceAdd, not_false_eq_true, ne_eq, or_true, true_or, rmM_e, o16]
  by_cases d : 0 < pcnt σ 6 2
  · rw [if_pos d]
    repeat' (first | assumption | apply And.intro | intro _)
    all_goals first | omega | exact absurd trivial (by assumption) | exact isP6 | exact h1 (by omega) | exact h2 (by omega)
  · rw [if_neg d]
    repeat' (first | assumption | apply And.intro | intro _)
    all_goals first | omega | exact absurd trivial (by assumption) | exact isP6 | exact h1 (by omega)
theorem wd_918 : Cond.methodLink RX11 259 yX5_takeBack ∈ TBL := tb_tab (List.mem_of_getElem? (i := 918) (by decide +kernel)) rfl
theorem wd_921 : Cond.code yX5_takeBack cX5_takeBack 4 (some .int) ∈ TBL := tb_tab (List.mem_of_getElem? (i := 921) (by decide +kernel)) rfl
theorem lk_X11_259 : amLk RX11 259 yX5_takeBack cX5_takeBack 4 (some .int) 1 := ⟨wd_918, wd_8, wd_921, by decide +kernel, by decide +kernel, by decide⟩
theorem wd_919 : Cond.instanceMethod yX5_takeBack ∈ TBL := tb_tab (List.mem_of_getElem? (i := 919) (by decide +kernel)) rfl
theorem wd_920 : Cond.selects RX5 yX5_takeBack yX5_takeBack ∈ TBL := tb_tab (List.mem_of_getElem? (i := 920) (by decide +kernel)) rfl
def a_X11_undo : AC := [(0, vAload 0 1), (1, vGetR TT 27 13 21 4), (4, vAload 0 5), (5, vGetR TT 27 10 16 8), (8, vCallM w_X5_takeBack 21 1 11), (11, vIret)]
theorem k_X11_undo_0 : look a_X11_undo 0 = vAload 0 1 := rfl
theorem k_X11_undo_1 : look a_X11_undo 1 = vGetR TT 27 13 21 4 := rfl
theorem k_X11_undo_4 : look a_X11_undo 4 = vAload 0 5 := rfl
theorem k_X11_undo_5 : look a_X11_undo 5 = vGetR TT 27 10 16 8 := rfl
theorem k_X11_undo_8 : look a_X11_undo 8 = vCallM w_X5_takeBack 21 1 11 := rfl
theorem k_X11_undo_11 : look a_X11_undo 11 = vIret := rfl
theorem o_X11_undo {X : amX} (e1 : XT X = TT) (e2 : XD X = 3) (hB : amB X RX11 cX11_undo (some .int) 1) : ∀ pc, amOK X pc (look a_X11_undo pc) := by
  have hT : amTok (XT X) := e1 ▸ TT_ok
  refine look_ok ?_
  unfold a_X11_undo
  refine fc (ok_aload_n hB dX11_undo_0) ?_
  refine fc (okt_getR e1 hB hT fl_X11_84 rfl af_11_13 at_11_13 (by decide) dX11_undo_1) ?_
  refine fc (ok_aload_n hB dX11_undo_4) ?_
  refine fc (okt_getR e1 hB hT fl_X11_65 rfl af_11_10 at_11_10 (by decide) dX11_undo_5) ?_
  refine fc (ok_callM hB hT (e1 ▸ s_X5_takeBack) lk_X11_259 (by rw [e2]; decide) (c := 5) rfl rfl rfl wd_919 wd_920 dX11_undo_8) ?_
  refine fc (ok_iret hB dX11_undo_11) ?_
  exact fn

def w_X11_undo : WP := fun av σ Q => av = [(27, 0)] ∧ (pastOk σ ∧ (σ 31 3 = 0 → Q (0, -1) σ) ∧ (σ 31 3 ≠ 0 → Q (0, σ 31 3 - 1) (up (up (up (setAud σ 16 (fun k => σ 33 ((σ 31 4 + 39) % 40 * 28 + k))) 31 1 (σ 33 ((σ 31 4 + 39) % 40 * 28 + 27))) 31 4 ((σ 31 4 + 39) % 40)) 31 3 (σ 31 3 - 1))))
theorem w_X11_undo_e  (σ : Mem) (Q : AV → Mem → Prop) : w_X11_undo [(27, 0)] σ Q = (pastOk σ ∧ (σ 31 3 = 0 → Q (0, -1) σ) ∧ (σ 31 3 ≠ 0 → Q (0, σ 31 3 - 1) (up (up (up (setAud σ 16 (fun k => σ 33 ((σ 31 4 + 39) % 40 * 28 + k))) 31 1 (σ 33 ((σ 31 4 + 39) % 40 * 28 + 27))) 31 4 ((σ 31 4 + 39) % 40)) 31 3 (σ 31 3 - 1)))) := by
  apply propext; constructor
  · rintro ⟨h9, hb9⟩; cases h9; exact hb9
  · intro hb9; exact ⟨rfl, hb9⟩

set_option maxRecDepth 100000 in
set_option maxHeartbeats 4000000 in
theorem s_X11_undo : ∀ av σ Q, w_X11_undo av σ Q → amCall 3 0 0 TT yX11_undo cX11_undo 1 (some .int) av σ Q := by
  rintro av σ Q ⟨rfl, hpa, h1, h2⟩
  obtain ⟨p1, p2, p3⟩ := id hpa
  refine am_m0 (own := RX11) (A := look a_X11_undo) (fun X e1 e2 hB => o_X11_undo e1 e2 hB) rfl (by decide +kernel) rfl rfl 190 (w := 1) ?_
  change vcs _ _ _ _ 190 0 [(27, 0)] [] σ
  simp only [↓reduceIte, inR_0, inR_1, inR_m, vSw2_e, swP_n, swP_c, vI_e, vL_e, vNull_e, vIload_e, vLload_e, vAload_e, vIstore_e, vLstore_e, vAstore_e, vIinc_e, vIadd_e, vIsub_e, vImul_e, vIand_e, vIor_e, vIxor_e, vIshl_e, vIshr_e, vIushr_e, vIdiv_e, vIrem_e, vLadd_e, vLsub_e, vLmul_e, vLand_e, vLor_e, vLxor_e, vLdiv_e, vLrem_e, vLushr_e, vLshl_e, vLcmp_e, vIneg_e, vI2l_e, vL2i_e, vI2b_e, vI2c_e, vDup_e, vPop_e, vDup2_e, vGoto_e, vIcEq_e, vIfEq_e, vIcNe_e, vIfNe_e, vIcLt_e, vIfLt_e, vIcGe_e, vIfGe_e, vIcGt_e, vIfGt_e, vIcLe_e, vIfLe_e, vNonnull_e, vSw_e, vGetI_e, vGetL_e, vGetR_e, vPutI_e, vPutZ_e, vPutL_e, vPutR_e, vIald_e, vIald_s, vLald_e, vBald_e, vBald_s, vAald_e, vIast_e, vLast_e, vBast_e, vAast_e, vAlen_e8, vAlen_e9, vAlen_e10, vAlen_e11, vAlen_e5, vAlen_e3, vGets_e, vCompact_e, vLdcS_e, vIret_e, vZret_e, vCret_e, vBret_e, vLret_e, vVret_e, vAret_e, vCallM_e0, vCallMV_e0, vCallS_e0, vCallSV_e0, vCallM_e1, vCallMV_e1, vCallS_e1, vCallSV_e1, vCallM_e2, vCallMV_e2, vCallS_e2, vCallSV_e2, vCallM_e3, vCallMV_e3, vCallS_e3, vCallSV_e3, vCallM_e4, vCallMV_e4, vCallS_e4, vCallSV_e4, vCallM_e5, vCallMV_e5, vCallS_e5, vCallSV_e5, vCallM_e6, vCallMV_e6, vCallS_e6, vCallSV_e6, vCallM_e7, vCallMV_e7, vCallS_e7, vCallSV_e7, vBad_e, vStrVal_e, vStrCod_e, vForm_e, vCallT_e0, vCallT_e1, vCallT_e2, vCopy_e, rf_0_0, rf_0_1, rf_0_2, rf_0_3, rf_0_4, rf_0_7, rf_0_10, rf_0_11, rf_0_12, rf_0_13, rf_0_14, rf_0_15, rf_0_16, rf_1_0, rf_3_0, rf_3_1, rf_6_0, rf_6_1, rf_9_0, rf_9_1, rf_9_3, rf_13_0, rf_13_1, rf_13_2, rf_16_0, rf_16_1, rf_16_2, rf_16_3, rf_21_0, rf_21_1, rf_21_2, rf_21_3, rf_26_0, rf_26_1, rf_26_2, rf_26_3, rf_26_4, rf_26_5, rf_26_6, rf_31_0, rf_31_2, rf_31_5, rf_31_6, rf_36_0, rf_36_1, rf_36_2, rf_36_3, rf_39_0, rf_39_1, rf_39_2, rf_41_0, rf_41_1, rf_41_2, rf_41_3, rf_5000_1, rf_5000_2, rf_5000_3, rf_5000_4, rf_5000_5, rf_5000_15, rf_5000_16, rf_5000_18, rf_5000_19, rf_5000_20, rf_5000_21, rf_5000_22, rf_5000_23, rf_5000_24, rf_5000_25, rf_5000_26, rf_5000_27, rf_5000_36, rf_5000_37, rf_5000_40, rf_5000_41, rf_5000_42, rf_5000_43, rf_5000_44, rf_5000_45, rf_5000_47, rf_5000_52, rf_5000_54, rf_5000_55, rf_100_0, rf_100_1, rf_103_0, rf_103_1, rf_106_0, rf_106_1, rf_109_0, rf_109_1, al_2, al_4, al_5, al_7, al_8, al_10, al_11, al_12, al_14, al_15, al_17, al_18, al_19, al_20, al_22, al_23, al_24, al_25, al_27, al_28, al_29, al_30, al_32, al_33, al_34, al_35, al_37, al_38, al_40, al_42, al_5001, al_5002, al_5003, al_5004, al_5005, al_5006, al_5007, al_5008, al_5009, al_5010, al_5011, al_5012, al_5013, al_5014, al_5015, al_5016, al_5017, al_5018, al_5019, al_5020, al_5021, al_5022, al_5023, al_5024, al_5025, al_5026, al_9000, al_101, al_102, al_104, al_105, al_107, al_108, al_110, al_111, vcs_e, lg_c0, lg_cs, lg_nil, set_c0, set_cs, okst_0, okst_s, acok_n, acok_c, List.contains_nil, List.contains_cons, Bool.or_false, Bool.false_or, Bool.false_eq_true, if_false, if_true, ite_self, ne_eq, true_and, and_true, not_false_eq_true, not_true_eq_false, false_imp_iff, true_imp_iff, Nat.ble_eq, Bool.and_eq_true, reduceCtorEq, or_false, false_or, or_true, true_or, false_and, and_false, and_self, Int.reduceLE, Int.reduceAdd, Int.reduceSub, Int.reduceMul, Int.reduceNeg, Int.reduceLT, Int.reduceEq, Int.reduceNe, Nat.reduceBEq, Nat.reduceBNe, Nat.reduceEqDiff, amCmp_in, amCmp_lt, amCmp_le, amCmp_gt, amCmp_ge, amCmp_eq, amCmp_ne, Nat.reduceLeDiff, Nat.reduceSub, Bool.and_true, Bool.true_and, Bool.and_self, Bool.or_true, Bool.true_or, isRf_3, isRf_4, isRf_5, isRf_8, isRf_9, isRf_10, isRf_11, isRf_15, isRf_16, isRf_17, isRf_18, isRf_19, isRf_20, isRf_21, isRf_22, isRf_23, isRf_24, isRf_25, isRf_26, isRf_27, isRf_28, k_X11_undo_0, k_X11_undo_1, k_X11_undo_4, k_X11_undo_5, k_X11_undo_8, k_X11_undo_11, w_X5_takeBack_e, up_s, up_nj, up_na, up_up, savR_o, cpy_o, fillm_o, setAud_o, setv_o, setv_s, Int.reduceNe, Int.reduceEq, Int.reduceLT, Int.reduceAdd, not_false_eq_true, ne_eq, or_true, true_or]
  by_cases d : σ 31 3 = 0
  · rw [if_pos d]
    repeat' (first | assumption | apply And.intro | intro _)
    all_goals first | omega | exact absurd trivial (by assumption) | exact h1 d
  · rw [if_neg d]
    repeat' (first | assumption | apply And.intro | intro _)
    all_goals first | omega | exact absurd trivial (by assumption) | exact h2 d
theorem wd_930 : Cond.methodLink RX11 263 yX5_shown ∈ TBL := tb_tab (List.mem_of_getElem? (i := 930) (by decide +kernel)) rfl
theorem lk_X11_263 : amLk RX11 263 yX5_shown cX5_shown 1 (some .int) 0 := ⟨wd_930, wd_8, wd_933, by decide +kernel, by decide +kernel, by decide⟩
theorem wd_934 : Cond.methodLink RX11 266 yX5_line ∈ TBL := tb_tab (List.mem_of_getElem? (i := 934) (by decide +kernel)) rfl
theorem wd_937 : Cond.code yX5_line cX5_line 4 (some .int) ∈ TBL := tb_tab (List.mem_of_getElem? (i := 937) (by decide +kernel)) rfl
theorem lk_X11_266 : amLk RX11 266 yX5_line cX5_line 4 (some .int) 2 := ⟨wd_934, wd_8, wd_937, by decide +kernel, by decide +kernel, by decide⟩
theorem wd_935 : Cond.instanceMethod yX5_line ∈ TBL := tb_tab (List.mem_of_getElem? (i := 935) (by decide +kernel)) rfl
theorem wd_936 : Cond.selects RX5 yX5_line yX5_line ∈ TBL := tb_tab (List.mem_of_getElem? (i := 936) (by decide +kernel)) rfl
def a_X11_log : AC := [(0, vIload 1 1), (1, vIfLt 24 4), (4, vIload 1 5), (5, vAload 0 6), (6, vGetR TT 27 13 21 9), (9, vCallM w_X5_shown 21 0 12), (12, vIcGe 24 15), (15, vIload 2 16), (16, vIfLt 24 19), (19, vIload 2 20), (20, vI 2 21), (21, vIcLe 26 24), (24, vI (-1) 25), (25, vIret), (26, vAload 0 27), (27, vGetR TT 27 13 21 30), (30, vIload 1 31), (31, vIload 2 32), (32, vCallM w_X5_line 21 2 35), (35, vIret)]
theorem k_X11_log_0 : look a_X11_log 0 = vIload 1 1 := rfl
theorem k_X11_log_1 : look a_X11_log 1 = vIfLt 24 4 := rfl
theorem k_X11_log_4 : look a_X11_log 4 = vIload 1 5 := rfl
theorem k_X11_log_5 : look a_X11_log 5 = vAload 0 6 := rfl
theorem k_X11_log_6 : look a_X11_log 6 = vGetR TT 27 13 21 9 := rfl
theorem k_X11_log_9 : look a_X11_log 9 = vCallM w_X5_shown 21 0 12 := rfl
theorem k_X11_log_12 : look a_X11_log 12 = vIcGe 24 15 := rfl
theorem k_X11_log_15 : look a_X11_log 15 = vIload 2 16 := rfl
theorem k_X11_log_16 : look a_X11_log 16 = vIfLt 24 19 := rfl
theorem k_X11_log_19 : look a_X11_log 19 = vIload 2 20 := rfl
theorem k_X11_log_20 : look a_X11_log 20 = vI 2 21 := rfl
theorem k_X11_log_21 : look a_X11_log 21 = vIcLe 26 24 := rfl
theorem k_X11_log_24 : look a_X11_log 24 = vI (-1) 25 := rfl
theorem k_X11_log_25 : look a_X11_log 25 = vIret := rfl
theorem k_X11_log_26 : look a_X11_log 26 = vAload 0 27 := rfl
theorem k_X11_log_27 : look a_X11_log 27 = vGetR TT 27 13 21 30 := rfl
theorem k_X11_log_30 : look a_X11_log 30 = vIload 1 31 := rfl
theorem k_X11_log_31 : look a_X11_log 31 = vIload 2 32 := rfl
theorem k_X11_log_32 : look a_X11_log 32 = vCallM w_X5_line 21 2 35 := rfl
theorem k_X11_log_35 : look a_X11_log 35 = vIret := rfl
theorem o_X11_log {X : amX} (e1 : XT X = TT) (e2 : XD X = 2) (hB : amB X RX11 cX11_log (some .int) 3) : ∀ pc, amOK X pc (look a_X11_log pc) := by
  have hT : amTok (XT X) := e1 ▸ TT_ok
  refine look_ok ?_
  unfold a_X11_log
  refine fc (ok_iload_n hB dX11_log_0) ?_
  refine fc (ok_if_lt hB (t := 24) (by decide) dX11_log_1) ?_
  refine fc (ok_iload_n hB dX11_log_4) ?_
  refine fc (ok_aload_n hB dX11_log_5) ?_
  refine fc (okt_getR e1 hB hT fl_X11_84 rfl af_11_13 at_11_13 (by decide) dX11_log_6) ?_
  refine fc (ok_callM hB hT (e1 ▸ s_X5_shown) lk_X11_263 (by rw [e2]; decide) (c := 5) rfl rfl rfl wd_931 wd_932 dX11_log_9) ?_
  refine fc (ok_icmp_ge hB (t := 24) (by decide) dX11_log_12) ?_
  refine fc (ok_iload_n hB dX11_log_15) ?_
  refine fc (ok_if_lt hB (t := 24) (by decide) dX11_log_16) ?_
  refine fc (ok_iload_n hB dX11_log_19) ?_
  refine fc (ok_iconst hB dX11_log_20) ?_
  refine fc (ok_icmp_le hB (t := 26) (by decide) dX11_log_21) ?_
  refine fc (ok_iconst hB dX11_log_24) ?_
  refine fc (ok_iret hB dX11_log_25) ?_
  refine fc (ok_aload_n hB dX11_log_26) ?_
  refine fc (okt_getR e1 hB hT fl_X11_84 rfl af_11_13 at_11_13 (by decide) dX11_log_27) ?_
  refine fc (ok_iload_n hB dX11_log_30) ?_
  refine fc (ok_iload_n hB dX11_log_31) ?_
  refine fc (ok_callM hB hT (e1 ▸ s_X5_line) lk_X11_266 (by rw [e2]; decide) (c := 5) rfl rfl rfl wd_935 wd_936 dX11_log_32) ?_
  refine fc (ok_iret hB dX11_log_35) ?_
  exact fn
def logE (σ : Mem) (i w : Int) : Int := if w = 0 then σ 32 ((σ 31 1 - 1 - i) % 128) % 4 else if w = 1 then σ 32 ((σ 31 1 - 1 - i) % 128) / 256 else σ 32 ((σ 31 1 - 1 - i) % 128) / 4 % 64
def w_X11_log : WP := fun av σ Q => ∃ (i : Int) (w : Int), av = [(27, 0), (0, i), (0, w)] ∧ (InR i ∧ InR w ∧ pastOk σ ∧ (∀ j, 0 ≤ j → j < 128 → 0 ≤ σ 32 j ∧ σ 32 j ≤ 2147483647) ∧ (¬ (0 ≤ i ∧ i < min 60 (σ 31 1) ∧ 0 ≤ w ∧ w ≤ 2) → Q (0, -1) σ) ∧ (0 ≤ i ∧ i < min 60 (σ 31 1) ∧ 0 ≤ w ∧ w ≤ 2 → Q (0, logE σ i w) σ))
theorem w_X11_log_e (i : Int) (w : Int) (σ : Mem) (Q : AV → Mem → Prop) : w_X11_log [(27, 0), (0, i), (0, w)] σ Q = (InR i ∧ InR w ∧ pastOk σ ∧ (∀ j, 0 ≤ j → j < 128 → 0 ≤ σ 32 j ∧ σ 32 j ≤ 2147483647) ∧ (¬ (0 ≤ i ∧ i < min 60 (σ 31 1) ∧ 0 ≤ w ∧ w ≤ 2) → Q (0, -1) σ) ∧ (0 ≤ i ∧ i < min 60 (σ 31 1) ∧ 0 ≤ w ∧ w ≤ 2 → Q (0, logE σ i w) σ)) := by
  apply propext; constructor
  · rintro ⟨i', w', h9, hb9⟩; cases h9; exact hb9
  · intro hb9; exact ⟨i, w, rfl, hb9⟩

set_option maxRecDepth 100000 in
set_option maxHeartbeats 4000000 in
theorem s_X11_log : ∀ av σ Q, w_X11_log av σ Q → amCall 2 0 0 TT yX11_log cX11_log 3 (some .int) av σ Q := by
  rintro av σ Q ⟨i, w, rfl, hi, hw, hpa, hl, h1, h2⟩
  obtain ⟨p1, p2, p3⟩ := id hpa
  unfold logE at h2
  have hlj := hl ((σ 31 1 - 1 - i) % 128) (by omega) (by omega)
  refine am_m0 (own := RX11) (A := look a_X11_log) (fun X e1 e2 hB => o_X11_log e1 e2 hB) rfl (by decide +kernel) rfl rfl 190 (w := 3) ?_
  change vcs _ _ _ _ 190 0 [(27, 0), (0, i), (0, w)] [] σ
  simp only [↓reduceIte, inR_0, inR_1, inR_m, vSw2_e, swP_n, swP_c, vI_e, vL_e, vNull_e, vIload_e, vLload_e, vAload_e, vIstore_e, vLstore_e, vAstore_e, vIinc_e, vIadd_e, vIsub_e, vImul_e, vIand_e, vIor_e, vIxor_e, vIshl_e, vIshr_e, vIushr_e, vIdiv_e, vIrem_e, vLadd_e, vLsub_e, vLmul_e, vLand_e, vLor_e, vLxor_e, vLdiv_e, vLrem_e, vLushr_e, vLshl_e, vLcmp_e, vIneg_e, vI2l_e, vL2i_e, vI2b_e, vI2c_e, vDup_e, vPop_e, vDup2_e, vGoto_e, vIcEq_e, vIfEq_e, vIcNe_e, vIfNe_e, vIcLt_e, vIfLt_e, vIcGe_e, vIfGe_e, vIcGt_e, vIfGt_e, vIcLe_e, vIfLe_e, vNonnull_e, vSw_e, vGetI_e, vGetL_e, vGetR_e, vPutI_e, vPutZ_e, vPutL_e, vPutR_e, vIald_e, vIald_s, vLald_e, vBald_e, vBald_s, vAald_e, vIast_e, vLast_e, vBast_e, vAast_e, vAlen_e8, vAlen_e9, vAlen_e10, vAlen_e11, vAlen_e5, vAlen_e3, vGets_e, vCompact_e, vLdcS_e, vIret_e, vZret_e, vCret_e, vBret_e, vLret_e, vVret_e, vAret_e, vCallM_e0, vCallMV_e0, vCallS_e0, vCallSV_e0, vCallM_e1, vCallMV_e1, vCallS_e1, vCallSV_e1, vCallM_e2, vCallMV_e2, vCallS_e2, vCallSV_e2, vCallM_e3, vCallMV_e3, vCallS_e3, vCallSV_e3, vCallM_e4, vCallMV_e4, vCallS_e4, vCallSV_e4, vCallM_e5, vCallMV_e5, vCallS_e5, vCallSV_e5, vCallM_e6, vCallMV_e6, vCallS_e6, vCallSV_e6, vCallM_e7, vCallMV_e7, vCallS_e7, vCallSV_e7, vBad_e, vStrVal_e, vStrCod_e, vForm_e, vCallT_e0, vCallT_e1, vCallT_e2, vCopy_e, rf_0_0, rf_0_1, rf_0_2, rf_0_3, rf_0_4, rf_0_7, rf_0_10, rf_0_11, rf_0_12, rf_0_13, rf_0_14, rf_0_15, rf_0_16, rf_1_0, rf_3_0, rf_3_1, rf_6_0, rf_6_1, rf_9_0, rf_9_1, rf_9_3, rf_13_0, rf_13_1, rf_13_2, rf_16_0, rf_16_1, rf_16_2, rf_16_3, rf_21_0, rf_21_1, rf_21_2, rf_21_3, rf_26_0, rf_26_1, rf_26_2, rf_26_3, rf_26_4, rf_26_5, rf_26_6, rf_31_0, rf_31_2, rf_31_5, rf_31_6, rf_36_0, rf_36_1, rf_36_2, rf_36_3, rf_39_0, rf_39_1, rf_39_2, rf_41_0, rf_41_1, rf_41_2, rf_41_3, rf_5000_1, rf_5000_2, rf_5000_3, rf_5000_4, rf_5000_5, rf_5000_15, rf_5000_16, rf_5000_18, rf_5000_19, rf_5000_20, rf_5000_21, rf_5000_22, rf_5000_23, rf_5000_24, rf_5000_25, rf_5000_26, rf_5000_27, rf_5000_36, rf_5000_37, rf_5000_40, rf_5000_41, rf_5000_42, rf_5000_43, rf_5000_44, rf_5000_45, rf_5000_47, rf_5000_52, rf_5000_54, rf_5000_55, rf_100_0, rf_100_1, rf_103_0, rf_103_1, rf_106_0, rf_106_1, rf_109_0, rf_109_1, al_2, al_4, al_5, al_7, al_8, al_10, al_11, al_12, al_14, al_15, al_17, al_18, al_19, al_20, al_22, al_23, al_24, al_25, al_27, al_28, al_29, al_30, al_32, al_33, al_34, al_35, al_37, al_38, al_40, al_42, al_5001, al_5002, al_5003, al_5004, al_5005, al_5006, al_5007, al_5008, al_5009, al_5010, al_5011, al_5012, al_5013, al_5014, al_5015, al_5016, al_5017, al_5018, al_5019, al_5020, al_5021, al_5022, al_5023, al_5024, al_5025, al_5026, al_9000, al_101, al_102, al_104, al_105, al_107, al_108, al_110, al_111, vcs_e, lg_c0, lg_cs, lg_nil, set_c0, set_cs, okst_0, okst_s, acok_n, acok_c, List.contains_nil, List.contains_cons, Bool.or_false, Bool.false_or, Bool.false_eq_true, if_false, if_true, ite_self, ne_eq, true_and, and_true, not_false_eq_true, not_true_eq_false, false_imp_iff, true_imp_iff, Nat.ble_eq, Bool.and_eq_true, reduceCtorEq, or_false, false_or, or_true, true_or, false_and, and_false, and_self, Int.reduceLE, Int.reduceAdd, Int.reduceSub, Int.reduceMul, Int.reduceNeg, Int.reduceLT, Int.reduceEq, Int.reduceNe, Nat.reduceBEq, Nat.reduceBNe, Nat.reduceEqDiff, amCmp_in, amCmp_lt, amCmp_le, amCmp_gt, amCmp_ge, amCmp_eq, amCmp_ne, Nat.reduceLeDiff, Nat.reduceSub, Bool.and_true, Bool.true_and, Bool.and_self, Bool.or_true, Bool.true_or, isRf_3, isRf_4, isRf_5, isRf_8, isRf_9, isRf_10, isRf_11, isRf_15, isRf_16, isRf_17, isRf_18, isRf_19, isRf_20, isRf_21, isRf_22, isRf_23, isRf_24, isRf_25, isRf_26, isRf_27, isRf_28, k_X11_log_0, k_X11_log_1, k_X11_log_4, k_X11_log_5, k_X11_log_6, k_X11_log_9, k_X11_log_12, k_X11_log_15, k_X11_log_16, k_X11_log_19, k_X11_log_20, k_X11_log_21, k_X11_log_24, k_X11_log_25, k_X11_log_26, k_X11_log_27, k_X11_log_30, k_X11_log_31, k_X11_log_32, k_X11_log_35, w_X5_line_e, w_X5_shown_e, up_s, up_nj, up_na, up_up, savR_o, cpy_o, fillm_o, setAud_o, setv_o, setv_s, Int.reduceNe, Int.reduceEq, Int.reduceLT, Int.reduceAdd, not_false_eq_true, ne_eq, or_true, true_or]
  repeat' (first | assumption | apply And.intro | intro _)
  all_goals first | omega | exact absurd trivial (by assumption) | exact h1 (by omega) | exact h2 (by omega)
theorem wd_320 : Cond.fieldLink RX11 51 "ArmchairHouse" "seasons" "LArmchairHouse$Seasons;" ∈ TBL := tb_tab (List.mem_of_getElem? (i := 320) (by decide +kernel)) rfl
theorem fl_X11_51 : amFl RX11 11 7 51 RX11 TX11 17 := ⟨rfl, inT_11, by decide, wd_320⟩
theorem wd_942 : Cond.methodLink RX11 270 yX7_steps ∈ TBL := tb_tab (List.mem_of_getElem? (i := 942) (by decide +kernel)) rfl
theorem wd_945 : Cond.code yX7_steps cX7_steps 2 (some .int) ∈ TBL := tb_tab (List.mem_of_getElem? (i := 945) (by decide +kernel)) rfl
theorem lk_X11_270 : amLk RX11 270 yX7_steps cX7_steps 2 (some .int) 1 := ⟨wd_942, wd_5, wd_945, by decide +kernel, by decide +kernel, by decide⟩
theorem wd_943 : Cond.instanceMethod yX7_steps ∈ TBL := tb_tab (List.mem_of_getElem? (i := 943) (by decide +kernel)) rfl
theorem wd_944 : Cond.selects RX7 yX7_steps yX7_steps ∈ TBL := tb_tab (List.mem_of_getElem? (i := 944) (by decide +kernel)) rfl
theorem wd_946 : Cond.constant RX11 273 (-1000000) ∈ TBL := tb_tab (List.mem_of_getElem? (i := 946) (by decide +kernel)) rfl
theorem wd_947 : Cond.methodLink RX11 274 yX7_part ∈ TBL := tb_tab (List.mem_of_getElem? (i := 947) (by decide +kernel)) rfl
theorem wd_950 : Cond.code yX7_part cX7_part 5 (some .int) ∈ TBL := tb_tab (List.mem_of_getElem? (i := 950) (by decide +kernel)) rfl
theorem lk_X11_274 : amLk RX11 274 yX7_part cX7_part 5 (some .int) 3 := ⟨wd_947, wd_5, wd_950, by decide +kernel, by decide +kernel, by decide⟩
theorem wd_948 : Cond.instanceMethod yX7_part ∈ TBL := tb_tab (List.mem_of_getElem? (i := 948) (by decide +kernel)) rfl
theorem wd_949 : Cond.selects RX7 yX7_part yX7_part ∈ TBL := tb_tab (List.mem_of_getElem? (i := 949) (by decide +kernel)) rfl
def a_X11_step : AC := [(0, vIload 2 1), (1, vIfLt 25 4), (4, vIload 2 5), (5, vAload 0 6), (6, vGetR TT 27 7 23 9), (9, vIload 1 10), (10, vCallM w_X7_steps 23 1 13), (13, vIcGe 25 16), (16, vIload 3 17), (17, vIfLt 25 20), (20, vIload 3 21), (21, vI 3 22), (22, vIcLt 29 25), (25, vI (-1000000) 28), (28, vIret), (29, vAload 0 30), (30, vGetR TT 27 7 23 33), (33, vIload 1 34), (34, vIload 2 35), (35, vIload 3 36), (36, vCallM w_X7_part 23 3 39), (39, vIret)]
theorem k_X11_step_0 : look a_X11_step 0 = vIload 2 1 := rfl
theorem k_X11_step_1 : look a_X11_step 1 = vIfLt 25 4 := rfl
theorem k_X11_step_4 : look a_X11_step 4 = vIload 2 5 := rfl
theorem k_X11_step_5 : look a_X11_step 5 = vAload 0 6 := rfl
theorem k_X11_step_6 : look a_X11_step 6 = vGetR TT 27 7 23 9 := rfl
theorem k_X11_step_9 : look a_X11_step 9 = vIload 1 10 := rfl
theorem k_X11_step_10 : look a_X11_step 10 = vCallM w_X7_steps 23 1 13 := rfl
theorem k_X11_step_13 : look a_X11_step 13 = vIcGe 25 16 := rfl
theorem k_X11_step_16 : look a_X11_step 16 = vIload 3 17 := rfl
theorem k_X11_step_17 : look a_X11_step 17 = vIfLt 25 20 := rfl
theorem k_X11_step_20 : look a_X11_step 20 = vIload 3 21 := rfl
theorem k_X11_step_21 : look a_X11_step 21 = vI 3 22 := rfl
theorem k_X11_step_22 : look a_X11_step 22 = vIcLt 29 25 := rfl
theorem k_X11_step_25 : look a_X11_step 25 = vI (-1000000) 28 := rfl
theorem k_X11_step_28 : look a_X11_step 28 = vIret := rfl
theorem k_X11_step_29 : look a_X11_step 29 = vAload 0 30 := rfl
theorem k_X11_step_30 : look a_X11_step 30 = vGetR TT 27 7 23 33 := rfl
theorem k_X11_step_33 : look a_X11_step 33 = vIload 1 34 := rfl
theorem k_X11_step_34 : look a_X11_step 34 = vIload 2 35 := rfl
theorem k_X11_step_35 : look a_X11_step 35 = vIload 3 36 := rfl
theorem k_X11_step_36 : look a_X11_step 36 = vCallM w_X7_part 23 3 39 := rfl
theorem k_X11_step_39 : look a_X11_step 39 = vIret := rfl
theorem o_X11_step {X : amX} (e1 : XT X = TT) (e2 : XD X = 1) (hB : amB X RX11 cX11_step (some .int) 4) : ∀ pc, amOK X pc (look a_X11_step pc) := by
  have hT : amTok (XT X) := e1 ▸ TT_ok
  refine look_ok ?_
  unfold a_X11_step
  refine fc (ok_iload_n hB dX11_step_0) ?_
  refine fc (ok_if_lt hB (t := 25) (by decide) dX11_step_1) ?_
  refine fc (ok_iload_n hB dX11_step_4) ?_
  refine fc (ok_aload_n hB dX11_step_5) ?_
  refine fc (okt_getR e1 hB hT fl_X11_51 rfl af_11_7 at_11_7 (by decide) dX11_step_6) ?_
  refine fc (ok_iload_n hB dX11_step_9) ?_
  refine fc (ok_callM hB hT (e1 ▸ s_X7_steps) lk_X11_270 (by rw [e2]; decide) (c := 7) rfl rfl rfl wd_943 wd_944 dX11_step_10) ?_
  refine fc (ok_icmp_ge hB (t := 25) (by decide) dX11_step_13) ?_
  refine fc (ok_iload_n hB dX11_step_16) ?_
  refine fc (ok_if_lt hB (t := 25) (by decide) dX11_step_17) ?_
  refine fc (ok_iload_n hB dX11_step_20) ?_
  refine fc (ok_iconst hB dX11_step_21) ?_
  refine fc (ok_icmp_lt hB (t := 29) (by decide) dX11_step_22) ?_
  refine fc (ok_ldcw hB wd_946 rfl dX11_step_25) ?_
  refine fc (ok_iret hB dX11_step_28) ?_
  refine fc (ok_aload_n hB dX11_step_29) ?_
  refine fc (okt_getR e1 hB hT fl_X11_51 rfl af_11_7 at_11_7 (by decide) dX11_step_30) ?_
  refine fc (ok_iload_n hB dX11_step_33) ?_
  refine fc (ok_iload_n hB dX11_step_34) ?_
  refine fc (ok_iload_n hB dX11_step_35) ?_
  refine fc (ok_callM hB hT (e1 ▸ s_X7_part) lk_X11_274 (by rw [e2]; decide) (c := 7) rfl rfl rfl wd_948 wd_949 dX11_step_36) ?_
  refine fc (ok_iret hB dX11_step_39) ?_
  exact fn
def seaOk (σ : Mem) : Prop := (0 ≤ σ 13 3 ∧ σ 13 3 ≤ 4) ∧ ∀ s, 0 ≤ s → s < σ 13 3 → 1 ≤ σ 15 s ∧ σ 15 s ≤ 16
def w_X11_step : WP := fun av σ Q => ∃ (s : Int) (i : Int) (w : Int), av = [(27, 0), (0, s), (0, i), (0, w)] ∧ (InR s ∧ InR i ∧ InR w ∧ seaOk σ ∧ (¬ ((0 ≤ s ∧ s < σ 13 3) ∧ 0 ≤ i ∧ i < σ 15 s ∧ 0 ≤ w ∧ w ≤ 2) → Q (0, -1000000) σ) ∧ ((0 ≤ s ∧ s < σ 13 3) ∧ 0 ≤ i ∧ i < σ 15 s ∧ 0 ≤ w ∧ w ≤ 2 → Q (0, σ 14 (s * 48 + i * 3 + w)) σ))
theorem w_X11_step_e (s : Int) (i : Int) (w : Int) (σ : Mem) (Q : AV → Mem → Prop) : w_X11_step [(27, 0), (0, s), (0, i), (0, w)] σ Q = (InR s ∧ InR i ∧ InR w ∧ seaOk σ ∧ (¬ ((0 ≤ s ∧ s < σ 13 3) ∧ 0 ≤ i ∧ i < σ 15 s ∧ 0 ≤ w ∧ w ≤ 2) → Q (0, -1000000) σ) ∧ ((0 ≤ s ∧ s < σ 13 3) ∧ 0 ≤ i ∧ i < σ 15 s ∧ 0 ≤ w ∧ w ≤ 2 → Q (0, σ 14 (s * 48 + i * 3 + w)) σ)) := by
  apply propext; constructor
  · rintro ⟨s', i', w', h9, hb9⟩; cases h9; exact hb9
  · intro hb9; exact ⟨s, i, w, rfl, hb9⟩

set_option maxRecDepth 100000 in
set_option maxHeartbeats 4000000 in
theorem s_X11_step : ∀ av σ Q, w_X11_step av σ Q → amCall 1 0 0 TT yX11_step cX11_step 4 (some .int) av σ Q := by
  rintro av σ Q ⟨s, i, w, rfl, hs, hi, hw, hse, h1, h2⟩
  obtain ⟨q1, q2⟩ := id hse
  refine am_m0 (own := RX11) (A := look a_X11_step) (fun X e1 e2 hB => o_X11_step e1 e2 hB) rfl (by decide +kernel) rfl rfl 190 (w := 4) ?_
  change vcs _ _ _ _ 190 0 [(27, 0), (0, s), (0, i), (0, w)] [] σ
  simp only [↓reduceIte, inR_0, inR_1, inR_m, vSw2_e, swP_n, swP_c, vI_e, vL_e, vNull_e, vIload_e, vLload_e, vAload_e, vIstore_e, vLstore_e, vAstore_e, vIinc_e, vIadd_e, vIsub_e, vImul_e, vIand_e, vIor_e, vIxor_e, vIshl_e, vIshr_e, vIushr_e, vIdiv_e, vIrem_e, vLadd_e, vLsub_e, vLmul_e, vLand_e, vLor_e, vLxor_e, vLdiv_e, vLrem_e, vLushr_e, vLshl_e, vLcmp_e, vIneg_e, vI2l_e, vL2i_e, vI2b_e, vI2c_e, vDup_e, vPop_e, vDup2_e, vGoto_e, vIcEq_e, vIfEq_e, vIcNe_e, vIfNe_e, vIcLt_e, vIfLt_e, vIcGe_e, vIfGe_e, vIcGt_e, vIfGt_e, vIcLe_e, vIfLe_e, vNonnull_e, vSw_e, vGetI_e, vGetL_e, vGetR_e, vPutI_e, vPutZ_e, vPutL_e, vPutR_e, vIald_e, vIald_s, vLald_e, vBald_e, vBald_s, vAald_e, vIast_e, vLast_e, vBast_e, vAast_e, vAlen_e8, vAlen_e9, vAlen_e10, vAlen_e11, vAlen_e5, vAlen_e3, vGets_e, vCompact_e, vLdcS_e, vIret_e, vZret_e, vCret_e, vBret_e, vLret_e, vVret_e, vAret_e, vCallM_e0, vCallMV_e0, vCallS_e0, vCallSV_e0, vCallM_e1, vCallMV_e1, vCallS_e1, vCallSV_e1, vCallM_e2, vCallMV_e2, vCallS_e2, vCallSV_e2, vCallM_e3, vCallMV_e3, vCallS_e3, vCallSV_e3, vCallM_e4, vCallMV_e4, vCallS_e4, vCallSV_e4, vCallM_e5, vCallMV_e5, vCallS_e5, vCallSV_e5, vCallM_e6, vCallMV_e6, vCallS_e6, vCallSV_e6, vCallM_e7, vCallMV_e7, vCallS_e7, vCallSV_e7, vBad_e, vStrVal_e, vStrCod_e, vForm_e, vCallT_e0, vCallT_e1, vCallT_e2, vCopy_e, rf_0_0, rf_0_1, rf_0_2, rf_0_3, rf_0_4, rf_0_7, rf_0_10, rf_0_11, rf_0_12, rf_0_13, rf_0_14, rf_0_15, rf_0_16, rf_1_0, rf_3_0, rf_3_1, rf_6_0, rf_6_1, rf_9_0, rf_9_1, rf_9_3, rf_13_0, rf_13_1, rf_13_2, rf_16_0, rf_16_1, rf_16_2, rf_16_3, rf_21_0, rf_21_1, rf_21_2, rf_21_3, rf_26_0, rf_26_1, rf_26_2, rf_26_3, rf_26_4, rf_26_5, rf_26_6, rf_31_0, rf_31_2, rf_31_5, rf_31_6, rf_36_0, rf_36_1, rf_36_2, rf_36_3, rf_39_0, rf_39_1, rf_39_2, rf_41_0, rf_41_1, rf_41_2, rf_41_3, rf_5000_1, rf_5000_2, rf_5000_3, rf_5000_4, rf_5000_5, rf_5000_15, rf_5000_16, rf_5000_18, rf_5000_19, rf_5000_20, rf_5000_21, rf_5000_22, rf_5000_23, rf_5000_24, rf_5000_25, rf_5000_26, rf_5000_27, rf_5000_36, rf_5000_37, rf_5000_40, rf_5000_41, rf_5000_42, rf_5000_43, rf_5000_44, rf_5000_45, rf_5000_47, rf_5000_52, rf_5000_54, rf_5000_55, rf_100_0, rf_100_1, rf_103_0, rf_103_1, rf_106_0, rf_106_1, rf_109_0, rf_109_1, al_2, al_4, al_5, al_7, al_8, al_10, al_11, al_12, al_14, al_15, al_17, al_18, al_19, al_20, al_22, al_23, al_24, al_25, al_27, al_28, al_29, al_30, al_32, al_33, al_34, al_35, al_37, al_38, al_40, al_42, al_5001, al_5002, al_5003, al_5004, al_5005, al_5006, al_5007, al_5008, al_5009, al_5010, al_5011, al_5012, al_5013, al_5014, al_5015, al_5016, al_5017, al_5018, al_5019, al_5020, al_5021, al_5022, al_5023, al_5024, al_5025, al_5026, al_9000, al_101, al_102, al_104, al_105, al_107, al_108, al_110, al_111, vcs_e, lg_c0, lg_cs, lg_nil, set_c0, set_cs, okst_0, okst_s, acok_n, acok_c, List.contains_nil, List.contains_cons, Bool.or_false, Bool.false_or, Bool.false_eq_true, if_false, if_true, ite_self, ne_eq, true_and, and_true, not_false_eq_true, not_true_eq_false, false_imp_iff, true_imp_iff, Nat.ble_eq, Bool.and_eq_true, reduceCtorEq, or_false, false_or, or_true, true_or, false_and, and_false, and_self, Int.reduceLE, Int.reduceAdd, Int.reduceSub, Int.reduceMul, Int.reduceNeg, Int.reduceLT, Int.reduceEq, Int.reduceNe, Nat.reduceBEq, Nat.reduceBNe, Nat.reduceEqDiff, amCmp_in, amCmp_lt, amCmp_le, amCmp_gt, amCmp_ge, amCmp_eq, amCmp_ne, Nat.reduceLeDiff, Nat.reduceSub, Bool.and_true, Bool.true_and, Bool.and_self, Bool.or_true, Bool.true_or, isRf_3, isRf_4, isRf_5, isRf_8, isRf_9, isRf_10, isRf_11, isRf_15, isRf_16, isRf_17, isRf_18, isRf_19, isRf_20, isRf_21, isRf_22, isRf_23, isRf_24, isRf_25, isRf_26, isRf_27, isRf_28, k_X11_step_0, k_X11_step_1, k_X11_step_4, k_X11_step_5, k_X11_step_6, k_X11_step_9, k_X11_step_10, k_X11_step_13, k_X11_step_16, k_X11_step_17, k_X11_step_20, k_X11_step_21, k_X11_step_22, k_X11_step_25, k_X11_step_28, k_X11_step_29, k_X11_step_30, k_X11_step_33, k_X11_step_34, k_X11_step_35, k_X11_step_36, k_X11_step_39, w_X7_part_e, w_X7_steps_e, up_s, up_nj, up_na, up_up, savR_o, cpy_o, fillm_o, setAud_o, setv_o, setv_s, Int.reduceNe, Int.reduceEq, Int.reduceLT, Int.reduceAdd, not_false_eq_true, ne_eq, or_true, true_or]
  by_cases d : 0 ≤ s ∧ s < σ 13 3
  · have q3 := q2 s d.1 d.2
    rw [if_pos d]
    repeat' (first | assumption | apply And.intro | intro _)
    all_goals first | omega | exact absurd trivial (by assumption) | exact h1 (by omega) | exact h2 (by omega)
  · rw [if_neg d]
    repeat' (first | assumption | apply And.intro | intro _)
    all_goals first | omega | exact absurd trivial (by assumption) | exact h1 (by omega) | exact h2 (by omega)
