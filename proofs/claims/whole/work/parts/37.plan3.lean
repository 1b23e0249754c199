/-! Plan: clauses and their items -/
theorem stl_20101 : stl 20101 = 16 := rfl
theorem stl_20100 : stl 20100 = 4 := rfl
/-- which item a letter tells -/
def itemF (kind s : Int) : Int := if 0 ≤ kind ∧ kind < 4 then fidx (fun i => stv 20101 (kind * 4 + i)) s 0 4 else -1
theorem fidx_4 (f : Int → Int) (c : Int) : fidx f c 0 4 = if f 0 = c then 0 else if f 1 = c then 1 else if f 2 = c then 2 else if f 3 = c then 3 else -1 := rfl
theorem itemF_b (kind s : Int) : -1 ≤ itemF kind s ∧ itemF kind s < 4 := by
  unfold itemF; split
  · rw [fidx_4]; split <;> (try split) <;> (try split) <;> (try split) <;> omega
  · omega
abbrev fitF (kind item v : Int) : Prop := 0 ≤ kind ∧ kind < 4 ∧ 0 ≤ item ∧ item < 4 ∧ sav 21000 (kind * 4 + item) ≤ v ∧ v ≤ sav 21001 (kind * 4 + item)
theorem sav_b0 : ∀ k : Nat, k < 16 → (0 ≤ sav 21000 k ∧ sav 21000 k ≤ 99) ∧ (0 ≤ sav 21001 k ∧ sav 21001 k ≤ 99) ∧ (0 ≤ sav 21002 k ∧ sav 21002 k ≤ 99) := by decide +kernel
theorem sav_b {i : Int} (h0 : 0 ≤ i) (h1 : i < 16) : (0 ≤ sav 21000 i ∧ sav 21000 i ≤ 99) ∧ (0 ≤ sav 21001 i ∧ sav 21001 i ≤ 99) ∧ (0 ≤ sav 21002 i ∧ sav 21002 i ≤ 99) := by
  obtain ⟨k, rfl⟩ : ∃ k : Nat, i = k := ⟨i.toNat, by omega⟩
  exact sav_b0 k (by omega)
/-- a row of numbers as they are where nothing is told -/
def fillU (σ : Mem) (p kind index : Int) : Mem := fun b j => if b = p + 1 ∧ 0 ≤ kind ∧ kind < 4 ∧ 0 ≤ index ∧ index < mostK kind ∧ (firstK kind + index) * 4 ≤ j ∧ j < (firstK kind + index) * 4 + 4 then sav 21002 (kind * 4 + (j - (firstK kind + index) * 4)) else σ b j
theorem fillU_o (σ : Mem) {p kind index b : Int} (h : b ≠ p + 1) : fillU σ p kind index b = σ b := by
  funext j; unfold fillU; rw [if_neg]; rintro ⟨h1, -⟩; exact h h1
theorem fillU_B {σ : Mem} {p : Int} (h : planB σ p) (kind index : Int) : planB (fillU σ p kind index) p := by
  refine ⟨fun k h0 h1 => ?_, fun j h0 h1 => ?_⟩
  · rw [fillU_o σ (by omega)]; exact h.1 k h0 h1
  · unfold fillU
    split
    · exact (sav_b (by omega) (by omega)).2.2
    · exact h.2 j h0 h1

theorem wd_517 : Cond.methodLink RX6 90 yJ0_charAt_5068e ∈ TBL := tb_tab (List.mem_of_getElem? (i := 517) (by decide +kernel)) rfl
theorem wd_520 : Cond.code yJ0_charAt_5068e cJ0_charAt_5068e 2 (some .char) ∈ TBL := tb_tab (List.mem_of_getElem? (i := 520) (by decide +kernel)) rfl
theorem lk_X6_90 : amLk RX6 90 yJ0_charAt_5068e cJ0_charAt_5068e 2 (some .char) 1 := ⟨wd_517, wd_14, wd_520, by decide +kernel, by decide +kernel, by decide⟩
theorem wd_518 : Cond.instanceMethod yJ0_charAt_5068e ∈ TBL := tb_tab (List.mem_of_getElem? (i := 518) (by decide +kernel)) rfl
theorem wd_519 : Cond.selects RJ0 yJ0_charAt_5068e yJ0_charAt_5068e ∈ TBL := tb_tab (List.mem_of_getElem? (i := 519) (by decide +kernel)) rfl
def a_X6_itemOf : AC := [(0, vI 0 1), (1, vIstore 2 2), (2, vIload 0 3), (3, vCallS w_X6_isKind 1 6), (6, vIfEq 36 9), (9, vIload 2 10), (10, vI 4 11), (11, vIcGe 36 14), (14, vLdcS 20001 16), (16, vIload 0 17), (17, vI 4 18), (18, vImul 19), (19, vIload 2 20), (20, vIadd 21), (21, vCallT w_J0_charAt_5068e 1 24), (24, vIload 1 25), (25, vIcNe 30 28), (28, vIload 2 29), (29, vIret), (30, vIinc 2 1 33), (33, vGoto 2), (36, vI (-1) 37), (37, vIret)]
theorem k_X6_itemOf_0 : look a_X6_itemOf 0 = vI 0 1 := rfl
theorem k_X6_itemOf_1 : look a_X6_itemOf 1 = vIstore 2 2 := rfl
theorem k_X6_itemOf_2 : look a_X6_itemOf 2 = vIload 0 3 := rfl
theorem k_X6_itemOf_3 : look a_X6_itemOf 3 = vCallS w_X6_isKind 1 6 := rfl
theorem k_X6_itemOf_6 : look a_X6_itemOf 6 = vIfEq 36 9 := rfl
theorem k_X6_itemOf_9 : look a_X6_itemOf 9 = vIload 2 10 := rfl
theorem k_X6_itemOf_10 : look a_X6_itemOf 10 = vI 4 11 := rfl
theorem k_X6_itemOf_11 : look a_X6_itemOf 11 = vIcGe 36 14 := rfl
theorem k_X6_itemOf_14 : look a_X6_itemOf 14 = vLdcS 20001 16 := rfl
theorem k_X6_itemOf_16 : look a_X6_itemOf 16 = vIload 0 17 := rfl
theorem k_X6_itemOf_17 : look a_X6_itemOf 17 = vI 4 18 := rfl
theorem k_X6_itemOf_18 : look a_X6_itemOf 18 = vImul 19 := rfl
theorem k_X6_itemOf_19 : look a_X6_itemOf 19 = vIload 2 20 := rfl
theorem k_X6_itemOf_20 : look a_X6_itemOf 20 = vIadd 21 := rfl
theorem k_X6_itemOf_21 : look a_X6_itemOf 21 = vCallT w_J0_charAt_5068e 1 24 := rfl
theorem k_X6_itemOf_24 : look a_X6_itemOf 24 = vIload 1 25 := rfl
theorem k_X6_itemOf_25 : look a_X6_itemOf 25 = vIcNe 30 28 := rfl
theorem k_X6_itemOf_28 : look a_X6_itemOf 28 = vIload 2 29 := rfl
theorem k_X6_itemOf_29 : look a_X6_itemOf 29 = vIret := rfl
theorem k_X6_itemOf_30 : look a_X6_itemOf 30 = vIinc 2 1 33 := rfl
theorem k_X6_itemOf_33 : look a_X6_itemOf 33 = vGoto 2 := rfl
theorem k_X6_itemOf_36 : look a_X6_itemOf 36 = vI (-1) 37 := rfl
theorem k_X6_itemOf_37 : look a_X6_itemOf 37 = vIret := rfl
theorem o_X6_itemOf {X : amX} (e1 : XT X = TT) (e2 : XD X = 4) (hB : amB X RX6 cX6_itemOf (some .int) 3) : ∀ pc, amOK X pc (look a_X6_itemOf pc) := by
  have hT : amTok (XT X) := e1 ▸ TT_ok
  refine look_ok ?_
  unfold a_X6_itemOf
  refine fc (ok_iconst hB dX6_itemOf_0) ?_
  refine fc (ok_istore_n hB (by decide) dX6_itemOf_1) ?_
  refine fc (ok_iload_n hB dX6_itemOf_2) ?_
  refine fc (ok_callS hB (e1 ▸ s_X6_isKind) lk_X6_85 (by rw [e2]; decide) wd_511 dX6_itemOf_3) ?_
  refine fc (ok_if_eq hB (t := 36) (by decide) dX6_itemOf_6) ?_
  refine fc (ok_iload_n hB dX6_itemOf_9) ?_
  refine fc (ok_iconst hB dX6_itemOf_10) ?_
  refine fc (ok_icmp_ge hB (t := 36) (by decide) dX6_itemOf_11) ?_
  refine fc (ok_ldcS hB (k := 1) rfl rfl rfl rfl dX6_itemOf_14) ?_
  refine fc (ok_iload_n hB dX6_itemOf_16) ?_
  refine fc (ok_iconst hB dX6_itemOf_17) ?_
  refine fc (ok_imul hB dX6_itemOf_18) ?_
  refine fc (ok_iload_n hB dX6_itemOf_19) ?_
  refine fc (ok_iadd hB dX6_itemOf_20) ?_
  refine fc (ok_callT hB (e1 ▸ s_J0_charAt_5068e) lk_X6_90 (by rw [e2]; decide) rfl wd_518 wd_519 dX6_itemOf_21) ?_
  refine fc (ok_iload_n hB dX6_itemOf_24) ?_
  refine fc (ok_icmp_ne hB (t := 30) (by decide) dX6_itemOf_25) ?_
  refine fc (ok_iload_n hB dX6_itemOf_28) ?_
  refine fc (ok_iret hB dX6_itemOf_29) ?_
  refine fc (ok_iinc hB (by decide) dX6_itemOf_30) ?_
  refine fc (ok_goto hB (t := 2) (by decide) dX6_itemOf_33) ?_
  refine fc (ok_iconst hB dX6_itemOf_36) ?_
  refine fc (ok_iret hB dX6_itemOf_37) ?_
  exact fn

def w_X6_itemOf : WP := fun av σ Q => ∃ (k : Int) (s : Int), av = [(0, k), (0, s)] ∧ (InR k ∧ InR s ∧ Q (0, itemF k s) σ)
theorem w_X6_itemOf_e (k : Int) (s : Int) (σ : Mem) (Q : AV → Mem → Prop) : w_X6_itemOf [(0, k), (0, s)] σ Q = (InR k ∧ InR s ∧ Q (0, itemF k s) σ) := by
  apply propext; constructor
  · rintro ⟨k', s', h9, hb9⟩; cases h9; exact hb9
  · intro hb9; exact ⟨k, s, rfl, hb9⟩

set_option maxRecDepth 100000 in
set_option maxHeartbeats 4000000 in
theorem s_X6_itemOf : ∀ av σ Q, w_X6_itemOf av σ Q → amCall 4 0 0 TT yX6_itemOf cX6_itemOf 3 (some .int) av σ Q := by
  rintro av σ Q ⟨k, s, rfl, hk, hs, h⟩
  refine am_m0 (own := RX6) (A := look a_X6_itemOf) (fun X e1 e2 hB => o_X6_itemOf e1 e2 hB) rfl (by decide +kernel) rfl rfl 160 (w := 3) ?_
  change vcs _ _ _ _ 160 0 [(0, k), (0, s), (6, 0)] [] σ
  unfold itemF at h
  by_cases hc : 0 ≤ k ∧ k < 4
  · have hc' : (0 ≤ k ∧ k < 4) = True := eq_true hc
    have b0 := stv_bd (z := 20101) (i := k * 4) (by decide) (by decide) (by omega) (by rw [stl_20101]; omega)
    have b1 := stv_bd (z := 20101) (i := k * 4 + 1) (by decide) (by decide) (by omega) (by rw [stl_20101]; omega)
    have b2 := stv_bd (z := 20101) (i := k * 4 + 2) (by decide) (by decide) (by omega) (by rw [stl_20101]; omega)
    have b3 := stv_bd (z := 20101) (i := k * 4 + 3) (by decide) (by decide) (by omega) (by rw [stl_20101]; omega)
    rw [if_pos hc, fidx_4] at h
    simp only [vI_e, vL_e, vNull_e, vIload_e, vLload_e, vAload_e, vIstore_e, vLstore_e, vAstore_e, vIinc_e, vIadd_e, vIsub_e, vImul_e, vIand_e, vIor_e, vIxor_e, vIshl_e, vIshr_e, vIushr_e, vIdiv_e, vIrem_e, vLadd_e, vLsub_e, vLmul_e, vLand_e, vLor_e, vLxor_e, vLdiv_e, vLrem_e, vLushr_e, vLshl_e, vLcmp_e, vIneg_e, vI2l_e, vL2i_e, vI2b_e, vI2c_e, vDup_e, vPop_e, vDup2_e, vGoto_e, vIcEq_e, vIfEq_e, vIcNe_e, vIfNe_e, vIcLt_e, vIfLt_e, vIcGe_e, vIfGe_e, vIcGt_e, vIfGt_e, vIcLe_e, vIfLe_e, vNonnull_e, vSw_e, vGetI_e, vGetL_e, vGetR_e, vPutI_e, vPutZ_e, vPutL_e, vPutR_e, vIald_e, vIald_s, vLald_e, vBald_e, vBald_s, vAald_e, vIast_e, vLast_e, vBast_e, vAast_e, vAlen_e8, vAlen_e9, vAlen_e10, vAlen_e11, vAlen_e5, vAlen_e3, vGets_e, vCompact_e, vLdcS_e, vIret_e, vZret_e, vCret_e, vBret_e, vLret_e, vVret_e, vAret_e, vCallM_e0, vCallMV_e0, vCallS_e0, vCallSV_e0, vCallM_e1, vCallMV_e1, vCallS_e1, vCallSV_e1, vCallM_e2, vCallMV_e2, vCallS_e2, vCallSV_e2, vCallM_e3, vCallMV_e3, vCallS_e3, vCallSV_e3, vCallM_e4, vCallMV_e4, vCallS_e4, vCallSV_e4, vCallM_e5, vCallMV_e5, vCallS_e5, vCallSV_e5, vCallM_e6, vCallMV_e6, vCallS_e6, vCallSV_e6, vCallM_e7, vCallMV_e7, vCallS_e7, vCallSV_e7, vBad_e, vStrVal_e, vStrCod_e, vForm_e, vCallT_e0, vCallT_e1, vCallT_e2, vCopy_e, rf_0_0, rf_0_1, rf_0_2, rf_0_3, rf_0_4, rf_0_7, rf_0_10, rf_0_11, rf_0_12, rf_0_13, rf_0_14, rf_0_15, rf_0_16, rf_1_0, rf_3_0, rf_3_1, rf_6_0, rf_6_1, rf_9_0, rf_9_1, rf_9_3, rf_13_0, rf_13_1, rf_13_2, rf_16_0, rf_16_1, rf_16_2, rf_16_3, rf_21_0, rf_21_1, rf_21_2, rf_21_3, rf_26_0, rf_26_1, rf_26_2, rf_26_3, rf_26_4, rf_26_5, rf_26_6, rf_31_0, rf_31_2, rf_31_5, rf_31_6, rf_36_0, rf_36_1, rf_36_2, rf_36_3, rf_39_0, rf_39_1, rf_39_2, rf_41_0, rf_41_1, rf_41_2, rf_41_3, rf_5000_1, rf_5000_2, rf_5000_3, rf_5000_4, rf_5000_5, rf_5000_15, rf_5000_16, rf_5000_18, rf_5000_19, rf_5000_20, rf_5000_21, rf_5000_22, rf_5000_23, rf_5000_24, rf_5000_25, rf_5000_26, rf_5000_27, rf_5000_36, rf_5000_37, rf_5000_40, rf_5000_41, rf_5000_42, rf_5000_43, rf_5000_44, rf_5000_45, rf_5000_47, rf_5000_52, rf_5000_54, rf_5000_55, rf_100_0, rf_100_1, rf_103_0, rf_103_1, rf_106_0, rf_106_1, rf_109_0, rf_109_1, al_2, al_4, al_5, al_7, al_8, al_10, al_11, al_12, al_14, al_15, al_17, al_18, al_19, al_20, al_22, al_23, al_24, al_25, al_27, al_28, al_29, al_30, al_32, al_33, al_34, al_35, al_37, al_38, al_40, al_42, al_5001, al_5002, al_5003, al_5004, al_5005, al_5006, al_5007, al_5008, al_5009, al_5010, al_5011, al_5012, al_5013, al_5014, al_5015, al_5016, al_5017, al_5018, al_5019, al_5020, al_5021, al_5022, al_5023, al_5024, al_5025, al_5026, al_9000, al_101, al_102, al_104, al_105, al_107, al_108, al_110, al_111, vcs_e, lg_c0, lg_cs, lg_nil, set_c0, set_cs, okst_0, okst_s, acok_n, acok_c, List.contains_nil, List.contains_cons, Bool.or_false, Bool.false_or, Bool.false_eq_true, if_false, if_true, ite_self, ne_eq, true_and, and_true, not_false_eq_true, not_true_eq_false, false_imp_iff, true_imp_iff, Nat.ble_eq, Bool.and_eq_true, reduceCtorEq, or_false, false_or, or_true, true_or, false_and, and_false, and_self, Int.reduceLE, Int.reduceAdd, Int.reduceSub, Int.reduceMul, Int.reduceNeg, Int.reduceLT, Int.reduceEq, Int.reduceNe, Nat.reduceBEq, Nat.reduceBNe, Nat.reduceEqDiff, amCmp_in, amCmp_lt, amCmp_le, amCmp_gt, amCmp_ge, amCmp_eq, amCmp_ne, Nat.reduceLeDiff, Nat.reduceSub, Bool.and_true, Bool.true_and, Bool.and_self, Bool.or_true, Bool.true_or, isRf_3, isRf_4, isRf_5, isRf_8, isRf_9, isRf_10, isRf_11, isRf_15, isRf_16, isRf_17, isRf_18, isRf_19, isRf_20, isRf_21, isRf_22, isRf_23, isRf_24, isRf_25, isRf_26, isRf_27, isRf_28, k_X6_itemOf_0, k_X6_itemOf_1, k_X6_itemOf_2, k_X6_itemOf_3, k_X6_itemOf_6, k_X6_itemOf_9, k_X6_itemOf_10, k_X6_itemOf_11, k_X6_itemOf_14, k_X6_itemOf_16, k_X6_itemOf_17, k_X6_itemOf_18, k_X6_itemOf_19, k_X6_itemOf_20, k_X6_itemOf_21, k_X6_itemOf_24, k_X6_itemOf_25, k_X6_itemOf_28, k_X6_itemOf_29, k_X6_itemOf_30, k_X6_itemOf_33, k_X6_itemOf_36, k_X6_itemOf_37, w_J0_charAt_5068e_e, w_X6_isKind_e, hc', stl_20101, Int.add_zero]
    simp only [Int.add_zero] at h
    repeat' (first | assumption | apply And.intro | intro _)
    all_goals first | omega | (repeat (split at h <;> first | exact h | omega | skip))
  · have hc' : (0 ≤ k ∧ k < 4) = False := eq_false hc
    rw [if_neg hc] at h
    simp only [vI_e, vL_e, vNull_e, vIload_e, vLload_e, vAload_e, vIstore_e, vLstore_e, vAstore_e, vIinc_e, vIadd_e, vIsub_e, vImul_e, vIand_e, vIor_e, vIxor_e, vIshl_e, vIshr_e, vIushr_e, vIdiv_e, vIrem_e, vLadd_e, vLsub_e, vLmul_e, vLand_e, vLor_e, vLxor_e, vLdiv_e, vLrem_e, vLushr_e, vLshl_e, vLcmp_e, vIneg_e, vI2l_e, vL2i_e, vI2b_e, vI2c_e, vDup_e, vPop_e, vDup2_e, vGoto_e, vIcEq_e, vIfEq_e, vIcNe_e, vIfNe_e, vIcLt_e, vIfLt_e, vIcGe_e, vIfGe_e, vIcGt_e, vIfGt_e, vIcLe_e, vIfLe_e, vNonnull_e, vSw_e, vGetI_e, vGetL_e, vGetR_e, vPutI_e, vPutZ_e, vPutL_e, vPutR_e, vIald_e, vIald_s, vLald_e, vBald_e, vBald_s, vAald_e, vIast_e, vLast_e, vBast_e, vAast_e, vAlen_e8, vAlen_e9, vAlen_e10, vAlen_e11, vAlen_e5, vAlen_e3, vGets_e, vCompact_e, vLdcS_e, vIret_e, vZret_e, vCret_e, vBret_e, vLret_e, vVret_e, vAret_e, vCallM_e0, vCallMV_e0, vCallS_e0, vCallSV_e0, vCallM_e1, vCallMV_e1, vCallS_e1, vCallSV_e1, vCallM_e2, vCallMV_e2, vCallS_e2, vCallSV_e2, vCallM_e3, vCallMV_e3, vCallS_e3, vCallSV_e3, vCallM_e4, vCallMV_e4, vCallS_e4, vCallSV_e4, vCallM_e5, vCallMV_e5, vCallS_e5, vCallSV_e5, vCallM_e6, vCallMV_e6, vCallS_e6, vCallSV_e6, vCallM_e7, vCallMV_e7, vCallS_e7, vCallSV_e7, vBad_e, vStrVal_e, vStrCod_e, vForm_e, vCallT_e0, vCallT_e1, vCallT_e2, vCopy_e, rf_0_0, rf_0_1, rf_0_2, rf_0_3, rf_0_4, rf_0_7, rf_0_10, rf_0_11, rf_0_12, rf_0_13, rf_0_14, rf_0_15, rf_0_16, rf_1_0, rf_3_0, rf_3_1, rf_6_0, rf_6_1, rf_9_0, rf_9_1, rf_9_3, rf_13_0, rf_13_1, rf_13_2, rf_16_0, rf_16_1, rf_16_2, rf_16_3, rf_21_0, rf_21_1, rf_21_2, rf_21_3, rf_26_0, rf_26_1, rf_26_2, rf_26_3, rf_26_4, rf_26_5, rf_26_6, rf_31_0, rf_31_2, rf_31_5, rf_31_6, rf_36_0, rf_36_1, rf_36_2, rf_36_3, rf_39_0, rf_39_1, rf_39_2, rf_41_0, rf_41_1, rf_41_2, rf_41_3, rf_5000_1, rf_5000_2, rf_5000_3, rf_5000_4, rf_5000_5, rf_5000_15, rf_5000_16, rf_5000_18, rf_5000_19, rf_5000_20, rf_5000_21, rf_5000_22, rf_5000_23, rf_5000_24, rf_5000_25, rf_5000_26, rf_5000_27, rf_5000_36, rf_5000_37, rf_5000_40, rf_5000_41, rf_5000_42, rf_5000_43, rf_5000_44, rf_5000_45, rf_5000_47, rf_5000_52, rf_5000_54, rf_5000_55, rf_100_0, rf_100_1, rf_103_0, rf_103_1, rf_106_0, rf_106_1, rf_109_0, rf_109_1, al_2, al_4, al_5, al_7, al_8, al_10, al_11, al_12, al_14, al_15, al_17, al_18, al_19, al_20, al_22, al_23, al_24, al_25, al_27, al_28, al_29, al_30, al_32, al_33, al_34, al_35, al_37, al_38, al_40, al_42, al_5001, al_5002, al_5003, al_5004, al_5005, al_5006, al_5007, al_5008, al_5009, al_5010, al_5011, al_5012, al_5013, al_5014, al_5015, al_5016, al_5017, al_5018, al_5019, al_5020, al_5021, al_5022, al_5023, al_5024, al_5025, al_5026, al_9000, al_101, al_102, al_104, al_105, al_107, al_108, al_110, al_111, vcs_e, lg_c0, lg_cs, lg_nil, set_c0, set_cs, okst_0, okst_s, acok_n, acok_c, List.contains_nil, List.contains_cons, Bool.or_false, Bool.false_or, Bool.false_eq_true, if_false, if_true, ite_self, ne_eq, true_and, and_true, not_false_eq_true, not_true_eq_false, false_imp_iff, true_imp_iff, Nat.ble_eq, Bool.and_eq_true, reduceCtorEq, or_false, false_or, or_true, true_or, false_and, and_false, and_self, Int.reduceLE, Int.reduceAdd, Int.reduceSub, Int.reduceMul, Int.reduceNeg, Int.reduceLT, Int.reduceEq, Int.reduceNe, Nat.reduceBEq, Nat.reduceBNe, Nat.reduceEqDiff, amCmp_in, amCmp_lt, amCmp_le, amCmp_gt, amCmp_ge, amCmp_eq, amCmp_ne, Nat.reduceLeDiff, Nat.reduceSub, Bool.and_true, Bool.true_and, Bool.and_self, Bool.or_true, Bool.true_or, isRf_3, isRf_4, isRf_5, isRf_8, isRf_9, isRf_10, isRf_11, isRf_15, isRf_16, isRf_17, isRf_18, isRf_19, isRf_20, isRf_21, isRf_22, isRf_23, isRf_24, isRf_25, isRf_26, isRf_27, isRf_28, k_X6_itemOf_0, k_X6_itemOf_1, k_X6_itemOf_2, k_X6_itemOf_3, k_X6_itemOf_6, k_X6_itemOf_9, k_X6_itemOf_10, k_X6_itemOf_11, k_X6_itemOf_14, k_X6_itemOf_16, k_X6_itemOf_17, k_X6_itemOf_18, k_X6_itemOf_19, k_X6_itemOf_20, k_X6_itemOf_21, k_X6_itemOf_24, k_X6_itemOf_25, k_X6_itemOf_28, k_X6_itemOf_29, k_X6_itemOf_30, k_X6_itemOf_33, k_X6_itemOf_36, k_X6_itemOf_37, w_J0_charAt_5068e_e, w_X6_isKind_e, hc']
    repeat' (first | assumption | apply And.intro | intro _)
    all_goals first | omega | exact h
theorem wd_552 : Cond.fieldLink RX6 96 "ArmchairHouse$Plan" "LOWEST" "[I" ∈ TBL := tb_tab (List.mem_of_getElem? (i := 552) (by decide +kernel)) rfl
theorem wd_554 : Cond.fieldLink RX6 99 "ArmchairHouse$Plan" "HIGHEST" "[I" ∈ TBL := tb_tab (List.mem_of_getElem? (i := 554) (by decide +kernel)) rfl
def a_X6_fits : AC := [(0, vIload 0 1), (1, vCallS w_X6_isKind 1 4), (4, vIfEq 46 7), (7, vIload 1 8), (8, vIfLt 46 11), (11, vIload 1 12), (12, vI 4 13), (13, vIcGe 46 16), (16, vIload 2 17), (17, vGets 21000 20), (20, vIload 0 21), (21, vI 4 22), (22, vImul 23), (23, vIload 1 24), (24, vIadd 25), (25, vIald TT 26), (26, vIcLt 46 29), (29, vIload 2 30), (30, vGets 21001 33), (33, vIload 0 34), (34, vI 4 35), (35, vImul 36), (36, vIload 1 37), (37, vIadd 38), (38, vIald TT 39), (39, vIcGt 46 42), (42, vI 1 43), (43, vGoto 47), (46, vI 0 47), (47, vZret)]
theorem k_X6_fits_0 : look a_X6_fits 0 = vIload 0 1 := rfl
theorem k_X6_fits_1 : look a_X6_fits 1 = vCallS w_X6_isKind 1 4 := rfl
theorem k_X6_fits_4 : look a_X6_fits 4 = vIfEq 46 7 := rfl
theorem k_X6_fits_7 : look a_X6_fits 7 = vIload 1 8 := rfl
theorem k_X6_fits_8 : look a_X6_fits 8 = vIfLt 46 11 := rfl
theorem k_X6_fits_11 : look a_X6_fits 11 = vIload 1 12 := rfl
theorem k_X6_fits_12 : look a_X6_fits 12 = vI 4 13 := rfl
theorem k_X6_fits_13 : look a_X6_fits 13 = vIcGe 46 16 := rfl
theorem k_X6_fits_16 : look a_X6_fits 16 = vIload 2 17 := rfl
theorem k_X6_fits_17 : look a_X6_fits 17 = vGets 21000 20 := rfl
theorem k_X6_fits_20 : look a_X6_fits 20 = vIload 0 21 := rfl
theorem k_X6_fits_21 : look a_X6_fits 21 = vI 4 22 := rfl
theorem k_X6_fits_22 : look a_X6_fits 22 = vImul 23 := rfl
theorem k_X6_fits_23 : look a_X6_fits 23 = vIload 1 24 := rfl
theorem k_X6_fits_24 : look a_X6_fits 24 = vIadd 25 := rfl
theorem k_X6_fits_25 : look a_X6_fits 25 = vIald TT 26 := rfl
theorem k_X6_fits_26 : look a_X6_fits 26 = vIcLt 46 29 := rfl
theorem k_X6_fits_29 : look a_X6_fits 29 = vIload 2 30 := rfl
theorem k_X6_fits_30 : look a_X6_fits 30 = vGets 21001 33 := rfl
theorem k_X6_fits_33 : look a_X6_fits 33 = vIload 0 34 := rfl
theorem k_X6_fits_34 : look a_X6_fits 34 = vI 4 35 := rfl
theorem k_X6_fits_35 : look a_X6_fits 35 = vImul 36 := rfl
theorem k_X6_fits_36 : look a_X6_fits 36 = vIload 1 37 := rfl
theorem k_X6_fits_37 : look a_X6_fits 37 = vIadd 38 := rfl
theorem k_X6_fits_38 : look a_X6_fits 38 = vIald TT 39 := rfl
theorem k_X6_fits_39 : look a_X6_fits 39 = vIcGt 46 42 := rfl
theorem k_X6_fits_42 : look a_X6_fits 42 = vI 1 43 := rfl
theorem k_X6_fits_43 : look a_X6_fits 43 = vGoto 47 := rfl
theorem k_X6_fits_46 : look a_X6_fits 46 = vI 0 47 := rfl
theorem k_X6_fits_47 : look a_X6_fits 47 = vZret := rfl
theorem o_X6_fits {X : amX} (e1 : XT X = TT) (e2 : XD X = 1) (hB : amB X RX6 cX6_fits (some .boolean) 3) : ∀ pc, amOK X pc (look a_X6_fits pc) := by
  have hT : amTok (XT X) := e1 ▸ TT_ok
  refine look_ok ?_
  unfold a_X6_fits
  refine fc (ok_iload_n hB dX6_fits_0) ?_
  refine fc (ok_callS hB (e1 ▸ s_X6_isKind) lk_X6_85 (by rw [e2]; decide) wd_511 dX6_fits_1) ?_
  refine fc (ok_if_eq hB (t := 46) (by decide) dX6_fits_4) ?_
  refine fc (ok_iload_n hB dX6_fits_7) ?_
  refine fc (ok_if_lt hB (t := 46) (by decide) dX6_fits_8) ?_
  refine fc (ok_iload_n hB dX6_fits_11) ?_
  refine fc (ok_iconst hB dX6_fits_12) ?_
  refine fc (ok_icmp_ge hB (t := 46) (by decide) dX6_fits_13) ?_
  refine fc (ok_iload_n hB dX6_fits_16) ?_
  refine fc (ok_gets hB (k := 0) rfl rfl wd_552 dX6_fits_17) ?_
  refine fc (ok_iload_n hB dX6_fits_20) ?_
  refine fc (ok_iconst hB dX6_fits_21) ?_
  refine fc (ok_imul hB dX6_fits_22) ?_
  refine fc (ok_iload_n hB dX6_fits_23) ?_
  refine fc (ok_iadd hB dX6_fits_24) ?_
  refine fc (okt_iaload e1 hB dX6_fits_25) ?_
  refine fc (ok_icmp_lt hB (t := 46) (by decide) dX6_fits_26) ?_
  refine fc (ok_iload_n hB dX6_fits_29) ?_
  refine fc (ok_gets hB (k := 1) rfl rfl wd_554 dX6_fits_30) ?_
  refine fc (ok_iload_n hB dX6_fits_33) ?_
  refine fc (ok_iconst hB dX6_fits_34) ?_
  refine fc (ok_imul hB dX6_fits_35) ?_
  refine fc (ok_iload_n hB dX6_fits_36) ?_
  refine fc (ok_iadd hB dX6_fits_37) ?_
  refine fc (okt_iaload e1 hB dX6_fits_38) ?_
  refine fc (ok_icmp_gt hB (t := 46) (by decide) dX6_fits_39) ?_
  refine fc (ok_iconst hB dX6_fits_42) ?_
  refine fc (ok_goto hB (t := 47) (by decide) dX6_fits_43) ?_
  refine fc (ok_iconst hB dX6_fits_46) ?_
  refine fc (ok_zret hB dX6_fits_47) ?_
  exact fn

def w_X6_fits : WP := fun av σ Q => ∃ (k : Int) (i : Int) (v : Int), av = [(0, k), (0, i), (0, v)] ∧ (InR k ∧ InR i ∧ InR v ∧ (fitF k i v → Q (0, 1) σ) ∧ (¬ fitF k i v → Q (0, 0) σ))
theorem w_X6_fits_e (k : Int) (i : Int) (v : Int) (σ : Mem) (Q : AV → Mem → Prop) : w_X6_fits [(0, k), (0, i), (0, v)] σ Q = (InR k ∧ InR i ∧ InR v ∧ (fitF k i v → Q (0, 1) σ) ∧ (¬ fitF k i v → Q (0, 0) σ)) := by
  apply propext; constructor
  · rintro ⟨k', i', v', h9, hb9⟩; cases h9; exact hb9
  · intro hb9; exact ⟨k, i, v, rfl, hb9⟩

set_option maxRecDepth 100000 in
set_option maxHeartbeats 4000000 in
theorem s_X6_fits : ∀ av σ Q, w_X6_fits av σ Q → amCall 1 0 0 TT yX6_fits cX6_fits 3 (some .boolean) av σ Q := by
  rintro av σ Q ⟨k, i, v, rfl, hk, hi, hv, h1, h2⟩
  refine am_m0 (own := RX6) (A := look a_X6_fits) (fun X e1 e2 hB => o_X6_fits e1 e2 hB) rfl (by decide +kernel) rfl rfl 60 (w := 3) ?_
  change vcs _ _ _ _ 60 0 [(0, k), (0, i), (0, v)] [] σ
  unfold fitF at h1 h2
  by_cases hc : 0 ≤ k ∧ k < 4
  · have hc' : (0 ≤ k ∧ k < 4) = True := eq_true hc
    simp only [vI_e, vL_e, vNull_e, vIload_e, vLload_e, vAload_e, vIstore_e, vLstore_e, vAstore_e, vIinc_e, vIadd_e, vIsub_e, vImul_e, vIand_e, vIor_e, vIxor_e, vIshl_e, vIshr_e, vIushr_e, vIdiv_e, vIrem_e, vLadd_e, vLsub_e, vLmul_e, vLand_e, vLor_e, vLxor_e, vLdiv_e, vLrem_e, vLushr_e, vLshl_e, vLcmp_e, vIneg_e, vI2l_e, vL2i_e, vI2b_e, vI2c_e, vDup_e, vPop_e, vDup2_e, vGoto_e, vIcEq_e, vIfEq_e, vIcNe_e, vIfNe_e, vIcLt_e, vIfLt_e, vIcGe_e, vIfGe_e, vIcGt_e, vIfGt_e, vIcLe_e, vIfLe_e, vNonnull_e, vSw_e, vGetI_e, vGetL_e, vGetR_e, vPutI_e, vPutZ_e, vPutL_e, vPutR_e, vIald_e, vIald_s, vLald_e, vBald_e, vBald_s, vAald_e, vIast_e, vLast_e, vBast_e, vAast_e, vAlen_e8, vAlen_e9, vAlen_e10, vAlen_e11, vAlen_e5, vAlen_e3, vGets_e, vCompact_e, vLdcS_e, vIret_e, vZret_e, vCret_e, vBret_e, vLret_e, vVret_e, vAret_e, vCallM_e0, vCallMV_e0, vCallS_e0, vCallSV_e0, vCallM_e1, vCallMV_e1, vCallS_e1, vCallSV_e1, vCallM_e2, vCallMV_e2, vCallS_e2, vCallSV_e2, vCallM_e3, vCallMV_e3, vCallS_e3, vCallSV_e3, vCallM_e4, vCallMV_e4, vCallS_e4, vCallSV_e4, vCallM_e5, vCallMV_e5, vCallS_e5, vCallSV_e5, vCallM_e6, vCallMV_e6, vCallS_e6, vCallSV_e6, vCallM_e7, vCallMV_e7, vCallS_e7, vCallSV_e7, vBad_e, vStrVal_e, vStrCod_e, vForm_e, vCallT_e0, vCallT_e1, vCallT_e2, vCopy_e, rf_0_0, rf_0_1, rf_0_2, rf_0_3, rf_0_4, rf_0_7, rf_0_10, rf_0_11, rf_0_12, rf_0_13, rf_0_14, rf_0_15, rf_0_16, rf_1_0, rf_3_0, rf_3_1, rf_6_0, rf_6_1, rf_9_0, rf_9_1, rf_9_3, rf_13_0, rf_13_1, rf_13_2, rf_16_0, rf_16_1, rf_16_2, rf_16_3, rf_21_0, rf_21_1, rf_21_2, rf_21_3, rf_26_0, rf_26_1, rf_26_2, rf_26_3, rf_26_4, rf_26_5, rf_26_6, rf_31_0, rf_31_2, rf_31_5, rf_31_6, rf_36_0, rf_36_1, rf_36_2, rf_36_3, rf_39_0, rf_39_1, rf_39_2, rf_41_0, rf_41_1, rf_41_2, rf_41_3, rf_5000_1, rf_5000_2, rf_5000_3, rf_5000_4, rf_5000_5, rf_5000_15, rf_5000_16, rf_5000_18, rf_5000_19, rf_5000_20, rf_5000_21, rf_5000_22, rf_5000_23, rf_5000_24, rf_5000_25, rf_5000_26, rf_5000_27, rf_5000_36, rf_5000_37, rf_5000_40, rf_5000_41, rf_5000_42, rf_5000_43, rf_5000_44, rf_5000_45, rf_5000_47, rf_5000_52, rf_5000_54, rf_5000_55, rf_100_0, rf_100_1, rf_103_0, rf_103_1, rf_106_0, rf_106_1, rf_109_0, rf_109_1, al_2, al_4, al_5, al_7, al_8, al_10, al_11, al_12, al_14, al_15, al_17, al_18, al_19, al_20, al_22, al_23, al_24, al_25, al_27, al_28, al_29, al_30, al_32, al_33, al_34, al_35, al_37, al_38, al_40, al_42, al_5001, al_5002, al_5003, al_5004, al_5005, al_5006, al_5007, al_5008, al_5009, al_5010, al_5011, al_5012, al_5013, al_5014, al_5015, al_5016, al_5017, al_5018, al_5019, al_5020, al_5021, al_5022, al_5023, al_5024, al_5025, al_5026, al_9000, al_101, al_102, al_104, al_105, al_107, al_108, al_110, al_111, vcs_e, lg_c0, lg_cs, lg_nil, set_c0, set_cs, okst_0, okst_s, acok_n, acok_c, List.contains_nil, List.contains_cons, Bool.or_false, Bool.false_or, Bool.false_eq_true, if_false, if_true, ite_self, ne_eq, true_and, and_true, not_false_eq_true, not_true_eq_false, false_imp_iff, true_imp_iff, Nat.ble_eq, Bool.and_eq_true, reduceCtorEq, or_false, false_or, or_true, true_or, false_and, and_false, and_self, Int.reduceLE, Int.reduceAdd, Int.reduceSub, Int.reduceMul, Int.reduceNeg, Int.reduceLT, Int.reduceEq, Int.reduceNe, Nat.reduceBEq, Nat.reduceBNe, Nat.reduceEqDiff, amCmp_in, amCmp_lt, amCmp_le, amCmp_gt, amCmp_ge, amCmp_eq, amCmp_ne, Nat.reduceLeDiff, Nat.reduceSub, Bool.and_true, Bool.true_and, Bool.and_self, Bool.or_true, Bool.true_or, isRf_3, isRf_4, isRf_5, isRf_8, isRf_9, isRf_10, isRf_11, isRf_15, isRf_16, isRf_17, isRf_18, isRf_19, isRf_20, isRf_21, isRf_22, isRf_23, isRf_24, isRf_25, isRf_26, isRf_27, isRf_28, k_X6_fits_0, k_X6_fits_1, k_X6_fits_4, k_X6_fits_7, k_X6_fits_8, k_X6_fits_11, k_X6_fits_12, k_X6_fits_13, k_X6_fits_16, k_X6_fits_17, k_X6_fits_20, k_X6_fits_21, k_X6_fits_22, k_X6_fits_23, k_X6_fits_24, k_X6_fits_25, k_X6_fits_26, k_X6_fits_29, k_X6_fits_30, k_X6_fits_33, k_X6_fits_34, k_X6_fits_35, k_X6_fits_36, k_X6_fits_37, k_X6_fits_38, k_X6_fits_39, k_X6_fits_42, k_X6_fits_43, k_X6_fits_46, k_X6_fits_47, w_X6_isKind_e, hc', sal_21000, sal_21001]
    by_cases hi2 : 0 ≤ i ∧ i < 4
    · have hb := sav_b (i := k * 4 + i) (by omega) (by omega)
      repeat' (first | assumption | apply And.intro | intro _)
      all_goals first | omega | exact h1 (by omega) | exact h2 (by omega)
    · repeat' (first | assumption | apply And.intro | intro _)
      all_goals first | omega | exact h1 (by omega) | exact h2 (by omega)
  · have hc' : (0 ≤ k ∧ k < 4) = False := eq_false hc
    simp only [vI_e, vL_e, vNull_e, vIload_e, vLload_e, vAload_e, vIstore_e, vLstore_e, vAstore_e, vIinc_e, vIadd_e, vIsub_e, vImul_e, vIand_e, vIor_e, vIxor_e, vIshl_e, vIshr_e, vIushr_e, vIdiv_e, vIrem_e, vLadd_e, vLsub_e, vLmul_e, vLand_e, vLor_e, vLxor_e, vLdiv_e, vLrem_e, vLushr_e, vLshl_e, vLcmp_e, vIneg_e, vI2l_e, vL2i_e, vI2b_e, vI2c_e, vDup_e, vPop_e, vDup2_e, vGoto_e, vIcEq_e, vIfEq_e, vIcNe_e, vIfNe_e, vIcLt_e, vIfLt_e, vIcGe_e, vIfGe_e, vIcGt_e, vIfGt_e, vIcLe_e, vIfLe_e, vNonnull_e, vSw_e, vGetI_e, vGetL_e, vGetR_e, vPutI_e, vPutZ_e, vPutL_e, vPutR_e, vIald_e, vIald_s, vLald_e, vBald_e, vBald_s, vAald_e, vIast_e, vLast_e, vBast_e, vAast_e, vAlen_e8, vAlen_e9, vAlen_e10, vAlen_e11, vAlen_e5, vAlen_e3, vGets_e, vCompact_e, vLdcS_e, vIret_e, vZret_e, vCret_e, vBret_e, vLret_e, vVret_e, vAret_e, vCallM_e0, vCallMV_e0, vCallS_e0, vCallSV_e0, vCallM_e1, vCallMV_e1, vCallS_e1, vCallSV_e1, vCallM_e2, vCallMV_e2, vCallS_e2, vCallSV_e2, vCallM_e3, vCallMV_e3, vCallS_e3, vCallSV_e3, vCallM_e4, vCallMV_e4, vCallS_e4, vCallSV_e4, vCallM_e5, vCallMV_e5, vCallS_e5, vCallSV_e5, vCallM_e6, vCallMV_e6, vCallS_e6, vCallSV_e6, vCallM_e7, vCallMV_e7, vCallS_e7, vCallSV_e7, vBad_e, vStrVal_e, vStrCod_e, vForm_e, vCallT_e0, vCallT_e1, vCallT_e2, vCopy_e, rf_0_0, rf_0_1, rf_0_2, rf_0_3, rf_0_4, rf_0_7, rf_0_10, rf_0_11, rf_0_12, rf_0_13, rf_0_14, rf_0_15, rf_0_16, rf_1_0, rf_3_0, rf_3_1, rf_6_0, rf_6_1, rf_9_0, rf_9_1, rf_9_3, rf_13_0, rf_13_1, rf_13_2, rf_16_0, rf_16_1, rf_16_2, rf_16_3, rf_21_0, rf_21_1, rf_21_2, rf_21_3, rf_26_0, rf_26_1, rf_26_2, rf_26_3, rf_26_4, rf_26_5, rf_26_6, rf_31_0, rf_31_2, rf_31_5, rf_31_6, rf_36_0, rf_36_1, rf_36_2, rf_36_3, rf_39_0, rf_39_1, rf_39_2, rf_41_0, rf_41_1, rf_41_2, rf_41_3, rf_5000_1, rf_5000_2, rf_5000_3, rf_5000_4, rf_5000_5, rf_5000_15, rf_5000_16, rf_5000_18, rf_5000_19, rf_5000_20, rf_5000_21, rf_5000_22, rf_5000_23, rf_5000_24, rf_5000_25, rf_5000_26, rf_5000_27, rf_5000_36, rf_5000_37, rf_5000_40, rf_5000_41, rf_5000_42, rf_5000_43, rf_5000_44, rf_5000_45, rf_5000_47, rf_5000_52, rf_5000_54, rf_5000_55, rf_100_0, rf_100_1, rf_103_0, rf_103_1, rf_106_0, rf_106_1, rf_109_0, rf_109_1, al_2, al_4, al_5, al_7, al_8, al_10, al_11, al_12, al_14, al_15, al_17, al_18, al_19, al_20, al_22, al_23, al_24, al_25, al_27, al_28, al_29, al_30, al_32, al_33, al_34, al_35, al_37, al_38, al_40, al_42, al_5001, al_5002, al_5003, al_5004, al_5005, al_5006, al_5007, al_5008, al_5009, al_5010, al_5011, al_5012, al_5013, al_5014, al_5015, al_5016, al_5017, al_5018, al_5019, al_5020, al_5021, al_5022, al_5023, al_5024, al_5025, al_5026, al_9000, al_101, al_102, al_104, al_105, al_107, al_108, al_110, al_111, vcs_e, lg_c0, lg_cs, lg_nil, set_c0, set_cs, okst_0, okst_s, acok_n, acok_c, List.contains_nil, List.contains_cons, Bool.or_false, Bool.false_or, Bool.false_eq_true, if_false, if_true, ite_self, ne_eq, true_and, and_true, not_false_eq_true, not_true_eq_false, false_imp_iff, true_imp_iff, Nat.ble_eq, Bool.and_eq_true, reduceCtorEq, or_false, false_or, or_true, true_or, false_and, and_false, and_self, Int.reduceLE, Int.reduceAdd, Int.reduceSub, Int.reduceMul, Int.reduceNeg, Int.reduceLT, Int.reduceEq, Int.reduceNe, Nat.reduceBEq, Nat.reduceBNe, Nat.reduceEqDiff, amCmp_in, amCmp_lt, amCmp_le, amCmp_gt, amCmp_ge, amCmp_eq, amCmp_ne, Nat.reduceLeDiff, Nat.reduceSub, Bool.and_true, Bool.true_and, Bool.and_self, Bool.or_true, Bool.true_or, isRf_3, isRf_4, isRf_5, isRf_8, isRf_9, isRf_10, isRf_11, isRf_15, isRf_16, isRf_17, isRf_18, isRf_19, isRf_20, isRf_21, isRf_22, isRf_23, isRf_24, isRf_25, isRf_26, isRf_27, isRf_28, k_X6_fits_0, k_X6_fits_1, k_X6_fits_4, k_X6_fits_7, k_X6_fits_8, k_X6_fits_11, k_X6_fits_12, k_X6_fits_13, k_X6_fits_16, k_X6_fits_17, k_X6_fits_20, k_X6_fits_21, k_X6_fits_22, k_X6_fits_23, k_X6_fits_24, k_X6_fits_25, k_X6_fits_26, k_X6_fits_29, k_X6_fits_30, k_X6_fits_33, k_X6_fits_34, k_X6_fits_35, k_X6_fits_36, k_X6_fits_37, k_X6_fits_38, k_X6_fits_39, k_X6_fits_42, k_X6_fits_43, k_X6_fits_46, k_X6_fits_47, w_X6_isKind_e, hc']
    repeat' (first | assumption | apply And.intro | intro _)
    all_goals first | omega | exact h1 (by omega) | exact h2 (by omega)
theorem wd_402 : Cond.fieldLink RX6 102 "ArmchairHouse$Plan" "UNTOLD" "[I" ∈ TBL := tb_tab (List.mem_of_getElem? (i := 402) (by decide +kernel)) rfl
def a_X6_fillUntold : AC := [(0, vI 0 1), (1, vIstore 3 2), (2, vIload 3 3), (3, vI 4 4), (4, vIcGe 43 7), (7, vIload 1 8), (8, vIload 2 9), (9, vIload 3 10), (10, vCallS w_X6_slot 3 13), (13, vIstore 4 15), (15, vIload 4 17), (17, vI (-1) 18), (18, vIcEq 37 21), (21, vAload 0 22), (22, vGetR TT 22 0 8 25), (25, vIload 4 27), (27, vGets 21002 30), (30, vIload 1 31), (31, vI 4 32), (32, vImul 33), (33, vIload 3 34), (34, vIadd 35), (35, vIald TT 36), (36, vIast TT 37), (37, vIinc 3 1 40), (40, vGoto 2), (43, vVret)]
theorem k_X6_fillUntold_0 : look a_X6_fillUntold 0 = vI 0 1 := rfl
theorem k_X6_fillUntold_1 : look a_X6_fillUntold 1 = vIstore 3 2 := rfl
theorem k_X6_fillUntold_2 : look a_X6_fillUntold 2 = vIload 3 3 := rfl
theorem k_X6_fillUntold_3 : look a_X6_fillUntold 3 = vI 4 4 := rfl
theorem k_X6_fillUntold_4 : look a_X6_fillUntold 4 = vIcGe 43 7 := rfl
theorem k_X6_fillUntold_7 : look a_X6_fillUntold 7 = vIload 1 8 := rfl
theorem k_X6_fillUntold_8 : look a_X6_fillUntold 8 = vIload 2 9 := rfl
theorem k_X6_fillUntold_9 : look a_X6_fillUntold 9 = vIload 3 10 := rfl
theorem k_X6_fillUntold_10 : look a_X6_fillUntold 10 = vCallS w_X6_slot 3 13 := rfl
theorem k_X6_fillUntold_13 : look a_X6_fillUntold 13 = vIstore 4 15 := rfl
theorem k_X6_fillUntold_15 : look a_X6_fillUntold 15 = vIload 4 17 := rfl
theorem k_X6_fillUntold_17 : look a_X6_fillUntold 17 = vI (-1) 18 := rfl
theorem k_X6_fillUntold_18 : look a_X6_fillUntold 18 = vIcEq 37 21 := rfl
theorem k_X6_fillUntold_21 : look a_X6_fillUntold 21 = vAload 0 22 := rfl
theorem k_X6_fillUntold_22 : look a_X6_fillUntold 22 = vGetR TT 22 0 8 25 := rfl
theorem k_X6_fillUntold_25 : look a_X6_fillUntold 25 = vIload 4 27 := rfl
theorem k_X6_fillUntold_27 : look a_X6_fillUntold 27 = vGets 21002 30 := rfl
theorem k_X6_fillUntold_30 : look a_X6_fillUntold 30 = vIload 1 31 := rfl
theorem k_X6_fillUntold_31 : look a_X6_fillUntold 31 = vI 4 32 := rfl
theorem k_X6_fillUntold_32 : look a_X6_fillUntold 32 = vImul 33 := rfl
theorem k_X6_fillUntold_33 : look a_X6_fillUntold 33 = vIload 3 34 := rfl
theorem k_X6_fillUntold_34 : look a_X6_fillUntold 34 = vIadd 35 := rfl
theorem k_X6_fillUntold_35 : look a_X6_fillUntold 35 = vIald TT 36 := rfl
theorem k_X6_fillUntold_36 : look a_X6_fillUntold 36 = vIast TT 37 := rfl
theorem k_X6_fillUntold_37 : look a_X6_fillUntold 37 = vIinc 3 1 40 := rfl
theorem k_X6_fillUntold_40 : look a_X6_fillUntold 40 = vGoto 2 := rfl
theorem k_X6_fillUntold_43 : look a_X6_fillUntold 43 = vVret := rfl
theorem o_X6_fillUntold {X : amX} (e1 : XT X = TT) (e2 : XD X = 1) (hB : amB X RX6 cX6_fillUntold (none) 5) : ∀ pc, amOK X pc (look a_X6_fillUntold pc) := by
  have hT : amTok (XT X) := e1 ▸ TT_ok
  refine look_ok ?_
  unfold a_X6_fillUntold
  refine fc (ok_iconst hB dX6_fillUntold_0) ?_
  refine fc (ok_istore_n hB (by decide) dX6_fillUntold_1) ?_
  refine fc (ok_iload_n hB dX6_fillUntold_2) ?_
  refine fc (ok_iconst hB dX6_fillUntold_3) ?_
  refine fc (ok_icmp_ge hB (t := 43) (by decide) dX6_fillUntold_4) ?_
  refine fc (ok_iload_n hB dX6_fillUntold_7) ?_
  refine fc (ok_iload_n hB dX6_fillUntold_8) ?_
  refine fc (ok_iload_n hB dX6_fillUntold_9) ?_
  refine fc (ok_callS hB (e1 ▸ s_X6_slot) lk_X6_78 (by rw [e2]; decide) wd_396 dX6_fillUntold_10) ?_
  refine fc (ok_istore hB (by decide) dX6_fillUntold_13) ?_
  refine fc (ok_iload hB dX6_fillUntold_15) ?_
  refine fc (ok_iconst hB dX6_fillUntold_17) ?_
  refine fc (ok_icmp_eq hB (t := 37) (by decide) dX6_fillUntold_18) ?_
  refine fc (ok_aload_n hB dX6_fillUntold_21) ?_
  refine fc (okt_getR e1 hB hT fl_X6_11 rfl af_6_0 at_6_0 (by decide) dX6_fillUntold_22) ?_
  refine fc (ok_iload hB dX6_fillUntold_25) ?_
  refine fc (ok_gets hB (k := 2) rfl rfl wd_402 dX6_fillUntold_27) ?_
  refine fc (ok_iload_n hB dX6_fillUntold_30) ?_
  refine fc (ok_iconst hB dX6_fillUntold_31) ?_
  refine fc (ok_imul hB dX6_fillUntold_32) ?_
  refine fc (ok_iload_n hB dX6_fillUntold_33) ?_
  refine fc (ok_iadd hB dX6_fillUntold_34) ?_
  refine fc (okt_iaload e1 hB dX6_fillUntold_35) ?_
  refine fc (okt_iastore e1 hB dX6_fillUntold_36) ?_
  refine fc (ok_iinc hB (by decide) dX6_fillUntold_37) ?_
  refine fc (ok_goto hB (t := 2) (by decide) dX6_fillUntold_40) ?_
  refine fc (ok_vret hB dX6_fillUntold_43) ?_
  exact fn

def w_X6_fillUntold : WP := fun av σ Q => ∃ (p : Int) (k : Int) (i : Int), av = [(22, p), (0, k), (0, i)] ∧ (isP p ∧ InR k ∧ InR i ∧ Q (6, 0) (fillU σ p k i))
theorem w_X6_fillUntold_e (p : Int) (k : Int) (i : Int) (σ : Mem) (Q : AV → Mem → Prop) : w_X6_fillUntold [(22, p), (0, k), (0, i)] σ Q = (isP p ∧ InR k ∧ InR i ∧ Q (6, 0) (fillU σ p k i)) := by
  apply propext; constructor
  · rintro ⟨p', k', i', h9, hb9⟩; cases h9; exact hb9
  · intro hb9; exact ⟨p, k, i, rfl, hb9⟩

set_option maxRecDepth 100000 in
set_option maxHeartbeats 4000000 in
theorem s_X6_fillUntold : ∀ av σ Q, w_X6_fillUntold av σ Q → amCall 1 0 0 TT yX6_fillUntold cX6_fillUntold 5 (none) av σ Q := by
  rintro av σ Q ⟨p, k, i, rfl, hp, hk, hi, h⟩
  have hpb := isP_b hp
  have hfm := firstK_b k
  refine am_m0 (own := RX6) (A := look a_X6_fillUntold) (fun X e1 e2 hB => o_X6_fillUntold e1 e2 hB) rfl (by decide +kernel) rfl rfl 160 (w := 5) ?_
  change vcs _ _ _ _ 160 0 [(22, p), (0, k), (0, i), (6, 0), (6, 0)] [] σ
  have al : ∀ τ, alen TT τ (p + 1) = 68 := fun τ => alP_1 hp τ
  have rl : ∀ τ, rfv TT τ p 0 = p + 1 := fun τ => rfP_0 hp τ
  by_cases hc : 0 ≤ k ∧ k < 4 ∧ 0 ≤ i ∧ i < mostK k
  · have e : ∀ m, 0 ≤ m → m < 4 → slotF k i m = (firstK k + i) * 4 + m := fun m h0 h1 => by unfold slotF; rw [if_pos (by omega)]
    have b := fun m (h0 : 0 ≤ m) (h1 : m < 4) => (sav_b (i := k * 4 + m) (by omega) (by omega)).2.2
    have b0 := b 0 (by omega) (by omega)
    have b1 := b 1 (by omega) (by omega)
    have b2 := b 2 (by omega) (by omega)
    have b3 := b 3 (by omega) (by omega)
    simp only [vI_e, vL_e, vNull_e, vIload_e, vLload_e, vAload_e, vIstore_e, vLstore_e, vAstore_e, vIinc_e, vIadd_e, vIsub_e, vImul_e, vIand_e, vIor_e, vIxor_e, vIshl_e, vIshr_e, vIushr_e, vIdiv_e, vIrem_e, vLadd_e, vLsub_e, vLmul_e, vLand_e, vLor_e, vLxor_e, vLdiv_e, vLrem_e, vLushr_e, vLshl_e, vLcmp_e, vIneg_e, vI2l_e, vL2i_e, vI2b_e, vI2c_e, vDup_e, vPop_e, vDup2_e, vGoto_e, vIcEq_e, vIfEq_e, vIcNe_e, vIfNe_e, vIcLt_e, vIfLt_e, vIcGe_e, vIfGe_e, vIcGt_e, vIfGt_e, vIcLe_e, vIfLe_e, vNonnull_e, vSw_e, vGetI_e, vGetL_e, vGetR_e, vPutI_e, vPutZ_e, vPutL_e, vPutR_e, vIald_e, vIald_s, vLald_e, vBald_e, vBald_s, vAald_e, vIast_e, vLast_e, vBast_e, vAast_e, vAlen_e8, vAlen_e9, vAlen_e10, vAlen_e11, vAlen_e5, vAlen_e3, vGets_e, vCompact_e, vLdcS_e, vIret_e, vZret_e, vCret_e, vBret_e, vLret_e, vVret_e, vAret_e, vCallM_e0, vCallMV_e0, vCallS_e0, vCallSV_e0, vCallM_e1, vCallMV_e1, vCallS_e1, vCallSV_e1, vCallM_e2, vCallMV_e2, vCallS_e2, vCallSV_e2, vCallM_e3, vCallMV_e3, vCallS_e3, vCallSV_e3, vCallM_e4, vCallMV_e4, vCallS_e4, vCallSV_e4, vCallM_e5, vCallMV_e5, vCallS_e5, vCallSV_e5, vCallM_e6, vCallMV_e6, vCallS_e6, vCallSV_e6, vCallM_e7, vCallMV_e7, vCallS_e7, vCallSV_e7, vBad_e, vStrVal_e, vStrCod_e, vForm_e, vCallT_e0, vCallT_e1, vCallT_e2, vCopy_e, rf_0_0, rf_0_1, rf_0_2, rf_0_3, rf_0_4, rf_0_7, rf_0_10, rf_0_11, rf_0_12, rf_0_13, rf_0_14, rf_0_15, rf_0_16, rf_1_0, rf_3_0, rf_3_1, rf_6_0, rf_6_1, rf_9_0, rf_9_1, rf_9_3, rf_13_0, rf_13_1, rf_13_2, rf_16_0, rf_16_1, rf_16_2, rf_16_3, rf_21_0, rf_21_1, rf_21_2, rf_21_3, rf_26_0, rf_26_1, rf_26_2, rf_26_3, rf_26_4, rf_26_5, rf_26_6, rf_31_0, rf_31_2, rf_31_5, rf_31_6, rf_36_0, rf_36_1, rf_36_2, rf_36_3, rf_39_0, rf_39_1, rf_39_2, rf_41_0, rf_41_1, rf_41_2, rf_41_3, rf_5000_1, rf_5000_2, rf_5000_3, rf_5000_4, rf_5000_5, rf_5000_15, rf_5000_16, rf_5000_18, rf_5000_19, rf_5000_20, rf_5000_21, rf_5000_22, rf_5000_23, rf_5000_24, rf_5000_25, rf_5000_26, rf_5000_27, rf_5000_36, rf_5000_37, rf_5000_40, rf_5000_41, rf_5000_42, rf_5000_43, rf_5000_44, rf_5000_45, rf_5000_47, rf_5000_52, rf_5000_54, rf_5000_55, rf_100_0, rf_100_1, rf_103_0, rf_103_1, rf_106_0, rf_106_1, rf_109_0, rf_109_1, al_2, al_4, al_5, al_7, al_8, al_10, al_11, al_12, al_14, al_15, al_17, al_18, al_19, al_20, al_22, al_23, al_24, al_25, al_27, al_28, al_29, al_30, al_32, al_33, al_34, al_35, al_37, al_38, al_40, al_42, al_5001, al_5002, al_5003, al_5004, al_5005, al_5006, al_5007, al_5008, al_5009, al_5010, al_5011, al_5012, al_5013, al_5014, al_5015, al_5016, al_5017, al_5018, al_5019, al_5020, al_5021, al_5022, al_5023, al_5024, al_5025, al_5026, al_9000, al_101, al_102, al_104, al_105, al_107, al_108, al_110, al_111, vcs_e, lg_c0, lg_cs, lg_nil, set_c0, set_cs, okst_0, okst_s, acok_n, acok_c, List.contains_nil, List.contains_cons, Bool.or_false, Bool.false_or, Bool.false_eq_true, if_false, if_true, ite_self, ne_eq, true_and, and_true, not_false_eq_true, not_true_eq_false, false_imp_iff, true_imp_iff, Nat.ble_eq, Bool.and_eq_true, reduceCtorEq, or_false, false_or, or_true, true_or, false_and, and_false, and_self, Int.reduceLE, Int.reduceAdd, Int.reduceSub, Int.reduceMul, Int.reduceNeg, Int.reduceLT, Int.reduceEq, Int.reduceNe, Nat.reduceBEq, Nat.reduceBNe, Nat.reduceEqDiff, amCmp_in, amCmp_lt, amCmp_le, amCmp_gt, amCmp_ge, amCmp_eq, amCmp_ne, Nat.reduceLeDiff, Nat.reduceSub, Bool.and_true, Bool.true_and, Bool.and_self, Bool.or_true, Bool.true_or, isRf_3, isRf_4, isRf_5, isRf_8, isRf_9, isRf_10, isRf_11, isRf_15, isRf_16, isRf_17, isRf_18, isRf_19, isRf_20, isRf_21, isRf_22, isRf_23, isRf_24, isRf_25, isRf_26, isRf_27, isRf_28, k_X6_fillUntold_0, k_X6_fillUntold_1, k_X6_fillUntold_2, k_X6_fillUntold_3, k_X6_fillUntold_4, k_X6_fillUntold_7, k_X6_fillUntold_8, k_X6_fillUntold_9, k_X6_fillUntold_10, k_X6_fillUntold_13, k_X6_fillUntold_15, k_X6_fillUntold_17, k_X6_fillUntold_18, k_X6_fillUntold_21, k_X6_fillUntold_22, k_X6_fillUntold_25, k_X6_fillUntold_27, k_X6_fillUntold_30, k_X6_fillUntold_31, k_X6_fillUntold_32, k_X6_fillUntold_33, k_X6_fillUntold_34, k_X6_fillUntold_35, k_X6_fillUntold_36, k_X6_fillUntold_37, k_X6_fillUntold_40, k_X6_fillUntold_43, w_X6_slot_e, rl, al, e 0 (by omega) (by omega), e 1 (by omega) (by omega), e 2 (by omega) (by omega), e 3 (by omega) (by omega), sal_21002]
    have hm : up (up (up (up σ (p + 1) ((firstK k + i) * 4 + 0) (sav 21002 (k * 4 + 0))) (p + 1) ((firstK k + i) * 4 + 1) (sav 21002 (k * 4 + 1))) (p + 1) ((firstK k + i) * 4 + 2) (sav 21002 (k * 4 + 2))) (p + 1) ((firstK k + i) * 4 + 3) (sav 21002 (k * 4 + 3)) = fillU σ p k i := by
      funext b j
      unfold up fillU
      by_cases hb : b = p + 1
      · subst hb
        by_cases hj : (firstK k + i) * 4 ≤ j ∧ j < (firstK k + i) * 4 + 4
        · rw [if_pos (c := p + 1 = p + 1 ∧ 0 ≤ k ∧ k < 4 ∧ 0 ≤ i ∧ i < mostK k ∧ (firstK k + i) * 4 ≤ j ∧ j < (firstK k + i) * 4 + 4) (by omega)]
          obtain ⟨m, rfl⟩ : ∃ m, j = (firstK k + i) * 4 + m := ⟨j - (firstK k + i) * 4, by omega⟩
          have : m = 0 ∨ m = 1 ∨ m = 2 ∨ m = 3 := by omega
          rw [show (firstK k + i) * 4 + m - (firstK k + i) * 4 = m by omega]
          rcases this with rfl | rfl | rfl | rfl
          · rw [if_neg (by omega), if_neg (by omega), if_neg (by omega), if_pos (by omega)]
          · rw [if_neg (by omega), if_neg (by omega), if_pos (by omega)]
          · rw [if_neg (by omega), if_pos (by omega)]
          · rw [if_pos (by omega)]
        · rw [if_neg (by omega), if_neg (by omega), if_neg (by omega), if_neg (by omega), if_neg (by omega)]
      · rw [if_neg (by omega), if_neg (by omega), if_neg (by omega), if_neg (by omega), if_neg (by omega)]
    rw [hm]
    repeat' (first | assumption | apply And.intro | intro _)
    all_goals first | omega | exact h
  · have e : ∀ m, slotF k i m = -1 := fun m => by unfold slotF; rw [if_neg (by omega)]
    have hm : fillU σ p k i = σ := by
      funext b j; unfold fillU; rw [if_neg (by omega)]
    rw [hm] at h
    simp only [vI_e, vL_e, vNull_e, vIload_e, vLload_e, vAload_e, vIstore_e, vLstore_e, vAstore_e, vIinc_e, vIadd_e, vIsub_e, vImul_e, vIand_e, vIor_e, vIxor_e, vIshl_e, vIshr_e, vIushr_e, vIdiv_e, vIrem_e, vLadd_e, vLsub_e, vLmul_e, vLand_e, vLor_e, vLxor_e, vLdiv_e, vLrem_e, vLushr_e, vLshl_e, vLcmp_e, vIneg_e, vI2l_e, vL2i_e, vI2b_e, vI2c_e, vDup_e, vPop_e, vDup2_e, vGoto_e, vIcEq_e, vIfEq_e, vIcNe_e, vIfNe_e, vIcLt_e, vIfLt_e, vIcGe_e, vIfGe_e, vIcGt_e, vIfGt_e, vIcLe_e, vIfLe_e, vNonnull_e, vSw_e, vGetI_e, vGetL_e, vGetR_e, vPutI_e, vPutZ_e, vPutL_e, vPutR_e, vIald_e, vIald_s, vLald_e, vBald_e, vBald_s, vAald_e, vIast_e, vLast_e, vBast_e, vAast_e, vAlen_e8, vAlen_e9, vAlen_e10, vAlen_e11, vAlen_e5, vAlen_e3, vGets_e, vCompact_e, vLdcS_e, vIret_e, vZret_e, vCret_e, vBret_e, vLret_e, vVret_e, vAret_e, vCallM_e0, vCallMV_e0, vCallS_e0, vCallSV_e0, vCallM_e1, vCallMV_e1, vCallS_e1, vCallSV_e1, vCallM_e2, vCallMV_e2, vCallS_e2, vCallSV_e2, vCallM_e3, vCallMV_e3, vCallS_e3, vCallSV_e3, vCallM_e4, vCallMV_e4, vCallS_e4, vCallSV_e4, vCallM_e5, vCallMV_e5, vCallS_e5, vCallSV_e5, vCallM_e6, vCallMV_e6, vCallS_e6, vCallSV_e6, vCallM_e7, vCallMV_e7, vCallS_e7, vCallSV_e7, vBad_e, vStrVal_e, vStrCod_e, vForm_e, vCallT_e0, vCallT_e1, vCallT_e2, vCopy_e, rf_0_0, rf_0_1, rf_0_2, rf_0_3, rf_0_4, rf_0_7, rf_0_10, rf_0_11, rf_0_12, rf_0_13, rf_0_14, rf_0_15, rf_0_16, rf_1_0, rf_3_0, rf_3_1, rf_6_0, rf_6_1, rf_9_0, rf_9_1, rf_9_3, rf_13_0, rf_13_1, rf_13_2, rf_16_0, rf_16_1, rf_16_2, rf_16_3, rf_21_0, rf_21_1, rf_21_2, rf_21_3, rf_26_0, rf_26_1, rf_26_2, rf_26_3, rf_26_4, rf_26_5, rf_26_6, rf_31_0, rf_31_2, rf_31_5, rf_31_6, rf_36_0, rf_36_1, rf_36_2, rf_36_3, rf_39_0, rf_39_1, rf_39_2, rf_41_0, rf_41_1, rf_41_2, rf_41_3, rf_5000_1, rf_5000_2, rf_5000_3, rf_5000_4, rf_5000_5, rf_5000_15, rf_5000_16, rf_5000_18, rf_5000_19, rf_5000_20, rf_5000_21, rf_5000_22, rf_5000_23, rf_5000_24, rf_5000_25, rf_5000_26, rf_5000_27, rf_5000_36, rf_5000_37, rf_5000_40, rf_5000_41, rf_5000_42, rf_5000_43, rf_5000_44, rf_5000_45, rf_5000_47, rf_5000_52, rf_5000_54, rf_5000_55, rf_100_0, rf_100_1, rf_103_0, rf_103_1, rf_106_0, rf_106_1, rf_109_0, rf_109_1, al_2, al_4, al_5, al_7, al_8, al_10, al_11, al_12, al_14, al_15, al_17, al_18, al_19, al_20, al_22, al_23, al_24, al_25, al_27, al_28, al_29, al_30, al_32, al_33, al_34, al_35, al_37, al_38, al_40, al_42, al_5001, al_5002, al_5003, al_5004, al_5005, al_5006, al_5007, al_5008, al_5009, al_5010, al_5011, al_5012, al_5013, al_5014, al_5015, al_5016, al_5017, al_5018, al_5019, al_5020, al_5021, al_5022, al_5023, al_5024, al_5025, al_5026, al_9000, al_101, al_102, al_104, al_105, al_107, al_108, al_110, al_111, vcs_e, lg_c0, lg_cs, lg_nil, set_c0, set_cs, okst_0, okst_s, acok_n, acok_c, List.contains_nil, List.contains_cons, Bool.or_false, Bool.false_or, Bool.false_eq_true, if_false, if_true, ite_self, ne_eq, true_and, and_true, not_false_eq_true, not_true_eq_false, false_imp_iff, true_imp_iff, Nat.ble_eq, Bool.and_eq_true, reduceCtorEq, or_false, false_or, or_true, true_or, false_and, and_false, and_self, Int.reduceLE, Int.reduceAdd, Int.reduceSub, Int.reduceMul, Int.reduceNeg, Int.reduceLT, Int.reduceEq, Int.reduceNe, Nat.reduceBEq, Nat.reduceBNe, Nat.reduceEqDiff, amCmp_in, amCmp_lt, amCmp_le, amCmp_gt, amCmp_ge, amCmp_eq, amCmp_ne, Nat.reduceLeDiff, Nat.reduceSub, Bool.and_true, Bool.true_and, Bool.and_self, Bool.or_true, Bool.true_or, isRf_3, isRf_4, isRf_5, isRf_8, isRf_9, isRf_10, isRf_11, isRf_15, isRf_16, isRf_17, isRf_18, isRf_19, isRf_20, isRf_21, isRf_22, isRf_23, isRf_24, isRf_25, isRf_26, isRf_27, isRf_28, k_X6_fillUntold_0, k_X6_fillUntold_1, k_X6_fillUntold_2, k_X6_fillUntold_3, k_X6_fillUntold_4, k_X6_fillUntold_7, k_X6_fillUntold_8, k_X6_fillUntold_9, k_X6_fillUntold_10, k_X6_fillUntold_13, k_X6_fillUntold_15, k_X6_fillUntold_17, k_X6_fillUntold_18, k_X6_fillUntold_21, k_X6_fillUntold_22, k_X6_fillUntold_25, k_X6_fillUntold_27, k_X6_fillUntold_30, k_X6_fillUntold_31, k_X6_fillUntold_32, k_X6_fillUntold_33, k_X6_fillUntold_34, k_X6_fillUntold_35, k_X6_fillUntold_36, k_X6_fillUntold_37, k_X6_fillUntold_40, k_X6_fillUntold_43, w_X6_slot_e, e]
    repeat' (first | assumption | apply And.intro | intro _)
    all_goals first | omega | exact h
theorem wd_391 : Cond.methodLink RX6 24 yX6_fillUntold ∈ TBL := tb_tab (List.mem_of_getElem? (i := 391) (by decide +kernel)) rfl
theorem wd_394 : Cond.code yX6_fillUntold cX6_fillUntold 5 (none) ∈ TBL := tb_tab (List.mem_of_getElem? (i := 394) (by decide +kernel)) rfl
theorem lk_X6_24 : amLk RX6 24 yX6_fillUntold cX6_fillUntold 5 (none) 2 := ⟨wd_391, wd_3, wd_394, by decide +kernel, by decide +kernel, by decide⟩
theorem wd_393 : Cond.instanceMethod yX6_fillUntold ∈ TBL := tb_tab (List.mem_of_getElem? (i := 393) (by decide +kernel)) rfl
theorem sl_X6_fillUntold : Cond.selects RX6 yX6_fillUntold yX6_fillUntold ∈ TBL := tb_sel (List.mem_of_getElem? (i := 0) (by decide +kernel)) rfl
def a_X6_openClause : AC := [(0, vIload 1 1), (1, vCallS w_X6_isKind 1 4), (4, vIfEq 21 7), (7, vAload 0 8), (8, vGetR TT 22 1 8 11), (11, vIload 1 12), (12, vIald TT 13), (13, vGets 21003 16), (16, vIload 1 17), (17, vIald TT 18), (18, vIcLt 23 21), (21, vI 0 22), (22, vZret), (23, vAload 0 24), (24, vIload 1 25), (25, vAload 0 26), (26, vGetR TT 22 1 8 29), (29, vIload 1 30), (30, vIald TT 31), (31, vCallMV w_X6_fillUntold 22 2 34), (34, vAload 0 35), (35, vGetR TT 22 1 8 38), (38, vIload 1 39), (39, vDup2 40), (40, vIald TT 41), (41, vI 1 42), (42, vIadd 43), (43, vIast TT 44), (44, vI 1 45), (45, vZret)]
theorem k_X6_openClause_0 : look a_X6_openClause 0 = vIload 1 1 := rfl
theorem k_X6_openClause_1 : look a_X6_openClause 1 = vCallS w_X6_isKind 1 4 := rfl
theorem k_X6_openClause_4 : look a_X6_openClause 4 = vIfEq 21 7 := rfl
theorem k_X6_openClause_7 : look a_X6_openClause 7 = vAload 0 8 := rfl
theorem k_X6_openClause_8 : look a_X6_openClause 8 = vGetR TT 22 1 8 11 := rfl
theorem k_X6_openClause_11 : look a_X6_openClause 11 = vIload 1 12 := rfl
theorem k_X6_openClause_12 : look a_X6_openClause 12 = vIald TT 13 := rfl
theorem k_X6_openClause_13 : look a_X6_openClause 13 = vGets 21003 16 := rfl
theorem k_X6_openClause_16 : look a_X6_openClause 16 = vIload 1 17 := rfl
theorem k_X6_openClause_17 : look a_X6_openClause 17 = vIald TT 18 := rfl
theorem k_X6_openClause_18 : look a_X6_openClause 18 = vIcLt 23 21 := rfl
theorem k_X6_openClause_21 : look a_X6_openClause 21 = vI 0 22 := rfl
theorem k_X6_openClause_22 : look a_X6_openClause 22 = vZret := rfl
theorem k_X6_openClause_23 : look a_X6_openClause 23 = vAload 0 24 := rfl
theorem k_X6_openClause_24 : look a_X6_openClause 24 = vIload 1 25 := rfl
theorem k_X6_openClause_25 : look a_X6_openClause 25 = vAload 0 26 := rfl
theorem k_X6_openClause_26 : look a_X6_openClause 26 = vGetR TT 22 1 8 29 := rfl
theorem k_X6_openClause_29 : look a_X6_openClause 29 = vIload 1 30 := rfl
theorem k_X6_openClause_30 : look a_X6_openClause 30 = vIald TT 31 := rfl
theorem k_X6_openClause_31 : look a_X6_openClause 31 = vCallMV w_X6_fillUntold 22 2 34 := rfl
theorem k_X6_openClause_34 : look a_X6_openClause 34 = vAload 0 35 := rfl
theorem k_X6_openClause_35 : look a_X6_openClause 35 = vGetR TT 22 1 8 38 := rfl
theorem k_X6_openClause_38 : look a_X6_openClause 38 = vIload 1 39 := rfl
theorem k_X6_openClause_39 : look a_X6_openClause 39 = vDup2 40 := rfl
theorem k_X6_openClause_40 : look a_X6_openClause 40 = vIald TT 41 := rfl
theorem k_X6_openClause_41 : look a_X6_openClause 41 = vI 1 42 := rfl
theorem k_X6_openClause_42 : look a_X6_openClause 42 = vIadd 43 := rfl
theorem k_X6_openClause_43 : look a_X6_openClause 43 = vIast TT 44 := rfl
theorem k_X6_openClause_44 : look a_X6_openClause 44 = vI 1 45 := rfl
theorem k_X6_openClause_45 : look a_X6_openClause 45 = vZret := rfl
theorem o_X6_openClause {X : amX} (e1 : XT X = TT) (e2 : XD X = 2) (hB : amB X RX6 cX6_openClause (some .boolean) 2) : ∀ pc, amOK X pc (look a_X6_openClause pc) := by
  have hT : amTok (XT X) := e1 ▸ TT_ok
  refine look_ok ?_
  unfold a_X6_openClause
  refine fc (ok_iload_n hB dX6_openClause_0) ?_
  refine fc (ok_callS hB (e1 ▸ s_X6_isKind) lk_X6_85 (by rw [e2]; decide) wd_511 dX6_openClause_1) ?_
  refine fc (ok_if_eq hB (t := 21) (by decide) dX6_openClause_4) ?_
  refine fc (ok_aload_n hB dX6_openClause_7) ?_
  refine fc (okt_getR e1 hB hT fl_X6_15 rfl af_6_1 at_6_1 (by decide) dX6_openClause_8) ?_
  refine fc (ok_iload_n hB dX6_openClause_11) ?_
  refine fc (okt_iaload e1 hB dX6_openClause_12) ?_
  refine fc (ok_gets hB (k := 3) rfl rfl wd_398 dX6_openClause_13) ?_
  refine fc (ok_iload_n hB dX6_openClause_16) ?_
  refine fc (okt_iaload e1 hB dX6_openClause_17) ?_
  refine fc (ok_icmp_lt hB (t := 23) (by decide) dX6_openClause_18) ?_
  refine fc (ok_iconst hB dX6_openClause_21) ?_
  refine fc (ok_zret hB dX6_openClause_22) ?_
  refine fc (ok_aload_n hB dX6_openClause_23) ?_
  refine fc (ok_iload_n hB dX6_openClause_24) ?_
  refine fc (ok_aload_n hB dX6_openClause_25) ?_
  refine fc (okt_getR e1 hB hT fl_X6_15 rfl af_6_1 at_6_1 (by decide) dX6_openClause_26) ?_
  refine fc (ok_iload_n hB dX6_openClause_29) ?_
  refine fc (okt_iaload e1 hB dX6_openClause_30) ?_
  refine fc (ok_callMV hB hT (e1 ▸ s_X6_fillUntold) lk_X6_24 (by rw [e2]; decide) (c := 6) rfl rfl rfl wd_393 sl_X6_fillUntold dX6_openClause_31) ?_
  refine fc (ok_aload_n hB dX6_openClause_34) ?_
  refine fc (okt_getR e1 hB hT fl_X6_15 rfl af_6_1 at_6_1 (by decide) dX6_openClause_35) ?_
  refine fc (ok_iload_n hB dX6_openClause_38) ?_
  refine fc (ok_dup2 hB dX6_openClause_39) ?_
  refine fc (okt_iaload e1 hB dX6_openClause_40) ?_
  refine fc (ok_iconst hB dX6_openClause_41) ?_
  refine fc (ok_iadd hB dX6_openClause_42) ?_
  refine fc (okt_iastore e1 hB dX6_openClause_43) ?_
  refine fc (ok_iconst hB dX6_openClause_44) ?_
  refine fc (ok_zret hB dX6_openClause_45) ?_
  exact fn

def w_X6_openClause : WP := fun av σ Q => ∃ (p : Int) (k : Int), av = [(22, p), (0, k)] ∧ (isP p ∧ planB σ p ∧ InR k ∧ (0 ≤ k ∧ k < 4 ∧ σ (p + 2) k < mostK k → Q (0, 1) (up (fillU σ p k (σ (p + 2) k)) (p + 2) k (σ (p + 2) k + 1))) ∧ (¬ (0 ≤ k ∧ k < 4 ∧ σ (p + 2) k < mostK k) → Q (0, 0) σ))
theorem w_X6_openClause_e (p : Int) (k : Int) (σ : Mem) (Q : AV → Mem → Prop) : w_X6_openClause [(22, p), (0, k)] σ Q = (isP p ∧ planB σ p ∧ InR k ∧ (0 ≤ k ∧ k < 4 ∧ σ (p + 2) k < mostK k → Q (0, 1) (up (fillU σ p k (σ (p + 2) k)) (p + 2) k (σ (p + 2) k + 1))) ∧ (¬ (0 ≤ k ∧ k < 4 ∧ σ (p + 2) k < mostK k) → Q (0, 0) σ)) := by
  apply propext; constructor
  · rintro ⟨p', k', h9, hb9⟩; cases h9; exact hb9
  · intro hb9; exact ⟨p, k, rfl, hb9⟩

set_option maxRecDepth 100000 in
set_option maxHeartbeats 4000000 in
theorem s_X6_openClause : ∀ av σ Q, w_X6_openClause av σ Q → amCall 2 0 0 TT yX6_openClause cX6_openClause 2 (some .boolean) av σ Q := by
  rintro av σ Q ⟨p, k, rfl, hp, hB, hk, h1, h2⟩
  have hpb := isP_b hp
  have hmk := mostK_b k
  refine am_m0 (own := RX6) (A := look a_X6_openClause) (fun X e1 e2 hB => o_X6_openClause e1 e2 hB) rfl (by decide +kernel) rfl rfl 60 (w := 2) ?_
  change vcs _ _ _ _ 60 0 [(22, p), (0, k)] [] σ
  have al : ∀ τ, alen TT τ (p + 2) = 4 := fun τ => alP_2 hp τ
  have rl : ∀ τ, rfv TT τ p 1 = p + 2 := fun τ => rfP_1 hp τ
  by_cases hc : 0 ≤ k ∧ k < 4
  · have hc' : (0 ≤ k ∧ k < 4) = True := eq_true hc
    have hb := hB.1 k hc.1 hc.2
    have hfo : fillU σ p k (σ (p + 2) k) (p + 2) = σ (p + 2) := fillU_o σ (by omega)
    simp only [vI_e, vL_e, vNull_e, vIload_e, vLload_e, vAload_e, vIstore_e, vLstore_e, vAstore_e, vIinc_e, vIadd_e, vIsub_e, vImul_e, vIand_e, vIor_e, vIxor_e, vIshl_e, vIshr_e, vIushr_e, vIdiv_e, vIrem_e, vLadd_e, vLsub_e, vLmul_e, vLand_e, vLor_e, vLxor_e, vLdiv_e, vLrem_e, vLushr_e, vLshl_e, vLcmp_e, vIneg_e, vI2l_e, vL2i_e, vI2b_e, vI2c_e, vDup_e, vPop_e, vDup2_e, vGoto_e, vIcEq_e, vIfEq_e, vIcNe_e, vIfNe_e, vIcLt_e, vIfLt_e, vIcGe_e, vIfGe_e, vIcGt_e, vIfGt_e, vIcLe_e, vIfLe_e, vNonnull_e, vSw_e, vGetI_e, vGetL_e, vGetR_e, vPutI_e, vPutZ_e, vPutL_e, vPutR_e, vIald_e, vIald_s, vLald_e, vBald_e, vBald_s, vAald_e, vIast_e, vLast_e, vBast_e, vAast_e, vAlen_e8, vAlen_e9, vAlen_e10, vAlen_e11, vAlen_e5, vAlen_e3, vGets_e, vCompact_e, vLdcS_e, vIret_e, vZret_e, vCret_e, vBret_e, vLret_e, vVret_e, vAret_e, vCallM_e0, vCallMV_e0, vCallS_e0, vCallSV_e0, vCallM_e1, vCallMV_e1, vCallS_e1, vCallSV_e1, vCallM_e2, vCallMV_e2, vCallS_e2, vCallSV_e2, vCallM_e3, vCallMV_e3, vCallS_e3, vCallSV_e3, vCallM_e4, vCallMV_e4, vCallS_e4, vCallSV_e4, vCallM_e5, vCallMV_e5, vCallS_e5, vCallSV_e5, vCallM_e6, vCallMV_e6, vCallS_e6, vCallSV_e6, vCallM_e7, vCallMV_e7, vCallS_e7, vCallSV_e7, vBad_e, vStrVal_e, vStrCod_e, vForm_e, vCallT_e0, vCallT_e1, vCallT_e2, vCopy_e, rf_0_0, rf_0_1, rf_0_2, rf_0_3, rf_0_4, rf_0_7, rf_0_10, rf_0_11, rf_0_12, rf_0_13, rf_0_14, rf_0_15, rf_0_16, rf_1_0, rf_3_0, rf_3_1, rf_6_0, rf_6_1, rf_9_0, rf_9_1, rf_9_3, rf_13_0, rf_13_1, rf_13_2, rf_16_0, rf_16_1, rf_16_2, rf_16_3, rf_21_0, rf_21_1, rf_21_2, rf_21_3, rf_26_0, rf_26_1, rf_26_2, rf_26_3, rf_26_4, rf_26_5, rf_26_6, rf_31_0, rf_31_2, rf_31_5, rf_31_6, rf_36_0, rf_36_1, rf_36_2, rf_36_3, rf_39_0, rf_39_1, rf_39_2, rf_41_0, rf_41_1, rf_41_2, rf_41_3, rf_5000_1, rf_5000_2, rf_5000_3, rf_5000_4, rf_5000_5, rf_5000_15, rf_5000_16, rf_5000_18, rf_5000_19, rf_5000_20, rf_5000_21, rf_5000_22, rf_5000_23, rf_5000_24, rf_5000_25, rf_5000_26, rf_5000_27, rf_5000_36, rf_5000_37, rf_5000_40, rf_5000_41, rf_5000_42, rf_5000_43, rf_5000_44, rf_5000_45, rf_5000_47, rf_5000_52, rf_5000_54, rf_5000_55, rf_100_0, rf_100_1, rf_103_0, rf_103_1, rf_106_0, rf_106_1, rf_109_0, rf_109_1, al_2, al_4, al_5, al_7, al_8, al_10, al_11, al_12, al_14, al_15, al_17, al_18, al_19, al_20, al_22, al_23, al_24, al_25, al_27, al_28, al_29, al_30, al_32, al_33, al_34, al_35, al_37, al_38, al_40, al_42, al_5001, al_5002, al_5003, al_5004, al_5005, al_5006, al_5007, al_5008, al_5009, al_5010, al_5011, al_5012, al_5013, al_5014, al_5015, al_5016, al_5017, al_5018, al_5019, al_5020, al_5021, al_5022, al_5023, al_5024, al_5025, al_5026, al_9000, al_101, al_102, al_104, al_105, al_107, al_108, al_110, al_111, vcs_e, lg_c0, lg_cs, lg_nil, set_c0, set_cs, okst_0, okst_s, acok_n, acok_c, List.contains_nil, List.contains_cons, Bool.or_false, Bool.false_or, Bool.false_eq_true, if_false, if_true, ite_self, ne_eq, true_and, and_true, not_false_eq_true, not_true_eq_false, false_imp_iff, true_imp_iff, Nat.ble_eq, Bool.and_eq_true, reduceCtorEq, or_false, false_or, or_true, true_or, false_and, and_false, and_self, Int.reduceLE, Int.reduceAdd, Int.reduceSub, Int.reduceMul, Int.reduceNeg, Int.reduceLT, Int.reduceEq, Int.reduceNe, Nat.reduceBEq, Nat.reduceBNe, Nat.reduceEqDiff, amCmp_in, amCmp_lt, amCmp_le, amCmp_gt, amCmp_ge, amCmp_eq, amCmp_ne, Nat.reduceLeDiff, Nat.reduceSub, Bool.and_true, Bool.true_and, Bool.and_self, Bool.or_true, Bool.true_or, isRf_3, isRf_4, isRf_5, isRf_8, isRf_9, isRf_10, isRf_11, isRf_15, isRf_16, isRf_17, isRf_18, isRf_19, isRf_20, isRf_21, isRf_22, isRf_23, isRf_24, isRf_25, isRf_26, isRf_27, isRf_28, k_X6_openClause_0, k_X6_openClause_1, k_X6_openClause_4, k_X6_openClause_7, k_X6_openClause_8, k_X6_openClause_11, k_X6_openClause_12, k_X6_openClause_13, k_X6_openClause_16, k_X6_openClause_17, k_X6_openClause_18, k_X6_openClause_21, k_X6_openClause_22, k_X6_openClause_23, k_X6_openClause_24, k_X6_openClause_25, k_X6_openClause_26, k_X6_openClause_29, k_X6_openClause_30, k_X6_openClause_31, k_X6_openClause_34, k_X6_openClause_35, k_X6_openClause_38, k_X6_openClause_39, k_X6_openClause_40, k_X6_openClause_41, k_X6_openClause_42, k_X6_openClause_43, k_X6_openClause_44, k_X6_openClause_45, w_X6_fillUntold_e, w_X6_isKind_e, hc', al, rl, sal_21003, sav_most hc.1 hc.2, hfo]
    repeat' (first | assumption | apply And.intro | intro _)
    all_goals first | omega | exact h1 (by omega) | exact h2 (by omega)
  · have hc' : (0 ≤ k ∧ k < 4) = False := eq_false hc
    simp only [vI_e, vL_e, vNull_e, vIload_e, vLload_e, vAload_e, vIstore_e, vLstore_e, vAstore_e, vIinc_e, vIadd_e, vIsub_e, vImul_e, vIand_e, vIor_e, vIxor_e, vIshl_e, vIshr_e, vIushr_e, vIdiv_e, vIrem_e, vLadd_e, vLsub_e, vLmul_e, vLand_e, vLor_e, vLxor_e, vLdiv_e, vLrem_e, vLushr_e, vLshl_e, vLcmp_e, vIneg_e, vI2l_e, vL2i_e, vI2b_e, vI2c_e, vDup_e, vPop_e, vDup2_e, vGoto_e, vIcEq_e, vIfEq_e, vIcNe_e, vIfNe_e, vIcLt_e, vIfLt_e, vIcGe_e, vIfGe_e, vIcGt_e, vIfGt_e, vIcLe_e, vIfLe_e, vNonnull_e, vSw_e, vGetI_e, vGetL_e, vGetR_e, vPutI_e, vPutZ_e, vPutL_e, vPutR_e, vIald_e, vIald_s, vLald_e, vBald_e, vBald_s, vAald_e, vIast_e, vLast_e, vBast_e, vAast_e, vAlen_e8, vAlen_e9, vAlen_e10, vAlen_e11, vAlen_e5, vAlen_e3, vGets_e, vCompact_e, vLdcS_e, vIret_e, vZret_e, vCret_e, vBret_e, vLret_e, vVret_e, vAret_e, vCallM_e0, vCallMV_e0, vCallS_e0, vCallSV_e0, vCallM_e1, vCallMV_e1, vCallS_e1, vCallSV_e1, vCallM_e2, vCallMV_e2, vCallS_e2, vCallSV_e2, vCallM_e3, vCallMV_e3, vCallS_e3, vCallSV_e3, vCallM_e4, vCallMV_e4, vCallS_e4, vCallSV_e4, vCallM_e5, vCallMV_e5, vCallS_e5, vCallSV_e5, vCallM_e6, vCallMV_e6, vCallS_e6, vCallSV_e6, vCallM_e7, vCallMV_e7, vCallS_e7, vCallSV_e7, vBad_e, vStrVal_e, vStrCod_e, vForm_e, vCallT_e0, vCallT_e1, vCallT_e2, vCopy_e, rf_0_0, rf_0_1, rf_0_2, rf_0_3, rf_0_4, rf_0_7, rf_0_10, rf_0_11, rf_0_12, rf_0_13, rf_0_14, rf_0_15, rf_0_16, rf_1_0, rf_3_0, rf_3_1, rf_6_0, rf_6_1, rf_9_0, rf_9_1, rf_9_3, rf_13_0, rf_13_1, rf_13_2, rf_16_0, rf_16_1, rf_16_2, rf_16_3, rf_21_0, rf_21_1, rf_21_2, rf_21_3, rf_26_0, rf_26_1, rf_26_2, rf_26_3, rf_26_4, rf_26_5, rf_26_6, rf_31_0, rf_31_2, rf_31_5, rf_31_6, rf_36_0, rf_36_1, rf_36_2, rf_36_3, rf_39_0, rf_39_1, rf_39_2, rf_41_0, rf_41_1, rf_41_2, rf_41_3, rf_5000_1, rf_5000_2, rf_5000_3, rf_5000_4, rf_5000_5, rf_5000_15, rf_5000_16, rf_5000_18, rf_5000_19, rf_5000_20, rf_5000_21, rf_5000_22, rf_5000_23, rf_5000_24, rf_5000_25, rf_5000_26, rf_5000_27, rf_5000_36, rf_5000_37, rf_5000_40, rf_5000_41, rf_5000_42, rf_5000_43, rf_5000_44, rf_5000_45, rf_5000_47, rf_5000_52, rf_5000_54, rf_5000_55, rf_100_0, rf_100_1, rf_103_0, rf_103_1, rf_106_0, rf_106_1, rf_109_0, rf_109_1, al_2, al_4, al_5, al_7, al_8, al_10, al_11, al_12, al_14, al_15, al_17, al_18, al_19, al_20, al_22, al_23, al_24, al_25, al_27, al_28, al_29, al_30, al_32, al_33, al_34, al_35, al_37, al_38, al_40, al_42, al_5001, al_5002, al_5003, al_5004, al_5005, al_5006, al_5007, al_5008, al_5009, al_5010, al_5011, al_5012, al_5013, al_5014, al_5015, al_5016, al_5017, al_5018, al_5019, al_5020, al_5021, al_5022, al_5023, al_5024, al_5025, al_5026, al_9000, al_101, al_102, al_104, al_105, al_107, al_108, al_110, al_111, vcs_e, lg_c0, lg_cs, lg_nil, set_c0, set_cs, okst_0, okst_s, acok_n, acok_c, List.contains_nil, List.contains_cons, Bool.or_false, Bool.false_or, Bool.false_eq_true, if_false, if_true, ite_self, ne_eq, true_and, and_true, not_false_eq_true, not_true_eq_false, false_imp_iff, true_imp_iff, Nat.ble_eq, Bool.and_eq_true, reduceCtorEq, or_false, false_or, or_true, true_or, false_and, and_false, and_self, Int.reduceLE, Int.reduceAdd, Int.reduceSub, Int.reduceMul, Int.reduceNeg, Int.reduceLT, Int.reduceEq, Int.reduceNe, Nat.reduceBEq, Nat.reduceBNe, Nat.reduceEqDiff, amCmp_in, amCmp_lt, amCmp_le, amCmp_gt, amCmp_ge, amCmp_eq, amCmp_ne, Nat.reduceLeDiff, Nat.reduceSub, Bool.and_true, Bool.true_and, Bool.and_self, Bool.or_true, Bool.true_or, isRf_3, isRf_4, isRf_5, isRf_8, isRf_9, isRf_10, isRf_11, isRf_15, isRf_16, isRf_17, isRf_18, isRf_19, isRf_20, isRf_21, isRf_22, isRf_23, isRf_24, isRf_25, isRf_26, isRf_27, isRf_28, k_X6_openClause_0, k_X6_openClause_1, k_X6_openClause_4, k_X6_openClause_7, k_X6_openClause_8, k_X6_openClause_11, k_X6_openClause_12, k_X6_openClause_13, k_X6_openClause_16, k_X6_openClause_17, k_X6_openClause_18, k_X6_openClause_21, k_X6_openClause_22, k_X6_openClause_23, k_X6_openClause_24, k_X6_openClause_25, k_X6_openClause_26, k_X6_openClause_29, k_X6_openClause_30, k_X6_openClause_31, k_X6_openClause_34, k_X6_openClause_35, k_X6_openClause_38, k_X6_openClause_39, k_X6_openClause_40, k_X6_openClause_41, k_X6_openClause_42, k_X6_openClause_43, k_X6_openClause_44, k_X6_openClause_45, w_X6_fillUntold_e, w_X6_isKind_e, hc']
    repeat' (first | assumption | apply And.intro | intro _)
    all_goals first | omega | exact h2 (by omega)
