/-! ArmchairHouse: what stands out -/

def a_X11_greatest : AC := [(0, vI 0 1), (1, vIstore 2 2), (2, vI 1 3), (3, vIstore 3 4), (4, vIload 3 5), (5, vIload 1 6), (6, vIcGe 32 9), (9, vIload 3 10), (10, vAload 0 11), (11, vAlen TT 12), (12, vIcGe 32 15), (15, vAload 0 16), (16, vIload 3 17), (17, vIald TT 18), (18, vAload 0 19), (19, vIload 2 20), (20, vIald TT 21), (21, vIcLe 26 24), (24, vIload 3 25), (25, vIstore 2 26), (26, vIinc 3 1 29), (29, vGoto 4), (32, vIload 2 33), (33, vIret)]
theorem k_X11_greatest_0 : look a_X11_greatest 0 = vI 0 1 := rfl
theorem k_X11_greatest_1 : look a_X11_greatest 1 = vIstore 2 2 := rfl
theorem k_X11_greatest_2 : look a_X11_greatest 2 = vI 1 3 := rfl
theorem k_X11_greatest_3 : look a_X11_greatest 3 = vIstore 3 4 := rfl
theorem k_X11_greatest_4 : look a_X11_greatest 4 = vIload 3 5 := rfl
theorem k_X11_greatest_5 : look a_X11_greatest 5 = vIload 1 6 := rfl
theorem k_X11_greatest_6 : look a_X11_greatest 6 = vIcGe 32 9 := rfl
theorem k_X11_greatest_9 : look a_X11_greatest 9 = vIload 3 10 := rfl
theorem k_X11_greatest_10 : look a_X11_greatest 10 = vAload 0 11 := rfl
theorem k_X11_greatest_11 : look a_X11_greatest 11 = vAlen TT 12 := rfl
theorem k_X11_greatest_12 : look a_X11_greatest 12 = vIcGe 32 15 := rfl
theorem k_X11_greatest_15 : look a_X11_greatest 15 = vAload 0 16 := rfl
theorem k_X11_greatest_16 : look a_X11_greatest 16 = vIload 3 17 := rfl
theorem k_X11_greatest_17 : look a_X11_greatest 17 = vIald TT 18 := rfl
theorem k_X11_greatest_18 : look a_X11_greatest 18 = vAload 0 19 := rfl
theorem k_X11_greatest_19 : look a_X11_greatest 19 = vIload 2 20 := rfl
theorem k_X11_greatest_20 : look a_X11_greatest 20 = vIald TT 21 := rfl
theorem k_X11_greatest_21 : look a_X11_greatest 21 = vIcLe 26 24 := rfl
theorem k_X11_greatest_24 : look a_X11_greatest 24 = vIload 3 25 := rfl
theorem k_X11_greatest_25 : look a_X11_greatest 25 = vIstore 2 26 := rfl
theorem k_X11_greatest_26 : look a_X11_greatest 26 = vIinc 3 1 29 := rfl
theorem k_X11_greatest_29 : look a_X11_greatest 29 = vGoto 4 := rfl
theorem k_X11_greatest_32 : look a_X11_greatest 32 = vIload 2 33 := rfl
theorem k_X11_greatest_33 : look a_X11_greatest 33 = vIret := rfl
theorem o_X11_greatest {X : amX} (e1 : XT X = TT) (e2 : XD X = 0) (hB : amB X RX11 cX11_greatest (some .int) 4) : ∀ pc, amOK X pc (look a_X11_greatest pc) := by
  have hT : amTok (XT X) := e1 ▸ TT_ok
  refine look_ok ?_
  unfold a_X11_greatest
  refine fc (ok_iconst hB dX11_greatest_0) ?_
  refine fc (ok_istore_n hB (by decide) dX11_greatest_1) ?_
  refine fc (ok_iconst hB dX11_greatest_2) ?_
  refine fc (ok_istore_n hB (by decide) dX11_greatest_3) ?_
  refine fc (ok_iload_n hB dX11_greatest_4) ?_
  refine fc (ok_iload_n hB dX11_greatest_5) ?_
  refine fc (ok_icmp_ge hB (t := 32) (by decide) dX11_greatest_6) ?_
  refine fc (ok_iload_n hB dX11_greatest_9) ?_
  refine fc (ok_aload_n hB dX11_greatest_10) ?_
  refine fc (okt_arraylength e1 hB dX11_greatest_11) ?_
  refine fc (ok_icmp_ge hB (t := 32) (by decide) dX11_greatest_12) ?_
  refine fc (ok_aload_n hB dX11_greatest_15) ?_
  refine fc (ok_iload_n hB dX11_greatest_16) ?_
  refine fc (okt_iaload e1 hB dX11_greatest_17) ?_
  refine fc (ok_aload_n hB dX11_greatest_18) ?_
  refine fc (ok_iload_n hB dX11_greatest_19) ?_
  refine fc (okt_iaload e1 hB dX11_greatest_20) ?_
  refine fc (ok_icmp_le hB (t := 26) (by decide) dX11_greatest_21) ?_
  refine fc (ok_iload_n hB dX11_greatest_24) ?_
  refine fc (ok_istore_n hB (by decide) dX11_greatest_25) ?_
  refine fc (ok_iinc hB (by decide) dX11_greatest_26) ?_
  refine fc (ok_goto hB (t := 4) (by decide) dX11_greatest_29) ?_
  refine fc (ok_iload_n hB dX11_greatest_32) ?_
  refine fc (ok_iret hB dX11_greatest_33) ?_
  exact fn
def inv_gre (σ : Mem) (a m : Int) (n pc : Nat) (ls st : List AV) (σ' : Mem) : Prop := pc = 4 ∧ st = [] ∧ σ' = σ ∧ ∃ k : Nat, ls = [(8, a), (0, m), (0, fbest (σ a) k), (0, (k : Int))] ∧ 1 ≤ k ∧ (k : Int) + n = max 1 m
def w_X11_greatest : WP := fun av σ Q => ∃ (a : Int) (m : Int), av = [(8, a), (0, m)] ∧ (0 ≤ a ∧ alen TT σ a = 6 ∧ 0 ≤ m ∧ m ≤ 6 ∧ (∀ i, 0 ≤ i → i < 6 → InR (σ a i)) ∧ Q (0, fbest (σ a) (max 1 m).toNat) σ)
theorem w_X11_greatest_e (a : Int) (m : Int) (σ : Mem) (Q : AV → Mem → Prop) : w_X11_greatest [(8, a), (0, m)] σ Q = (0 ≤ a ∧ alen TT σ a = 6 ∧ 0 ≤ m ∧ m ≤ 6 ∧ (∀ i, 0 ≤ i → i < 6 → InR (σ a i)) ∧ Q (0, fbest (σ a) (max 1 m).toNat) σ) := by
  apply propext; constructor
  · rintro ⟨a', m', h9, hb9⟩; cases h9; exact hb9
  · intro hb9; exact ⟨a, m, rfl, hb9⟩

set_option maxRecDepth 100000 in
set_option maxHeartbeats 4000000 in
theorem s_X11_greatest : ∀ av σ Q, w_X11_greatest av σ Q → amCall 0 0 0 TT yX11_greatest cX11_greatest 4 (some .int) av σ Q := by
  rintro av σ Q ⟨a, m, rfl, ha, hal, hm0, hm1, hr, h⟩
  refine am_m [4] (inv_gre σ a m) (own := RX11) (A := look a_X11_greatest) (fun X e1 e2 hB => o_X11_greatest e1 e2 hB) rfl (by decide +kernel) rfl rfl ?_ ⟨60, ?_⟩ (w := 4)
  · rintro n pc ls st σ' ⟨rfl, rfl, rfl, k, rfl, hk1, hk⟩
    refine ⟨60, ?_⟩
    simp only [↓reduceIte, inR_0, inR_1, inR_m, vSw2_e, swP_n, swP_c, vI_e, vL_e, vNull_e, vIload_e, vLload_e, vAload_e, vIstore_e, vLstore_e, vAstore_e, vIinc_e, vIadd_e, vIsub_e, vImul_e, vIand_e, vIor_e, vIxor_e, vIshl_e, vIshr_e, vIushr_e, vIdiv_e, vIrem_e, vLadd_e, vLsub_e, vLmul_e, vLand_e, vLor_e, vLxor_e, vLdiv_e, vLrem_e, vLushr_e, vLshl_e, vLcmp_e, vIneg_e, vI2l_e, vL2i_e, vI2b_e, vI2c_e, vDup_e, vPop_e, vDup2_e, vGoto_e, vIcEq_e, vIfEq_e, vIcNe_e, vIfNe_e, vIcLt_e, vIfLt_e, vIcGe_e, vIfGe_e, vIcGt_e, vIfGt_e, vIcLe_e, vIfLe_e, vNonnull_e, vSw_e, vGetI_e, vGetL_e, vGetR_e, vPutI_e, vPutZ_e, vPutL_e, vPutR_e, vIald_e, vIald_s, vLald_e, vBald_e, vBald_s, vAald_e, vIast_e, vLast_e, vBast_e, vAast_e, vAlen_e8, vAlen_e9, vAlen_e10, vAlen_e11, vAlen_e5, vAlen_e3, vGets_e, vCompact_e, vLdcS_e, vIret_e, vZret_e, vCret_e, vBret_e, vLret_e, vVret_e, vAret_e, vCallM_e0, vCallMV_e0, vCallS_e0, vCallSV_e0, vCallM_e1, vCallMV_e1, vCallS_e1, vCallSV_e1, vCallM_e2, vCallMV_e2, vCallS_e2, vCallSV_e2, vCallM_e3, vCallMV_e3, vCallS_e3, vCallSV_e3, vCallM_e4, vCallMV_e4, vCallS_e4, vCallSV_e4, vCallM_e5, vCallMV_e5, vCallS_e5, vCallSV_e5, vCallM_e6, vCallMV_e6, vCallS_e6, vCallSV_e6, vCallM_e7, vCallMV_e7, vCallS_e7, vCallSV_e7, vBad_e, vStrVal_e, vStrCod_e, vForm_e, vCallT_e0, vCallT_e1, vCallT_e2, vCopy_e, rf_0_0, rf_0_1, rf_0_2, rf_0_3, rf_0_4, rf_0_7, rf_0_10, rf_0_11, rf_0_12, rf_0_13, rf_0_14, rf_0_15, rf_0_16, rf_1_0, rf_3_0, rf_3_1, rf_6_0, rf_6_1, rf_9_0, rf_9_1, rf_9_3, rf_13_0, rf_13_1, rf_13_2, rf_16_0, rf_16_1, rf_16_2, rf_16_3, rf_21_0, rf_21_1, rf_21_2, rf_21_3, rf_26_0, rf_26_1, rf_26_2, rf_26_3, rf_26_4, rf_26_5, rf_26_6, rf_31_0, rf_31_2, rf_31_5, rf_31_6, rf_36_0, rf_36_1, rf_36_2, rf_36_3, rf_39_0, rf_39_1, rf_39_2, rf_41_0, rf_41_1, rf_41_2, rf_41_3, rf_5000_1, rf_5000_2, rf_5000_3, rf_5000_4, rf_5000_5, rf_5000_15, rf_5000_16, rf_5000_18, rf_5000_19, rf_5000_20, rf_5000_21, rf_5000_22, rf_5000_23, rf_5000_24, rf_5000_25, rf_5000_26, rf_5000_27, rf_5000_36, rf_5000_37, rf_5000_40, rf_5000_41, rf_5000_42, rf_5000_43, rf_5000_44, rf_5000_45, rf_5000_47, rf_5000_52, rf_5000_54, rf_5000_55, rf_100_0, rf_100_1, rf_103_0, rf_103_1, rf_106_0, rf_106_1, rf_109_0, rf_109_1, al_2, al_4, al_5, al_7, al_8, al_10, al_11, al_12, al_14, al_15, al_17, al_18, al_19, al_20, al_22, al_23, al_24, al_25, al_27, al_28, al_29, al_30, al_32, al_33, al_34, al_35, al_37, al_38, al_40, al_42, al_5001, al_5002, al_5003, al_5004, al_5005, al_5006, al_5007, al_5008, al_5009, al_5010, al_5011, al_5012, al_5013, al_5014, al_5015, al_5016, al_5017, al_5018, al_5019, al_5020, al_5021, al_5022, al_5023, al_5024, al_5025, al_5026, al_9000, al_101, al_102, al_104, al_105, al_107, al_108, al_110, al_111, vcs_e, lg_c0, lg_cs, lg_nil, set_c0, set_cs, okst_0, okst_s, acok_n, acok_c, List.contains_nil, List.contains_cons, Bool.or_false, Bool.false_or, Bool.false_eq_true, if_false, if_true, ite_self, ne_eq, true_and, and_true, not_false_eq_true, not_true_eq_false, false_imp_iff, true_imp_iff, Nat.ble_eq, Bool.and_eq_true, reduceCtorEq, or_false, false_or, or_true, true_or, false_and, and_false, and_self, Int.reduceLE, Int.reduceAdd, Int.reduceSub, Int.reduceMul, Int.reduceNeg, Int.reduceLT, Int.reduceEq, Int.reduceNe, Nat.reduceBEq, Nat.reduceBNe, Nat.reduceEqDiff, amCmp_in, amCmp_lt, amCmp_le, amCmp_gt, amCmp_ge, amCmp_eq, amCmp_ne, Nat.reduceLeDiff, Nat.reduceSub, Bool.and_true, Bool.true_and, Bool.and_self, Bool.or_true, Bool.true_or, isRf_3, isRf_4, isRf_5, isRf_8, isRf_9, isRf_10, isRf_11, isRf_15, isRf_16, isRf_17, isRf_18, isRf_19, isRf_20, isRf_21, isRf_22, isRf_23, isRf_24, isRf_25, isRf_26, isRf_27, isRf_28, k_X11_greatest_0, k_X11_greatest_1, k_X11_greatest_2, k_X11_greatest_3, k_X11_greatest_4, k_X11_greatest_5, k_X11_greatest_6, k_X11_greatest_9, k_X11_greatest_10, k_X11_greatest_11, k_X11_greatest_12, k_X11_greatest_15, k_X11_greatest_16, k_X11_greatest_17, k_X11_greatest_18, k_X11_greatest_19, k_X11_greatest_20, k_X11_greatest_21, k_X11_greatest_24, k_X11_greatest_25, k_X11_greatest_26, k_X11_greatest_29, k_X11_greatest_32, k_X11_greatest_33, hal]
    have hb := fbest_b (σ' a) k
    by_cases c : (k : Int) < m
    · have hb2 : fbest (σ' a) k < 6 := by omega
      have i1 := hr k (by omega) (by omega)
      have i2 := hr _ hb.1 hb2
      have nx : ∀ v, v = fbest (σ' a) (k + 1) → ∃ k', k' < n ∧ inv_gre σ' a m k' 4 [(8, a), (0, m), (0, v), (0, (k : Int) + 1)] [] σ' := fun v hv => ⟨n - 1, by omega, rfl, rfl, rfl, k + 1, by rw [hv]; rfl, by omega, by omega⟩
      have e := fbest_s (σ' a) k
      by_cases c2 : σ' a k > σ' a (fbest (σ' a) k)
      · rw [if_pos c2] at e
        have i9 := nx _ e.symm
        repeat' (first | assumption | apply And.intro | intro _)
        all_goals first | omega | exact absurd trivial (by assumption) | exact i9
      · rw [if_neg c2] at e
        have i9 := nx _ e.symm
        repeat' (first | assumption | apply And.intro | intro _)
        all_goals first | omega | exact absurd trivial (by assumption) | exact i9
    · rw [show (max 1 m).toNat = k by omega] at h
      repeat' (first | assumption | apply And.intro | intro _)
      all_goals first | omega | exact absurd trivial (by assumption) | exact h
  · change vcs _ _ _ _ 60 0 [(8, a), (0, m), (6, 0), (6, 0)] [] σ
    simp only [↓reduceIte, inR_0, inR_1, inR_m, vI_e, vL_e, vNull_e, vIload_e, vLload_e, vAload_e, vIstore_e, vLstore_e, vAstore_e, vIinc_e, vIadd_e, vIsub_e, vImul_e, vIand_e, vIor_e, vIxor_e, vIshl_e, vIshr_e, vIushr_e, vIdiv_e, vIrem_e, vLadd_e, vLsub_e, vLmul_e, vLand_e, vLor_e, vLxor_e, vLdiv_e, vLrem_e, vLushr_e, vLshl_e, vLcmp_e, vIneg_e, vI2l_e, vL2i_e, vI2b_e, vI2c_e, vDup_e, vPop_e, vDup2_e, vGoto_e, vIcEq_e, vIfEq_e, vIcNe_e, vIfNe_e, vIcLt_e, vIfLt_e, vIcGe_e, vIfGe_e, vIcGt_e, vIfGt_e, vIcLe_e, vIfLe_e, vNonnull_e, vSw_e, vGetI_e, vGetL_e, vGetR_e, vPutI_e, vPutZ_e, vPutL_e, vPutR_e, vIald_e, vIald_s, vLald_e, vBald_e, vBald_s, vAald_e, vIast_e, vLast_e, vBast_e, vAast_e, vAlen_e8, vAlen_e9, vAlen_e10, vAlen_e11, vAlen_e5, vAlen_e3, vGets_e, vCompact_e, vLdcS_e, vIret_e, vZret_e, vCret_e, vBret_e, vLret_e, vVret_e, vAret_e, vCallM_e0, vCallMV_e0, vCallS_e0, vCallSV_e0, vCallM_e1, vCallMV_e1, vCallS_e1, vCallSV_e1, vCallM_e2, vCallMV_e2, vCallS_e2, vCallSV_e2, vCallM_e3, vCallMV_e3, vCallS_e3, vCallSV_e3, vCallM_e4, vCallMV_e4, vCallS_e4, vCallSV_e4, vCallM_e5, vCallMV_e5, vCallS_e5, vCallSV_e5, vCallM_e6, vCallMV_e6, vCallS_e6, vCallSV_e6, vCallM_e7, vCallMV_e7, vCallS_e7, vCallSV_e7, vBad_e, vStrVal_e, vStrCod_e, vForm_e, vCallT_e0, vCallT_e1, vCallT_e2, vCopy_e, rf_0_0, rf_0_1, rf_0_2, rf_0_3, rf_0_4, rf_0_7, rf_0_10, rf_0_11, rf_0_12, rf_0_13, rf_0_14, rf_0_15, rf_0_16, rf_1_0, rf_3_0, rf_3_1, rf_6_0, rf_6_1, rf_9_0, rf_9_1, rf_9_3, rf_13_0, rf_13_1, rf_13_2, rf_16_0, rf_16_1, rf_16_2, rf_16_3, rf_21_0, rf_21_1, rf_21_2, rf_21_3, rf_26_0, rf_26_1, rf_26_2, rf_26_3, rf_26_4, rf_26_5, rf_26_6, rf_31_0, rf_31_2, rf_31_5, rf_31_6, rf_36_0, rf_36_1, rf_36_2, rf_36_3, rf_39_0, rf_39_1, rf_39_2, rf_41_0, rf_41_1, rf_41_2, rf_41_3, rf_5000_1, rf_5000_2, rf_5000_3, rf_5000_4, rf_5000_5, rf_5000_15, rf_5000_16, rf_5000_18, rf_5000_19, rf_5000_20, rf_5000_21, rf_5000_22, rf_5000_23, rf_5000_24, rf_5000_25, rf_5000_26, rf_5000_27, rf_5000_36, rf_5000_37, rf_5000_40, rf_5000_41, rf_5000_42, rf_5000_43, rf_5000_44, rf_5000_45, rf_5000_47, rf_5000_52, rf_5000_54, rf_5000_55, rf_100_0, rf_100_1, rf_103_0, rf_103_1, rf_106_0, rf_106_1, rf_109_0, rf_109_1, al_2, al_4, al_5, al_7, al_8, al_10, al_11, al_12, al_14, al_15, al_17, al_18, al_19, al_20, al_22, al_23, al_24, al_25, al_27, al_28, al_29, al_30, al_32, al_33, al_34, al_35, al_37, al_38, al_40, al_42, al_5001, al_5002, al_5003, al_5004, al_5005, al_5006, al_5007, al_5008, al_5009, al_5010, al_5011, al_5012, al_5013, al_5014, al_5015, al_5016, al_5017, al_5018, al_5019, al_5020, al_5021, al_5022, al_5023, al_5024, al_5025, al_5026, al_9000, al_101, al_102, al_104, al_105, al_107, al_108, al_110, al_111, vcs_e, lg_c0, lg_cs, lg_nil, set_c0, set_cs, okst_0, okst_s, acok_n, acok_c, List.contains_nil, List.contains_cons, Bool.or_false, Bool.false_or, Bool.false_eq_true, if_false, if_true, ite_self, ne_eq, true_and, and_true, not_false_eq_true, not_true_eq_false, false_imp_iff, true_imp_iff, Nat.ble_eq, Bool.and_eq_true, reduceCtorEq, or_false, false_or, or_true, true_or, false_and, and_false, and_self, Int.reduceLE, Int.reduceAdd, Int.reduceSub, Int.reduceMul, Int.reduceNeg, Int.reduceLT, Int.reduceEq, Int.reduceNe, Nat.reduceBEq, Nat.reduceBNe, Nat.reduceEqDiff, amCmp_in, amCmp_lt, amCmp_le, amCmp_gt, amCmp_ge, amCmp_eq, amCmp_ne, Nat.reduceLeDiff, Nat.reduceSub, Bool.and_true, Bool.true_and, Bool.and_self, Bool.or_true, Bool.true_or, isRf_3, isRf_4, isRf_5, isRf_8, isRf_9, isRf_10, isRf_11, isRf_15, isRf_16, isRf_17, isRf_18, isRf_19, isRf_20, isRf_21, isRf_22, isRf_23, isRf_24, isRf_25, isRf_26, isRf_27, isRf_28, k_X11_greatest_0, k_X11_greatest_1, k_X11_greatest_2, k_X11_greatest_3, k_X11_greatest_4, k_X11_greatest_5, k_X11_greatest_6, k_X11_greatest_9, k_X11_greatest_10, k_X11_greatest_11, k_X11_greatest_12, k_X11_greatest_15, k_X11_greatest_16, k_X11_greatest_17, k_X11_greatest_18, k_X11_greatest_19, k_X11_greatest_20, k_X11_greatest_21, k_X11_greatest_24, k_X11_greatest_25, k_X11_greatest_26, k_X11_greatest_29, k_X11_greatest_32, k_X11_greatest_33]
    exact ⟨(max 1 m - 1).toNat, rfl, rfl, rfl, 1, by rw [show fbest (σ a) 1 = 0 by rw [fbest_s]; exact if_neg (by show ¬ (σ a (0 : Nat) > σ a 0); simp)]; rfl, by omega, by omega⟩
def a_X11_dullest : AC := [(0, vI 0 1), (1, vIstore 1 2), (2, vI 1 3), (3, vIstore 2 4), (4, vIload 2 5), (5, vAload 0 6), (6, vGetR TT 27 2 22 9), (9, vI 3 10), (10, vCallM w_X6_many 22 1 13), (13, vIcGe 43 16), (16, vAload 0 17), (17, vGetR TT 27 2 22 20), (20, vIload 2 21), (21, vCallM w_X6_dullness 22 1 24), (24, vAload 0 25), (25, vGetR TT 27 2 22 28), (28, vIload 1 29), (29, vCallM w_X6_dullness 22 1 32), (32, vIcLe 37 35), (35, vIload 2 36), (36, vIstore 1 37), (37, vIinc 2 1 40), (40, vGoto 4), (43, vIload 1 44), (44, vIret)]
theorem k_X11_dullest_0 : look a_X11_dullest 0 = vI 0 1 := rfl
theorem k_X11_dullest_1 : look a_X11_dullest 1 = vIstore 1 2 := rfl
theorem k_X11_dullest_2 : look a_X11_dullest 2 = vI 1 3 := rfl
theorem k_X11_dullest_3 : look a_X11_dullest 3 = vIstore 2 4 := rfl
theorem k_X11_dullest_4 : look a_X11_dullest 4 = vIload 2 5 := rfl
theorem k_X11_dullest_5 : look a_X11_dullest 5 = vAload 0 6 := rfl
theorem k_X11_dullest_6 : look a_X11_dullest 6 = vGetR TT 27 2 22 9 := rfl
theorem k_X11_dullest_9 : look a_X11_dullest 9 = vI 3 10 := rfl
theorem k_X11_dullest_10 : look a_X11_dullest 10 = vCallM w_X6_many 22 1 13 := rfl
theorem k_X11_dullest_13 : look a_X11_dullest 13 = vIcGe 43 16 := rfl
theorem k_X11_dullest_16 : look a_X11_dullest 16 = vAload 0 17 := rfl
theorem k_X11_dullest_17 : look a_X11_dullest 17 = vGetR TT 27 2 22 20 := rfl
theorem k_X11_dullest_20 : look a_X11_dullest 20 = vIload 2 21 := rfl
theorem k_X11_dullest_21 : look a_X11_dullest 21 = vCallM w_X6_dullness 22 1 24 := rfl
theorem k_X11_dullest_24 : look a_X11_dullest 24 = vAload 0 25 := rfl
theorem k_X11_dullest_25 : look a_X11_dullest 25 = vGetR TT 27 2 22 28 := rfl
theorem k_X11_dullest_28 : look a_X11_dullest 28 = vIload 1 29 := rfl
theorem k_X11_dullest_29 : look a_X11_dullest 29 = vCallM w_X6_dullness 22 1 32 := rfl
theorem k_X11_dullest_32 : look a_X11_dullest 32 = vIcLe 37 35 := rfl
theorem k_X11_dullest_35 : look a_X11_dullest 35 = vIload 2 36 := rfl
theorem k_X11_dullest_36 : look a_X11_dullest 36 = vIstore 1 37 := rfl
theorem k_X11_dullest_37 : look a_X11_dullest 37 = vIinc 2 1 40 := rfl
theorem k_X11_dullest_40 : look a_X11_dullest 40 = vGoto 4 := rfl
theorem k_X11_dullest_43 : look a_X11_dullest 43 = vIload 1 44 := rfl
theorem k_X11_dullest_44 : look a_X11_dullest 44 = vIret := rfl
theorem o_X11_dullest {X : amX} (e1 : XT X = TT) (e2 : XD X = 3) (hB : amB X RX11 cX11_dullest (some .int) 3) : ∀ pc, amOK X pc (look a_X11_dullest pc) := by
  have hT : amTok (XT X) := e1 ▸ TT_ok
  refine look_ok ?_
  unfold a_X11_dullest
  refine fc (ok_iconst hB dX11_dullest_0) ?_
  refine fc (ok_istore_n hB (by decide) dX11_dullest_1) ?_
  refine fc (ok_iconst hB dX11_dullest_2) ?_
  refine fc (ok_istore_n hB (by decide) dX11_dullest_3) ?_
  refine fc (ok_iload_n hB dX11_dullest_4) ?_
  refine fc (ok_aload_n hB dX11_dullest_5) ?_
  refine fc (okt_getR e1 hB hT fl_X11_23 rfl af_11_2 at_11_2 (by decide) dX11_dullest_6) ?_
  refine fc (ok_iconst hB dX11_dullest_9) ?_
  refine fc (ok_callM hB hT (e1 ▸ s_X6_many) lk_X11_154 (by rw [e2]; decide) (c := 6) rfl rfl rfl wd_557 wd_558 dX11_dullest_10) ?_
  refine fc (ok_icmp_ge hB (t := 43) (by decide) dX11_dullest_13) ?_
  refine fc (ok_aload_n hB dX11_dullest_16) ?_
  refine fc (okt_getR e1 hB hT fl_X11_23 rfl af_11_2 at_11_2 (by decide) dX11_dullest_17) ?_
  refine fc (ok_iload_n hB dX11_dullest_20) ?_
  refine fc (ok_callM hB hT (e1 ▸ s_X6_dullness) lk_X11_202 (by rw [e2]; decide) (c := 6) rfl rfl rfl wd_738 wd_739 dX11_dullest_21) ?_
  refine fc (ok_aload_n hB dX11_dullest_24) ?_
  refine fc (okt_getR e1 hB hT fl_X11_23 rfl af_11_2 at_11_2 (by decide) dX11_dullest_25) ?_
  refine fc (ok_iload_n hB dX11_dullest_28) ?_
  refine fc (ok_callM hB hT (e1 ▸ s_X6_dullness) lk_X11_202 (by rw [e2]; decide) (c := 6) rfl rfl rfl wd_738 wd_739 dX11_dullest_29) ?_
  refine fc (ok_icmp_le hB (t := 37) (by decide) dX11_dullest_32) ?_
  refine fc (ok_iload_n hB dX11_dullest_35) ?_
  refine fc (ok_istore_n hB (by decide) dX11_dullest_36) ?_
  refine fc (ok_iinc hB (by decide) dX11_dullest_37) ?_
  refine fc (ok_goto hB (t := 4) (by decide) dX11_dullest_40) ?_
  refine fc (ok_iload_n hB dX11_dullest_43) ?_
  refine fc (ok_iret hB dX11_dullest_44) ?_
  exact fn
def inv_dul (σ : Mem) (n pc : Nat) (ls st : List AV) (σ' : Mem) : Prop := pc = 4 ∧ st = [] ∧ σ' = σ ∧ ∃ k : Nat, ls = [(27, 0), (0, fbest (fun t => pval σ 6 3 t 0) k), (0, (k : Int))] ∧ 1 ≤ k ∧ (k : Int) + n = max 1 (pcnt σ 6 3)
def w_X11_dullest : WP := fun av σ Q => av = [(27, 0)] ∧ (planB σ 6 ∧ Q (0, fbest (fun t => pval σ 6 3 t 0) (max 1 (pcnt σ 6 3)).toNat) σ)
theorem w_X11_dullest_e  (σ : Mem) (Q : AV → Mem → Prop) : w_X11_dullest [(27, 0)] σ Q = (planB σ 6 ∧ Q (0, fbest (fun t => pval σ 6 3 t 0) (max 1 (pcnt σ 6 3)).toNat) σ) := by
  apply propext; constructor
  · rintro ⟨h9, hb9⟩; cases h9; exact hb9
  · intro hb9; exact ⟨rfl, hb9⟩

set_option maxRecDepth 100000 in
set_option maxHeartbeats 4000000 in
theorem s_X11_dullest : ∀ av σ Q, w_X11_dullest av σ Q → amCall 3 0 0 TT yX11_dullest cX11_dullest 3 (some .int) av σ Q := by
  rintro av σ Q ⟨rfl, hB, h⟩
  have c3 := pcnt_b hB 3
  refine am_m [4] (inv_dul σ) (own := RX11) (A := look a_X11_dullest) (fun X e1 e2 hB => o_X11_dullest e1 e2 hB) rfl (by decide +kernel) rfl rfl ?_ ⟨60, ?_⟩ (w := 3)
  · rintro n pc ls st σ' ⟨rfl, rfl, rfl, k, rfl, hk1, hk⟩
    refine ⟨60, ?_⟩
    simp only [↓reduceIte, inR_0, inR_1, inR_m, vSw2_e, swP_n, swP_c, vI_e, vL_e, vNull_e, vIload_e, vLload_e, vAload_e, vIstore_e, vLstore_e, vAstore_e, vIinc_e, vIadd_e, vIsub_e, vImul_e, vIand_e, vIor_e, vIxor_e, vIshl_e, vIshr_e, vIushr_e, vIdiv_e, vIrem_e, vLadd_e, vLsub_e, vLmul_e, vLand_e, vLor_e, vLxor_e, vLdiv_e, vLrem_e, vLushr_e, vLshl_e, vLcmp_e, vIneg_e, vI2l_e, vL2i_e, vI2b_e, vI2c_e, vDup_e, vPop_e, vDup2_e, vGoto_e, vIcEq_e, vIfEq_e, vIcNe_e, vIfNe_e, vIcLt_e, vIfLt_e, vIcGe_e, vIfGe_e, vIcGt_e, vIfGt_e, vIcLe_e, vIfLe_e, vNonnull_e, vSw_e, vGetI_e, vGetL_e, vGetR_e, vPutI_e, vPutZ_e, vPutL_e, vPutR_e, vIald_e, vIald_s, vLald_e, vBald_e, vBald_s, vAald_e, vIast_e, vLast_e, vBast_e, vAast_e, vAlen_e8, vAlen_e9, vAlen_e10, vAlen_e11, vAlen_e5, vAlen_e3, vGets_e, vCompact_e, vLdcS_e, vIret_e, vZret_e, vCret_e, vBret_e, vLret_e, vVret_e, vAret_e, vCallM_e0, vCallMV_e0, vCallS_e0, vCallSV_e0, vCallM_e1, vCallMV_e1, vCallS_e1, vCallSV_e1, vCallM_e2, vCallMV_e2, vCallS_e2, vCallSV_e2, vCallM_e3, vCallMV_e3, vCallS_e3, vCallSV_e3, vCallM_e4, vCallMV_e4, vCallS_e4, vCallSV_e4, vCallM_e5, vCallMV_e5, vCallS_e5, vCallSV_e5, vCallM_e6, vCallMV_e6, vCallS_e6, vCallSV_e6, vCallM_e7, vCallMV_e7, vCallS_e7, vCallSV_e7, vBad_e, vStrVal_e, vStrCod_e, vForm_e, vCallT_e0, vCallT_e1, vCallT_e2, vCopy_e, rf_0_0, rf_0_1, rf_0_2, rf_0_3, rf_0_4, rf_0_7, rf_0_10, rf_0_11, rf_0_12, rf_0_13, rf_0_14, rf_0_15, rf_0_16, rf_1_0, rf_3_0, rf_3_1, rf_6_0, rf_6_1, rf_9_0, rf_9_1, rf_9_3, rf_13_0, rf_13_1, rf_13_2, rf_16_0, rf_16_1, rf_16_2, rf_16_3, rf_21_0, rf_21_1, rf_21_2, rf_21_3, rf_26_0, rf_26_1, rf_26_2, rf_26_3, rf_26_4, rf_26_5, rf_26_6, rf_31_0, rf_31_2, rf_31_5, rf_31_6, rf_36_0, rf_36_1, rf_36_2, rf_36_3, rf_39_0, rf_39_1, rf_39_2, rf_41_0, rf_41_1, rf_41_2, rf_41_3, rf_5000_1, rf_5000_2, rf_5000_3, rf_5000_4, rf_5000_5, rf_5000_15, rf_5000_16, rf_5000_18, rf_5000_19, rf_5000_20, rf_5000_21, rf_5000_22, rf_5000_23, rf_5000_24, rf_5000_25, rf_5000_26, rf_5000_27, rf_5000_36, rf_5000_37, rf_5000_40, rf_5000_41, rf_5000_42, rf_5000_43, rf_5000_44, rf_5000_45, rf_5000_47, rf_5000_52, rf_5000_54, rf_5000_55, rf_100_0, rf_100_1, rf_103_0, rf_103_1, rf_106_0, rf_106_1, rf_109_0, rf_109_1, al_2, al_4, al_5, al_7, al_8, al_10, al_11, al_12, al_14, al_15, al_17, al_18, al_19, al_20, al_22, al_23, al_24, al_25, al_27, al_28, al_29, al_30, al_32, al_33, al_34, al_35, al_37, al_38, al_40, al_42, al_5001, al_5002, al_5003, al_5004, al_5005, al_5006, al_5007, al_5008, al_5009, al_5010, al_5011, al_5012, al_5013, al_5014, al_5015, al_5016, al_5017, al_5018, al_5019, al_5020, al_5021, al_5022, al_5023, al_5024, al_5025, al_5026, al_9000, al_101, al_102, al_104, al_105, al_107, al_108, al_110, al_111, vcs_e, lg_c0, lg_cs, lg_nil, set_c0, set_cs, okst_0, okst_s, acok_n, acok_c, List.contains_nil, List.contains_cons, Bool.or_false, Bool.false_or, Bool.false_eq_true, if_false, if_true, ite_self, ne_eq, true_and, and_true, not_false_eq_true, not_true_eq_false, false_imp_iff, true_imp_iff, Nat.ble_eq, Bool.and_eq_true, reduceCtorEq, or_false, false_or, or_true, true_or, false_and, and_false, and_self, Int.reduceLE, Int.reduceAdd, Int.reduceSub, Int.reduceMul, Int.reduceNeg, Int.reduceLT, Int.reduceEq, Int.reduceNe, Nat.reduceBEq, Nat.reduceBNe, Nat.reduceEqDiff, amCmp_in, amCmp_lt, amCmp_le, amCmp_gt, amCmp_ge, amCmp_eq, amCmp_ne, Nat.reduceLeDiff, Nat.reduceSub, Bool.and_true, Bool.true_and, Bool.and_self, Bool.or_true, Bool.true_or, isRf_3, isRf_4, isRf_5, isRf_8, isRf_9, isRf_10, isRf_11, isRf_15, isRf_16, isRf_17, isRf_18, isRf_19, isRf_20, isRf_21, isRf_22, isRf_23, isRf_24, isRf_25, isRf_26, isRf_27, isRf_28, k_X11_dullest_0, k_X11_dullest_1, k_X11_dullest_2, k_X11_dullest_3, k_X11_dullest_4, k_X11_dullest_5, k_X11_dullest_6, k_X11_dullest_9, k_X11_dullest_10, k_X11_dullest_13, k_X11_dullest_16, k_X11_dullest_17, k_X11_dullest_20, k_X11_dullest_21, k_X11_dullest_24, k_X11_dullest_25, k_X11_dullest_28, k_X11_dullest_29, k_X11_dullest_32, k_X11_dullest_35, k_X11_dullest_36, k_X11_dullest_37, k_X11_dullest_40, k_X11_dullest_43, k_X11_dullest_44, w_X6_dullness_e, w_X6_many_e]
    have hb := fbest_b (fun t => pval σ' 6 3 t 0) k
    by_cases c : (k : Int) < pcnt σ' 6 3
    · have i1 := pval_b hB 3 k 0
      have i2 := pval_b hB 3 (fbest (fun t => pval σ' 6 3 t 0) k) 0
      have nx : ∀ v, v = fbest (fun t => pval σ' 6 3 t 0) (k + 1) → ∃ k', k' < n ∧ inv_dul σ' k' 4 [(27, 0), (0, v), (0, (k : Int) + 1)] [] σ' := fun v hv => ⟨n - 1, by omega, rfl, rfl, rfl, k + 1, by rw [hv]; rfl, by omega, by omega⟩
      have e := fbest_s (fun t => pval σ' 6 3 t 0) k
      by_cases c2 : pval σ' 6 3 k 0 > pval σ' 6 3 (fbest (fun t => pval σ' 6 3 t 0) k) 0
      · rw [if_pos c2] at e
        have i9 := nx _ e.symm
        repeat' (first | assumption | apply And.intro | intro _)
        all_goals first | omega | exact absurd trivial (by assumption) | exact isP6 | exact i9
      · rw [if_neg c2] at e
        have i9 := nx _ e.symm
        repeat' (first | assumption | apply And.intro | intro _)
        all_goals first | omega | exact absurd trivial (by assumption) | exact isP6 | exact i9
    · rw [show (max 1 (pcnt σ' 6 3)).toNat = k by omega] at h
      repeat' (first | assumption | apply And.intro | intro _)
      all_goals first | omega | exact absurd trivial (by assumption) | exact isP6 | exact h
  · change vcs _ _ _ _ 60 0 [(27, 0), (6, 0), (6, 0)] [] σ
    simp only [↓reduceIte, inR_0, inR_1, inR_m, vI_e, vL_e, vNull_e, vIload_e, vLload_e, vAload_e, vIstore_e, vLstore_e, vAstore_e, vIinc_e, vIadd_e, vIsub_e, vImul_e, vIand_e, vIor_e, vIxor_e, vIshl_e, vIshr_e, vIushr_e, vIdiv_e, vIrem_e, vLadd_e, vLsub_e, vLmul_e, vLand_e, vLor_e, vLxor_e, vLdiv_e, vLrem_e, vLushr_e, vLshl_e, vLcmp_e, vIneg_e, vI2l_e, vL2i_e, vI2b_e, vI2c_e, vDup_e, vPop_e, vDup2_e, vGoto_e, vIcEq_e, vIfEq_e, vIcNe_e, vIfNe_e, vIcLt_e, vIfLt_e, vIcGe_e, vIfGe_e, vIcGt_e, vIfGt_e, vIcLe_e, vIfLe_e, vNonnull_e, vSw_e, vGetI_e, vGetL_e, vGetR_e, vPutI_e, vPutZ_e, vPutL_e, vPutR_e, vIald_e, vIald_s, vLald_e, vBald_e, vBald_s, vAald_e, vIast_e, vLast_e, vBast_e, vAast_e, vAlen_e8, vAlen_e9, vAlen_e10, vAlen_e11, vAlen_e5, vAlen_e3, vGets_e, vCompact_e, vLdcS_e, vIret_e, vZret_e, vCret_e, vBret_e, vLret_e, vVret_e, vAret_e, vCallM_e0, vCallMV_e0, vCallS_e0, vCallSV_e0, vCallM_e1, vCallMV_e1, vCallS_e1, vCallSV_e1, vCallM_e2, vCallMV_e2, vCallS_e2, vCallSV_e2, vCallM_e3, vCallMV_e3, vCallS_e3, vCallSV_e3, vCallM_e4, vCallMV_e4, vCallS_e4, vCallSV_e4, vCallM_e5, vCallMV_e5, vCallS_e5, vCallSV_e5, vCallM_e6, vCallMV_e6, vCallS_e6, vCallSV_e6, vCallM_e7, vCallMV_e7, vCallS_e7, vCallSV_e7, vBad_e, vStrVal_e, vStrCod_e, vForm_e, vCallT_e0, vCallT_e1, vCallT_e2, vCopy_e, rf_0_0, rf_0_1, rf_0_2, rf_0_3, rf_0_4, rf_0_7, rf_0_10, rf_0_11, rf_0_12, rf_0_13, rf_0_14, rf_0_15, rf_0_16, rf_1_0, rf_3_0, rf_3_1, rf_6_0, rf_6_1, rf_9_0, rf_9_1, rf_9_3, rf_13_0, rf_13_1, rf_13_2, rf_16_0, rf_16_1, rf_16_2, rf_16_3, rf_21_0, rf_21_1, rf_21_2, rf_21_3, rf_26_0, rf_26_1, rf_26_2, rf_26_3, rf_26_4, rf_26_5, rf_26_6, rf_31_0, rf_31_2, rf_31_5, rf_31_6, rf_36_0, rf_36_1, rf_36_2, rf_36_3, rf_39_0, rf_39_1, rf_39_2, rf_41_0, rf_41_1, rf_41_2, rf_41_3, rf_5000_1, rf_5000_2, rf_5000_3, rf_5000_4, rf_5000_5, rf_5000_15, rf_5000_16, rf_5000_18, rf_5000_19, rf_5000_20, rf_5000_21, rf_5000_22, rf_5000_23, rf_5000_24, rf_5000_25, rf_5000_26, rf_5000_27, rf_5000_36, rf_5000_37, rf_5000_40, rf_5000_41, rf_5000_42, rf_5000_43, rf_5000_44, rf_5000_45, rf_5000_47, rf_5000_52, rf_5000_54, rf_5000_55, rf_100_0, rf_100_1, rf_103_0, rf_103_1, rf_106_0, rf_106_1, rf_109_0, rf_109_1, al_2, al_4, al_5, al_7, al_8, al_10, al_11, al_12, al_14, al_15, al_17, al_18, al_19, al_20, al_22, al_23, al_24, al_25, al_27, al_28, al_29, al_30, al_32, al_33, al_34, al_35, al_37, al_38, al_40, al_42, al_5001, al_5002, al_5003, al_5004, al_5005, al_5006, al_5007, al_5008, al_5009, al_5010, al_5011, al_5012, al_5013, al_5014, al_5015, al_5016, al_5017, al_5018, al_5019, al_5020, al_5021, al_5022, al_5023, al_5024, al_5025, al_5026, al_9000, al_101, al_102, al_104, al_105, al_107, al_108, al_110, al_111, vcs_e, lg_c0, lg_cs, lg_nil, set_c0, set_cs, okst_0, okst_s, acok_n, acok_c, List.contains_nil, List.contains_cons, Bool.or_false, Bool.false_or, Bool.false_eq_true, if_false, if_true, ite_self, ne_eq, true_and, and_true, not_false_eq_true, not_true_eq_false, false_imp_iff, true_imp_iff, Nat.ble_eq, Bool.and_eq_true, reduceCtorEq, or_false, false_or, or_true, true_or, false_and, and_false, and_self, Int.reduceLE, Int.reduceAdd, Int.reduceSub, Int.reduceMul, Int.reduceNeg, Int.reduceLT, Int.reduceEq, Int.reduceNe, Nat.reduceBEq, Nat.reduceBNe, Nat.reduceEqDiff, amCmp_in, amCmp_lt, amCmp_le, amCmp_gt, amCmp_ge, amCmp_eq, amCmp_ne, Nat.reduceLeDiff, Nat.reduceSub, Bool.and_true, Bool.true_and, Bool.and_self, Bool.or_true, Bool.true_or, isRf_3, isRf_4, isRf_5, isRf_8, isRf_9, isRf_10, isRf_11, isRf_15, isRf_16, isRf_17, isRf_18, isRf_19, isRf_20, isRf_21, isRf_22, isRf_23, isRf_24, isRf_25, isRf_26, isRf_27, isRf_28, k_X11_dullest_0, k_X11_dullest_1, k_X11_dullest_2, k_X11_dullest_3, k_X11_dullest_4, k_X11_dullest_5, k_X11_dullest_6, k_X11_dullest_9, k_X11_dullest_10, k_X11_dullest_13, k_X11_dullest_16, k_X11_dullest_17, k_X11_dullest_20, k_X11_dullest_21, k_X11_dullest_24, k_X11_dullest_25, k_X11_dullest_28, k_X11_dullest_29, k_X11_dullest_32, k_X11_dullest_35, k_X11_dullest_36, k_X11_dullest_37, k_X11_dullest_40, k_X11_dullest_43, k_X11_dullest_44]
    exact ⟨(max 1 (pcnt σ 6 3) - 1).toNat, rfl, rfl, rfl, 1, by rw [show fbest (fun t => pval σ 6 3 t 0) 1 = 0 by rw [fbest_s]; exact if_neg (by show ¬ (pval σ 6 3 (0 : Nat) 0 > pval σ 6 3 0 0); simp)]; rfl, by omega, by omega⟩
def a_X11_longest : AC := [(0, vI 0 1), (1, vIstore 1 2), (2, vI 1 3), (3, vIstore 2 4), (4, vIload 2 5), (5, vAload 0 6), (6, vGetR TT 27 2 22 9), (9, vI 1 10), (10, vCallM w_X6_many 22 1 13), (13, vIcGe 43 16), (16, vAload 0 17), (17, vGetR TT 27 2 22 20), (20, vIload 2 21), (21, vCallM w_X6_allFeeling 22 1 24), (24, vAload 0 25), (25, vGetR TT 27 2 22 28), (28, vIload 1 29), (29, vCallM w_X6_allFeeling 22 1 32), (32, vIcLe 37 35), (35, vIload 2 36), (36, vIstore 1 37), (37, vIinc 2 1 40), (40, vGoto 4), (43, vIload 1 44), (44, vIret)]
theorem k_X11_longest_0 : look a_X11_longest 0 = vI 0 1 := rfl
theorem k_X11_longest_1 : look a_X11_longest 1 = vIstore 1 2 := rfl
theorem k_X11_longest_2 : look a_X11_longest 2 = vI 1 3 := rfl
theorem k_X11_longest_3 : look a_X11_longest 3 = vIstore 2 4 := rfl
theorem k_X11_longest_4 : look a_X11_longest 4 = vIload 2 5 := rfl
theorem k_X11_longest_5 : look a_X11_longest 5 = vAload 0 6 := rfl
theorem k_X11_longest_6 : look a_X11_longest 6 = vGetR TT 27 2 22 9 := rfl
theorem k_X11_longest_9 : look a_X11_longest 9 = vI 1 10 := rfl
theorem k_X11_longest_10 : look a_X11_longest 10 = vCallM w_X6_many 22 1 13 := rfl
theorem k_X11_longest_13 : look a_X11_longest 13 = vIcGe 43 16 := rfl
theorem k_X11_longest_16 : look a_X11_longest 16 = vAload 0 17 := rfl
theorem k_X11_longest_17 : look a_X11_longest 17 = vGetR TT 27 2 22 20 := rfl
theorem k_X11_longest_20 : look a_X11_longest 20 = vIload 2 21 := rfl
theorem k_X11_longest_21 : look a_X11_longest 21 = vCallM w_X6_allFeeling 22 1 24 := rfl
theorem k_X11_longest_24 : look a_X11_longest 24 = vAload 0 25 := rfl
theorem k_X11_longest_25 : look a_X11_longest 25 = vGetR TT 27 2 22 28 := rfl
theorem k_X11_longest_28 : look a_X11_longest 28 = vIload 1 29 := rfl
theorem k_X11_longest_29 : look a_X11_longest 29 = vCallM w_X6_allFeeling 22 1 32 := rfl
theorem k_X11_longest_32 : look a_X11_longest 32 = vIcLe 37 35 := rfl
theorem k_X11_longest_35 : look a_X11_longest 35 = vIload 2 36 := rfl
theorem k_X11_longest_36 : look a_X11_longest 36 = vIstore 1 37 := rfl
theorem k_X11_longest_37 : look a_X11_longest 37 = vIinc 2 1 40 := rfl
theorem k_X11_longest_40 : look a_X11_longest 40 = vGoto 4 := rfl
theorem k_X11_longest_43 : look a_X11_longest 43 = vIload 1 44 := rfl
theorem k_X11_longest_44 : look a_X11_longest 44 = vIret := rfl
theorem o_X11_longest {X : amX} (e1 : XT X = TT) (e2 : XD X = 4) (hB : amB X RX11 cX11_longest (some .int) 3) : ∀ pc, amOK X pc (look a_X11_longest pc) := by
  have hT : amTok (XT X) := e1 ▸ TT_ok
  refine look_ok ?_
  unfold a_X11_longest
  refine fc (ok_iconst hB dX11_longest_0) ?_
  refine fc (ok_istore_n hB (by decide) dX11_longest_1) ?_
  refine fc (ok_iconst hB dX11_longest_2) ?_
  refine fc (ok_istore_n hB (by decide) dX11_longest_3) ?_
  refine fc (ok_iload_n hB dX11_longest_4) ?_
  refine fc (ok_aload_n hB dX11_longest_5) ?_
  refine fc (okt_getR e1 hB hT fl_X11_23 rfl af_11_2 at_11_2 (by decide) dX11_longest_6) ?_
  refine fc (ok_iconst hB dX11_longest_9) ?_
  refine fc (ok_callM hB hT (e1 ▸ s_X6_many) lk_X11_154 (by rw [e2]; decide) (c := 6) rfl rfl rfl wd_557 wd_558 dX11_longest_10) ?_
  refine fc (ok_icmp_ge hB (t := 43) (by decide) dX11_longest_13) ?_
  refine fc (ok_aload_n hB dX11_longest_16) ?_
  refine fc (okt_getR e1 hB hT fl_X11_23 rfl af_11_2 at_11_2 (by decide) dX11_longest_17) ?_
  refine fc (ok_iload_n hB dX11_longest_20) ?_
  refine fc (ok_callM hB hT (e1 ▸ s_X6_allFeeling) lk_X11_380 (by rw [e2]; decide) (c := 6) rfl rfl rfl wd_1170 wd_1171 dX11_longest_21) ?_
  refine fc (ok_aload_n hB dX11_longest_24) ?_
  refine fc (okt_getR e1 hB hT fl_X11_23 rfl af_11_2 at_11_2 (by decide) dX11_longest_25) ?_
  refine fc (ok_iload_n hB dX11_longest_28) ?_
  refine fc (ok_callM hB hT (e1 ▸ s_X6_allFeeling) lk_X11_380 (by rw [e2]; decide) (c := 6) rfl rfl rfl wd_1170 wd_1171 dX11_longest_29) ?_
  refine fc (ok_icmp_le hB (t := 37) (by decide) dX11_longest_32) ?_
  refine fc (ok_iload_n hB dX11_longest_35) ?_
  refine fc (ok_istore_n hB (by decide) dX11_longest_36) ?_
  refine fc (ok_iinc hB (by decide) dX11_longest_37) ?_
  refine fc (ok_goto hB (t := 4) (by decide) dX11_longest_40) ?_
  refine fc (ok_iload_n hB dX11_longest_43) ?_
  refine fc (ok_iret hB dX11_longest_44) ?_
  exact fn
def lonF (σ : Mem) (p : Int) : Int := fsum (pfeel σ 6 p) (pmin σ 6 p).toNat
theorem lonF_e (σ : Mem) (p : Int) : fsum (pfeel σ 6 p) (pmin σ 6 p).toNat = lonF σ p := rfl
theorem lonF_b {σ : Mem} (hB : planB σ 6) (p : Int) : 0 ≤ lonF σ p ∧ lonF σ p ≤ 9801 := by
  have := fsum_b (f := pfeel σ 6 p) (fun k => pval_b hB 1 p (k % 3)) (pmin σ 6 p).toNat
  have := pmin_b hB p
  unfold lonF; omega
def inv_lon (σ : Mem) (n pc : Nat) (ls st : List AV) (σ' : Mem) : Prop := pc = 4 ∧ st = [] ∧ σ' = σ ∧ ∃ k : Nat, ls = [(27, 0), (0, fbest (lonF σ) k), (0, (k : Int))] ∧ 1 ≤ k ∧ (k : Int) + n = max 1 (pcnt σ 6 1)
def w_X11_longest : WP := fun av σ Q => av = [(27, 0)] ∧ (planB σ 6 ∧ Q (0, fbest (lonF σ) (max 1 (pcnt σ 6 1)).toNat) σ)
theorem w_X11_longest_e  (σ : Mem) (Q : AV → Mem → Prop) : w_X11_longest [(27, 0)] σ Q = (planB σ 6 ∧ Q (0, fbest (lonF σ) (max 1 (pcnt σ 6 1)).toNat) σ) := by
  apply propext; constructor
  · rintro ⟨h9, hb9⟩; cases h9; exact hb9
  · intro hb9; exact ⟨rfl, hb9⟩

set_option maxRecDepth 100000 in
set_option maxHeartbeats 4000000 in
theorem s_X11_longest : ∀ av σ Q, w_X11_longest av σ Q → amCall 4 0 0 TT yX11_longest cX11_longest 3 (some .int) av σ Q := by
  rintro av σ Q ⟨rfl, hB, h⟩
  have c1 := pcnt_b hB 1
  refine am_m [4] (inv_lon σ) (own := RX11) (A := look a_X11_longest) (fun X e1 e2 hB => o_X11_longest e1 e2 hB) rfl (by decide +kernel) rfl rfl ?_ ⟨60, ?_⟩ (w := 3)
  · rintro n pc ls st σ' ⟨rfl, rfl, rfl, k, rfl, hk1, hk⟩
    refine ⟨60, ?_⟩
    simp only [↓reduceIte, inR_0, inR_1, inR_m, vSw2_e, swP_n, swP_c, vI_e, vL_e, vNull_e, vIload_e, vLload_e, vAload_e, vIstore_e, vLstore_e, vAstore_e, vIinc_e, vIadd_e, vIsub_e, vImul_e, vIand_e, vIor_e, vIxor_e, vIshl_e, vIshr_e, vIushr_e, vIdiv_e, vIrem_e, vLadd_e, vLsub_e, vLmul_e, vLand_e, vLor_e, vLxor_e, vLdiv_e, vLrem_e, vLushr_e, vLshl_e, vLcmp_e, vIneg_e, vI2l_e, vL2i_e, vI2b_e, vI2c_e, vDup_e, vPop_e, vDup2_e, vGoto_e, vIcEq_e, vIfEq_e, vIcNe_e, vIfNe_e, vIcLt_e, vIfLt_e, vIcGe_e, vIfGe_e, vIcGt_e, vIfGt_e, vIcLe_e, vIfLe_e, vNonnull_e, vSw_e, vGetI_e, vGetL_e, vGetR_e, vPutI_e, vPutZ_e, vPutL_e, vPutR_e, vIald_e, vIald_s, vLald_e, vBald_e, vBald_s, vAald_e, vIast_e, vLast_e, vBast_e, vAast_e, vAlen_e8, vAlen_e9, vAlen_e10, vAlen_e11, vAlen_e5, vAlen_e3, vGets_e, vCompact_e, vLdcS_e, vIret_e, vZret_e, vCret_e, vBret_e, vLret_e, vVret_e, vAret_e, vCallM_e0, vCallMV_e0, vCallS_e0, vCallSV_e0, vCallM_e1, vCallMV_e1, vCallS_e1, vCallSV_e1, vCallM_e2, vCallMV_e2, vCallS_e2, vCallSV_e2, vCallM_e3, vCallMV_e3, vCallS_e3, vCallSV_e3, vCallM_e4, vCallMV_e4, vCallS_e4, vCallSV_e4, vCallM_e5, vCallMV_e5, vCallS_e5, vCallSV_e5, vCallM_e6, vCallMV_e6, vCallS_e6, vCallSV_e6, vCallM_e7, vCallMV_e7, vCallS_e7, vCallSV_e7, vBad_e, vStrVal_e, vStrCod_e, vForm_e, vCallT_e0, vCallT_e1, vCallT_e2, vCopy_e, rf_0_0, rf_0_1, rf_0_2, rf_0_3, rf_0_4, rf_0_7, rf_0_10, rf_0_11, rf_0_12, rf_0_13, rf_0_14, rf_0_15, rf_0_16, rf_1_0, rf_3_0, rf_3_1, rf_6_0, rf_6_1, rf_9_0, rf_9_1, rf_9_3, rf_13_0, rf_13_1, rf_13_2, rf_16_0, rf_16_1, rf_16_2, rf_16_3, rf_21_0, rf_21_1, rf_21_2, rf_21_3, rf_26_0, rf_26_1, rf_26_2, rf_26_3, rf_26_4, rf_26_5, rf_26_6, rf_31_0, rf_31_2, rf_31_5, rf_31_6, rf_36_0, rf_36_1, rf_36_2, rf_36_3, rf_39_0, rf_39_1, rf_39_2, rf_41_0, rf_41_1, rf_41_2, rf_41_3, rf_5000_1, rf_5000_2, rf_5000_3, rf_5000_4, rf_5000_5, rf_5000_15, rf_5000_16, rf_5000_18, rf_5000_19, rf_5000_20, rf_5000_21, rf_5000_22, rf_5000_23, rf_5000_24, rf_5000_25, rf_5000_26, rf_5000_27, rf_5000_36, rf_5000_37, rf_5000_40, rf_5000_41, rf_5000_42, rf_5000_43, rf_5000_44, rf_5000_45, rf_5000_47, rf_5000_52, rf_5000_54, rf_5000_55, rf_100_0, rf_100_1, rf_103_0, rf_103_1, rf_106_0, rf_106_1, rf_109_0, rf_109_1, al_2, al_4, al_5, al_7, al_8, al_10, al_11, al_12, al_14, al_15, al_17, al_18, al_19, al_20, al_22, al_23, al_24, al_25, al_27, al_28, al_29, al_30, al_32, al_33, al_34, al_35, al_37, al_38, al_40, al_42, al_5001, al_5002, al_5003, al_5004, al_5005, al_5006, al_5007, al_5008, al_5009, al_5010, al_5011, al_5012, al_5013, al_5014, al_5015, al_5016, al_5017, al_5018, al_5019, al_5020, al_5021, al_5022, al_5023, al_5024, al_5025, al_5026, al_9000, al_101, al_102, al_104, al_105, al_107, al_108, al_110, al_111, vcs_e, lg_c0, lg_cs, lg_nil, set_c0, set_cs, okst_0, okst_s, acok_n, acok_c, List.contains_nil, List.contains_cons, Bool.or_false, Bool.false_or, Bool.false_eq_true, if_false, if_true, ite_self, ne_eq, true_and, and_true, not_false_eq_true, not_true_eq_false, false_imp_iff, true_imp_iff, Nat.ble_eq, Bool.and_eq_true, reduceCtorEq, or_false, false_or, or_true, true_or, false_and, and_false, and_self, Int.reduceLE, Int.reduceAdd, Int.reduceSub, Int.reduceMul, Int.reduceNeg, Int.reduceLT, Int.reduceEq, Int.reduceNe, Nat.reduceBEq, Nat.reduceBNe, Nat.reduceEqDiff, amCmp_in, amCmp_lt, amCmp_le, amCmp_gt, amCmp_ge, amCmp_eq, amCmp_ne, Nat.reduceLeDiff, Nat.reduceSub, Bool.and_true, Bool.true_and, Bool.and_self, Bool.or_true, Bool.true_or, isRf_3, isRf_4, isRf_5, isRf_8, isRf_9, isRf_10, isRf_11, isRf_15, isRf_16, isRf_17, isRf_18, isRf_19, isRf_20, isRf_21, isRf_22, isRf_23, isRf_24, isRf_25, isRf_26, isRf_27, isRf_28, k_X11_longest_0, k_X11_longest_1, k_X11_longest_2, k_X11_longest_3, k_X11_longest_4, k_X11_longest_5, k_X11_longest_6, k_X11_longest_9, k_X11_longest_10, k_X11_longest_13, k_X11_longest_16, k_X11_longest_17, k_X11_longest_20, k_X11_longest_21, k_X11_longest_24, k_X11_longest_25, k_X11_longest_28, k_X11_longest_29, k_X11_longest_32, k_X11_longest_35, k_X11_longest_36, k_X11_longest_37, k_X11_longest_40, k_X11_longest_43, k_X11_longest_44, w_X6_allFeeling_e, w_X6_many_e, lonF_e]
    have hb := fbest_b (lonF σ') k
    by_cases c : (k : Int) < pcnt σ' 6 1
    · have i1 := lonF_b hB k
      have i2 := lonF_b hB (fbest (lonF σ') k)
      have nx : ∀ v, v = fbest (lonF σ') (k + 1) → ∃ k', k' < n ∧ inv_lon σ' k' 4 [(27, 0), (0, v), (0, (k : Int) + 1)] [] σ' := fun v hv => ⟨n - 1, by omega, rfl, rfl, rfl, k + 1, by rw [hv]; rfl, by omega, by omega⟩
      have e := fbest_s (lonF σ') k
      by_cases c2 : lonF σ' k > lonF σ' (fbest (lonF σ') k)
      · rw [if_pos c2] at e
        have i9 := nx _ e.symm
        repeat' (first | assumption | apply And.intro | intro _)
        all_goals first | omega | exact absurd trivial (by assumption) | exact isP6 | exact i9
      · rw [if_neg c2] at e
        have i9 := nx _ e.symm
        repeat' (first | assumption | apply And.intro | intro _)
        all_goals first | omega | exact absurd trivial (by assumption) | exact isP6 | exact i9
    · rw [show (max 1 (pcnt σ' 6 1)).toNat = k by omega] at h
      repeat' (first | assumption | apply And.intro | intro _)
      all_goals first | omega | exact absurd trivial (by assumption) | exact isP6 | exact h
  · change vcs _ _ _ _ 60 0 [(27, 0), (6, 0), (6, 0)] [] σ
    simp only [↓reduceIte, inR_0, inR_1, inR_m, vI_e, vL_e, vNull_e, vIload_e, vLload_e, vAload_e, vIstore_e, vLstore_e, vAstore_e, vIinc_e, vIadd_e, vIsub_e, vImul_e, vIand_e, vIor_e, vIxor_e, vIshl_e, vIshr_e, vIushr_e, vIdiv_e, vIrem_e, vLadd_e, vLsub_e, vLmul_e, vLand_e, vLor_e, vLxor_e, vLdiv_e, vLrem_e, vLushr_e, vLshl_e, vLcmp_e, vIneg_e, vI2l_e, vL2i_e, vI2b_e, vI2c_e, vDup_e, vPop_e, vDup2_e, vGoto_e, vIcEq_e, vIfEq_e, vIcNe_e, vIfNe_e, vIcLt_e, vIfLt_e, vIcGe_e, vIfGe_e, vIcGt_e, vIfGt_e, vIcLe_e, vIfLe_e, vNonnull_e, vSw_e, vGetI_e, vGetL_e, vGetR_e, vPutI_e, vPutZ_e, vPutL_e, vPutR_e, vIald_e, vIald_s, vLald_e, vBald_e, vBald_s, vAald_e, vIast_e, vLast_e, vBast_e, vAast_e, vAlen_e8, vAlen_e9, vAlen_e10, vAlen_e11, vAlen_e5, vAlen_e3, vGets_e, vCompact_e, vLdcS_e, vIret_e, vZret_e, vCret_e, vBret_e, vLret_e, vVret_e, vAret_e, vCallM_e0, vCallMV_e0, vCallS_e0, vCallSV_e0, vCallM_e1, vCallMV_e1, vCallS_e1, vCallSV_e1, vCallM_e2, vCallMV_e2, vCallS_e2, vCallSV_e2, vCallM_e3, vCallMV_e3, vCallS_e3, vCallSV_e3, vCallM_e4, vCallMV_e4, vCallS_e4, vCallSV_e4, vCallM_e5, vCallMV_e5, vCallS_e5, vCallSV_e5, vCallM_e6, vCallMV_e6, vCallS_e6, vCallSV_e6, vCallM_e7, vCallMV_e7, vCallS_e7, vCallSV_e7, vBad_e, vStrVal_e, vStrCod_e, vForm_e, vCallT_e0, vCallT_e1, vCallT_e2, vCopy_e, rf_0_0, rf_0_1, rf_0_2, rf_0_3, rf_0_4, rf_0_7, rf_0_10, rf_0_11, rf_0_12, rf_0_13, rf_0_14, rf_0_15, rf_0_16, rf_1_0, rf_3_0, rf_3_1, rf_6_0, rf_6_1, rf_9_0, rf_9_1, rf_9_3, rf_13_0, rf_13_1, rf_13_2, rf_16_0, rf_16_1, rf_16_2, rf_16_3, rf_21_0, rf_21_1, rf_21_2, rf_21_3, rf_26_0, rf_26_1, rf_26_2, rf_26_3, rf_26_4, rf_26_5, rf_26_6, rf_31_0, rf_31_2, rf_31_5, rf_31_6, rf_36_0, rf_36_1, rf_36_2, rf_36_3, rf_39_0, rf_39_1, rf_39_2, rf_41_0, rf_41_1, rf_41_2, rf_41_3, rf_5000_1, rf_5000_2, rf_5000_3, rf_5000_4, rf_5000_5, rf_5000_15, rf_5000_16, rf_5000_18, rf_5000_19, rf_5000_20, rf_5000_21, rf_5000_22, rf_5000_23, rf_5000_24, rf_5000_25, rf_5000_26, rf_5000_27, rf_5000_36, rf_5000_37, rf_5000_40, rf_5000_41, rf_5000_42, rf_5000_43, rf_5000_44, rf_5000_45, rf_5000_47, rf_5000_52, rf_5000_54, rf_5000_55, rf_100_0, rf_100_1, rf_103_0, rf_103_1, rf_106_0, rf_106_1, rf_109_0, rf_109_1, al_2, al_4, al_5, al_7, al_8, al_10, al_11, al_12, al_14, al_15, al_17, al_18, al_19, al_20, al_22, al_23, al_24, al_25, al_27, al_28, al_29, al_30, al_32, al_33, al_34, al_35, al_37, al_38, al_40, al_42, al_5001, al_5002, al_5003, al_5004, al_5005, al_5006, al_5007, al_5008, al_5009, al_5010, al_5011, al_5012, al_5013, al_5014, al_5015, al_5016, al_5017, al_5018, al_5019, al_5020, al_5021, al_5022, al_5023, al_5024, al_5025, al_5026, al_9000, al_101, al_102, al_104, al_105, al_107, al_108, al_110, al_111, vcs_e, lg_c0, lg_cs, lg_nil, set_c0, set_cs, okst_0, okst_s, acok_n, acok_c, List.contains_nil, List.contains_cons, Bool.or_false, Bool.false_or, Bool.false_eq_true, if_false, if_true, ite_self, ne_eq, true_and, and_true, not_false_eq_true, not_true_eq_false, false_imp_iff, true_imp_iff, Nat.ble_eq, Bool.and_eq_true, reduceCtorEq, or_false, false_or, or_true, true_or, false_and, and_false, and_self, Int.reduceLE, Int.reduceAdd, Int.reduceSub, Int.reduceMul, Int.reduceNeg, Int.reduceLT, Int.reduceEq, Int.reduceNe, Nat.reduceBEq, Nat.reduceBNe, Nat.reduceEqDiff, amCmp_in, amCmp_lt, amCmp_le, amCmp_gt, amCmp_ge, amCmp_eq, amCmp_ne, Nat.reduceLeDiff, Nat.reduceSub, Bool.and_true, Bool.true_and, Bool.and_self, Bool.or_true, Bool.true_or, isRf_3, isRf_4, isRf_5, isRf_8, isRf_9, isRf_10, isRf_11, isRf_15, isRf_16, isRf_17, isRf_18, isRf_19, isRf_20, isRf_21, isRf_22, isRf_23, isRf_24, isRf_25, isRf_26, isRf_27, isRf_28, k_X11_longest_0, k_X11_longest_1, k_X11_longest_2, k_X11_longest_3, k_X11_longest_4, k_X11_longest_5, k_X11_longest_6, k_X11_longest_9, k_X11_longest_10, k_X11_longest_13, k_X11_longest_16, k_X11_longest_17, k_X11_longest_20, k_X11_longest_21, k_X11_longest_24, k_X11_longest_25, k_X11_longest_28, k_X11_longest_29, k_X11_longest_32, k_X11_longest_35, k_X11_longest_36, k_X11_longest_37, k_X11_longest_40, k_X11_longest_43, k_X11_longest_44]
    exact ⟨(max 1 (pcnt σ 6 1) - 1).toNat, rfl, rfl, rfl, 1, by rw [show fbest (lonF σ) 1 = 0 by rw [fbest_s]; exact if_neg (by show ¬ (lonF σ (0 : Nat) > lonF σ 0); simp)]; rfl, by omega, by omega⟩
theorem wd_1144 : Cond.methodLink RX11 360 yJ6_bitCount_0f7a4 ∈ TBL := tb_tab (List.mem_of_getElem? (i := 1144) (by decide +kernel)) rfl
theorem lk_X11_360 : amLk RX11 360 yJ6_bitCount_0f7a4 cJ6_bitCount_0f7a4 1 (some .int) 1 := ⟨wd_1144, wd_26, wd_804, by decide +kernel, by decide +kernel, by decide⟩
def a_X11_sittersSold : AC := [(0, vI 0 1), (1, vIstore 3 2), (2, vI 0 3), (3, vIstore 4 5), (5, vIload 4 7), (7, vAload 0 8), (8, vGetR TT 27 2 22 11), (11, vI 3 12), (12, vCallM w_X6_many 22 1 15), (15, vIcGe 65 18), (18, vAload 0 19), (19, vGetR TT 27 10 16 22), (22, vIload 4 24), (24, vAload 0 25), (25, vGetR TT 27 2 22 28), (28, vI 2 29), (29, vCallM w_X6_many 22 1 32), (32, vCallM w_X0_holders 16 2 35), (35, vCallS w_J6_bitCount_0f7a4 1 38), (38, vIstore 5 40), (40, vIload 5 42), (42, vIload 1 43), (43, vIcLt 59 46), (46, vIload 5 48), (48, vIload 2 49), (49, vIcGt 59 52), (52, vIload 3 53), (53, vI 1 54), (54, vIload 4 56), (56, vIshl 57), (57, vIor 58), (58, vIstore 3 59), (59, vIinc 4 1 62), (62, vGoto 5), (65, vIload 3 66), (66, vIret)]
theorem k_X11_sittersSold_0 : look a_X11_sittersSold 0 = vI 0 1 := rfl
theorem k_X11_sittersSold_1 : look a_X11_sittersSold 1 = vIstore 3 2 := rfl
theorem k_X11_sittersSold_2 : look a_X11_sittersSold 2 = vI 0 3 := rfl
theorem k_X11_sittersSold_3 : look a_X11_sittersSold 3 = vIstore 4 5 := rfl
theorem k_X11_sittersSold_5 : look a_X11_sittersSold 5 = vIload 4 7 := rfl
theorem k_X11_sittersSold_7 : look a_X11_sittersSold 7 = vAload 0 8 := rfl
theorem k_X11_sittersSold_8 : look a_X11_sittersSold 8 = vGetR TT 27 2 22 11 := rfl
theorem k_X11_sittersSold_11 : look a_X11_sittersSold 11 = vI 3 12 := rfl
theorem k_X11_sittersSold_12 : look a_X11_sittersSold 12 = vCallM w_X6_many 22 1 15 := rfl
theorem k_X11_sittersSold_15 : look a_X11_sittersSold 15 = vIcGe 65 18 := rfl
theorem k_X11_sittersSold_18 : look a_X11_sittersSold 18 = vAload 0 19 := rfl
theorem k_X11_sittersSold_19 : look a_X11_sittersSold 19 = vGetR TT 27 10 16 22 := rfl
theorem k_X11_sittersSold_22 : look a_X11_sittersSold 22 = vIload 4 24 := rfl
theorem k_X11_sittersSold_24 : look a_X11_sittersSold 24 = vAload 0 25 := rfl
theorem k_X11_sittersSold_25 : look a_X11_sittersSold 25 = vGetR TT 27 2 22 28 := rfl
theorem k_X11_sittersSold_28 : look a_X11_sittersSold 28 = vI 2 29 := rfl
theorem k_X11_sittersSold_29 : look a_X11_sittersSold 29 = vCallM w_X6_many 22 1 32 := rfl
theorem k_X11_sittersSold_32 : look a_X11_sittersSold 32 = vCallM w_X0_holders 16 2 35 := rfl
theorem k_X11_sittersSold_35 : look a_X11_sittersSold 35 = vCallS w_J6_bitCount_0f7a4 1 38 := rfl
theorem k_X11_sittersSold_38 : look a_X11_sittersSold 38 = vIstore 5 40 := rfl
theorem k_X11_sittersSold_40 : look a_X11_sittersSold 40 = vIload 5 42 := rfl
theorem k_X11_sittersSold_42 : look a_X11_sittersSold 42 = vIload 1 43 := rfl
theorem k_X11_sittersSold_43 : look a_X11_sittersSold 43 = vIcLt 59 46 := rfl
theorem k_X11_sittersSold_46 : look a_X11_sittersSold 46 = vIload 5 48 := rfl
theorem k_X11_sittersSold_48 : look a_X11_sittersSold 48 = vIload 2 49 := rfl
theorem k_X11_sittersSold_49 : look a_X11_sittersSold 49 = vIcGt 59 52 := rfl
theorem k_X11_sittersSold_52 : look a_X11_sittersSold 52 = vIload 3 53 := rfl
theorem k_X11_sittersSold_53 : look a_X11_sittersSold 53 = vI 1 54 := rfl
theorem k_X11_sittersSold_54 : look a_X11_sittersSold 54 = vIload 4 56 := rfl
theorem k_X11_sittersSold_56 : look a_X11_sittersSold 56 = vIshl 57 := rfl
theorem k_X11_sittersSold_57 : look a_X11_sittersSold 57 = vIor 58 := rfl
theorem k_X11_sittersSold_58 : look a_X11_sittersSold 58 = vIstore 3 59 := rfl
theorem k_X11_sittersSold_59 : look a_X11_sittersSold 59 = vIinc 4 1 62 := rfl
theorem k_X11_sittersSold_62 : look a_X11_sittersSold 62 = vGoto 5 := rfl
theorem k_X11_sittersSold_65 : look a_X11_sittersSold 65 = vIload 3 66 := rfl
theorem k_X11_sittersSold_66 : look a_X11_sittersSold 66 = vIret := rfl
theorem o_X11_sittersSold {X : amX} (e1 : XT X = TT) (e2 : XD X = 2) (hB : amB X RX11 cX11_sittersSold (some .int) 6) : ∀ pc, amOK X pc (look a_X11_sittersSold pc) := by
  have hT : amTok (XT X) := e1 ▸ TT_ok
  refine look_ok ?_
  unfold a_X11_sittersSold
  refine fc (ok_iconst hB dX11_sittersSold_0) ?_
  refine fc (ok_istore_n hB (by decide) dX11_sittersSold_1) ?_
  refine fc (ok_iconst hB dX11_sittersSold_2) ?_
  refine fc (ok_istore hB (by decide) dX11_sittersSold_3) ?_
  refine fc (ok_iload hB dX11_sittersSold_5) ?_
  refine fc (ok_aload_n hB dX11_sittersSold_7) ?_
  refine fc (okt_getR e1 hB hT fl_X11_23 rfl af_11_2 at_11_2 (by decide) dX11_sittersSold_8) ?_
  refine fc (ok_iconst hB dX11_sittersSold_11) ?_
  refine fc (ok_callM hB hT (e1 ▸ s_X6_many) lk_X11_154 (by rw [e2]; decide) (c := 6) rfl rfl rfl wd_557 wd_558 dX11_sittersSold_12) ?_
  refine fc (ok_icmp_ge hB (t := 65) (by decide) dX11_sittersSold_15) ?_
  refine fc (ok_aload_n hB dX11_sittersSold_18) ?_
  refine fc (okt_getR e1 hB hT fl_X11_65 rfl af_11_10 at_11_10 (by decide) dX11_sittersSold_19) ?_
  refine fc (ok_iload hB dX11_sittersSold_22) ?_
  refine fc (ok_aload_n hB dX11_sittersSold_24) ?_
  refine fc (okt_getR e1 hB hT fl_X11_23 rfl af_11_2 at_11_2 (by decide) dX11_sittersSold_25) ?_
  refine fc (ok_iconst hB dX11_sittersSold_28) ?_
  refine fc (ok_callM hB hT (e1 ▸ s_X6_many) lk_X11_154 (by rw [e2]; decide) (c := 6) rfl rfl rfl wd_557 wd_558 dX11_sittersSold_29) ?_
  refine fc (ok_callM hB hT (e1 ▸ s_X0_holders) lk_X11_383 (by rw [e2]; decide) (c := 0) rfl rfl rfl wd_786 wd_787 dX11_sittersSold_32) ?_
  refine fc (ok_callS hB (e1 ▸ s_J6_bitCount_0f7a4) lk_X11_360 (by rw [e2]; decide) wd_803 dX11_sittersSold_35) ?_
  refine fc (ok_istore hB (by decide) dX11_sittersSold_38) ?_
  refine fc (ok_iload hB dX11_sittersSold_40) ?_
  refine fc (ok_iload_n hB dX11_sittersSold_42) ?_
  refine fc (ok_icmp_lt hB (t := 59) (by decide) dX11_sittersSold_43) ?_
  refine fc (ok_iload hB dX11_sittersSold_46) ?_
  refine fc (ok_iload_n hB dX11_sittersSold_48) ?_
  refine fc (ok_icmp_gt hB (t := 59) (by decide) dX11_sittersSold_49) ?_
  refine fc (ok_iload_n hB dX11_sittersSold_52) ?_
  refine fc (ok_iconst hB dX11_sittersSold_53) ?_
  refine fc (ok_iload hB dX11_sittersSold_54) ?_
  refine fc (ok_ishl hB dX11_sittersSold_56) ?_
  refine fc (ok_ior hB dX11_sittersSold_57) ?_
  refine fc (ok_istore_n hB (by decide) dX11_sittersSold_58) ?_
  refine fc (ok_iinc hB (by decide) dX11_sittersSold_59) ?_
  refine fc (ok_goto hB (t := 5) (by decide) dX11_sittersSold_62) ?_
  refine fc (ok_iload_n hB dX11_sittersSold_65) ?_
  refine fc (ok_iret hB dX11_sittersSold_66) ?_
  exact fn
abbrev sldB (s : Int → Int) (m f g : Int) : Int → Bool := fun t => decide (f ≤ popc (hbits s t m.toNat) ∧ popc (hbits s t m.toNat) ≤ g)
def inv_sld (σ : Mem) (f g : Int) (n pc : Nat) (ls st : List AV) (σ' : Mem) : Prop := pc = 5 ∧ st = [] ∧ σ' = σ ∧ ∃ (k : Nat) (v5 : AV), ls = [(27, 0), (0, f), (0, g), (0, gb (sldB (σ 18) (pcnt σ 6 2) f g) k), (0, (k : Int)), v5] ∧ (k : Int) + n = pcnt σ 6 3
def w_X11_sittersSold : WP := fun av σ Q => ∃ (f : Int) (g : Int), av = [(27, 0), (0, f), (0, g)] ∧ (planB σ 6 ∧ InR f ∧ InR g ∧ (∀ i, 0 ≤ i → i < 6 → InR (σ 18 i)) ∧ Q (0, gb (sldB (σ 18) (pcnt σ 6 2) f g) (pcnt σ 6 3).toNat) σ)
theorem w_X11_sittersSold_e (f : Int) (g : Int) (σ : Mem) (Q : AV → Mem → Prop) : w_X11_sittersSold [(27, 0), (0, f), (0, g)] σ Q = (planB σ 6 ∧ InR f ∧ InR g ∧ (∀ i, 0 ≤ i → i < 6 → InR (σ 18 i)) ∧ Q (0, gb (sldB (σ 18) (pcnt σ 6 2) f g) (pcnt σ 6 3).toNat) σ) := by
  apply propext; constructor
  · rintro ⟨f', g', h9, hb9⟩; cases h9; exact hb9
  · intro hb9; exact ⟨f, g, rfl, hb9⟩

set_option maxRecDepth 100000 in
set_option maxHeartbeats 4000000 in
theorem s_X11_sittersSold : ∀ av σ Q, w_X11_sittersSold av σ Q → amCall 2 0 0 TT yX11_sittersSold cX11_sittersSold 6 (some .int) av σ Q := by
  rintro av σ Q ⟨f, g, rfl, hB, hf, hg, hse, h⟩
  have c2 := pcnt_b hB 2
  have c3 := pcnt_b hB 3
  have e1 : (16 : Int) + 2 = 18 := rfl
  refine am_m [5] (inv_sld σ f g) (own := RX11) (A := look a_X11_sittersSold) (fun X e1 e2 hB => o_X11_sittersSold e1 e2 hB) rfl (by decide +kernel) rfl rfl ?_ ⟨60, ?_⟩ (w := 6)
  · rintro n pc ls st σ' ⟨rfl, rfl, rfl, k, v5, rfl, hk⟩
    refine ⟨60, ?_⟩
    have hb := hbits_64 (σ' 18) k (n := (pcnt σ' 6 2).toNat) (by omega)
    have pb := popc_b (hbits (σ' 18) k (pcnt σ' 6 2).toNat)
    simp only [↓reduceIte, inR_0, inR_1, inR_m, vSw2_e, swP_n, swP_c, vI_e, vL_e, vNull_e, vIload_e, vLload_e, vAload_e, vIstore_e, vLstore_e, vAstore_e, vIinc_e, vIadd_e, vIsub_e, vImul_e, vIand_e, vIor_e, vIxor_e, vIshl_e, vIshr_e, vIushr_e, vIdiv_e, vIrem_e, vLadd_e, vLsub_e, vLmul_e, vLand_e, vLor_e, vLxor_e, vLdiv_e, vLrem_e, vLushr_e, vLshl_e, vLcmp_e, vIneg_e, vI2l_e, vL2i_e, vI2b_e, vI2c_e, vDup_e, vPop_e, vDup2_e, vGoto_e, vIcEq_e, vIfEq_e, vIcNe_e, vIfNe_e, vIcLt_e, vIfLt_e, vIcGe_e, vIfGe_e, vIcGt_e, vIfGt_e, vIcLe_e, vIfLe_e, vNonnull_e, vSw_e, vGetI_e, vGetL_e, vGetR_e, vPutI_e, vPutZ_e, vPutL_e, vPutR_e, vIald_e, vIald_s, vLald_e, vBald_e, vBald_s, vAald_e, vIast_e, vLast_e, vBast_e, vAast_e, vAlen_e8, vAlen_e9, vAlen_e10, vAlen_e11, vAlen_e5, vAlen_e3, vGets_e, vCompact_e, vLdcS_e, vIret_e, vZret_e, vCret_e, vBret_e, vLret_e, vVret_e, vAret_e, vCallM_e0, vCallMV_e0, vCallS_e0, vCallSV_e0, vCallM_e1, vCallMV_e1, vCallS_e1, vCallSV_e1, vCallM_e2, vCallMV_e2, vCallS_e2, vCallSV_e2, vCallM_e3, vCallMV_e3, vCallS_e3, vCallSV_e3, vCallM_e4, vCallMV_e4, vCallS_e4, vCallSV_e4, vCallM_e5, vCallMV_e5, vCallS_e5, vCallSV_e5, vCallM_e6, vCallMV_e6, vCallS_e6, vCallSV_e6, vCallM_e7, vCallMV_e7, vCallS_e7, vCallSV_e7, vBad_e, vStrVal_e, vStrCod_e, vForm_e, vCallT_e0, vCallT_e1, vCallT_e2, vCopy_e, rf_0_0, rf_0_1, rf_0_2, rf_0_3, rf_0_4, rf_0_7, rf_0_10, rf_0_11, rf_0_12, rf_0_13, rf_0_14, rf_0_15, rf_0_16, rf_1_0, rf_3_0, rf_3_1, rf_6_0, rf_6_1, rf_9_0, rf_9_1, rf_9_3, rf_13_0, rf_13_1, rf_13_2, rf_16_0, rf_16_1, rf_16_2, rf_16_3, rf_21_0, rf_21_1, rf_21_2, rf_21_3, rf_26_0, rf_26_1, rf_26_2, rf_26_3, rf_26_4, rf_26_5, rf_26_6, rf_31_0, rf_31_2, rf_31_5, rf_31_6, rf_36_0, rf_36_1, rf_36_2, rf_36_3, rf_39_0, rf_39_1, rf_39_2, rf_41_0, rf_41_1, rf_41_2, rf_41_3, rf_5000_1, rf_5000_2, rf_5000_3, rf_5000_4, rf_5000_5, rf_5000_15, rf_5000_16, rf_5000_18, rf_5000_19, rf_5000_20, rf_5000_21, rf_5000_22, rf_5000_23, rf_5000_24, rf_5000_25, rf_5000_26, rf_5000_27, rf_5000_36, rf_5000_37, rf_5000_40, rf_5000_41, rf_5000_42, rf_5000_43, rf_5000_44, rf_5000_45, rf_5000_47, rf_5000_52, rf_5000_54, rf_5000_55, rf_100_0, rf_100_1, rf_103_0, rf_103_1, rf_106_0, rf_106_1, rf_109_0, rf_109_1, al_2, al_4, al_5, al_7, al_8, al_10, al_11, al_12, al_14, al_15, al_17, al_18, al_19, al_20, al_22, al_23, al_24, al_25, al_27, al_28, al_29, al_30, al_32, al_33, al_34, al_35, al_37, al_38, al_40, al_42, al_5001, al_5002, al_5003, al_5004, al_5005, al_5006, al_5007, al_5008, al_5009, al_5010, al_5011, al_5012, al_5013, al_5014, al_5015, al_5016, al_5017, al_5018, al_5019, al_5020, al_5021, al_5022, al_5023, al_5024, al_5025, al_5026, al_9000, al_101, al_102, al_104, al_105, al_107, al_108, al_110, al_111, vcs_e, lg_c0, lg_cs, lg_nil, set_c0, set_cs, okst_0, okst_s, acok_n, acok_c, List.contains_nil, List.contains_cons, Bool.or_false, Bool.false_or, Bool.false_eq_true, if_false, if_true, ite_self, ne_eq, true_and, and_true, not_false_eq_true, not_true_eq_false, false_imp_iff, true_imp_iff, Nat.ble_eq, Bool.and_eq_true, reduceCtorEq, or_false, false_or, or_true, true_or, false_and, and_false, and_self, Int.reduceLE, Int.reduceAdd, Int.reduceSub, Int.reduceMul, Int.reduceNeg, Int.reduceLT, Int.reduceEq, Int.reduceNe, Nat.reduceBEq, Nat.reduceBNe, Nat.reduceEqDiff, amCmp_in, amCmp_lt, amCmp_le, amCmp_gt, amCmp_ge, amCmp_eq, amCmp_ne, Nat.reduceLeDiff, Nat.reduceSub, Bool.and_true, Bool.true_and, Bool.and_self, Bool.or_true, Bool.true_or, isRf_3, isRf_4, isRf_5, isRf_8, isRf_9, isRf_10, isRf_11, isRf_15, isRf_16, isRf_17, isRf_18, isRf_19, isRf_20, isRf_21, isRf_22, isRf_23, isRf_24, isRf_25, isRf_26, isRf_27, isRf_28, k_X11_sittersSold_0, k_X11_sittersSold_1, k_X11_sittersSold_2, k_X11_sittersSold_3, k_X11_sittersSold_5, k_X11_sittersSold_7, k_X11_sittersSold_8, k_X11_sittersSold_11, k_X11_sittersSold_12, k_X11_sittersSold_15, k_X11_sittersSold_18, k_X11_sittersSold_19, k_X11_sittersSold_22, k_X11_sittersSold_24, k_X11_sittersSold_25, k_X11_sittersSold_28, k_X11_sittersSold_29, k_X11_sittersSold_32, k_X11_sittersSold_35, k_X11_sittersSold_38, k_X11_sittersSold_40, k_X11_sittersSold_42, k_X11_sittersSold_43, k_X11_sittersSold_46, k_X11_sittersSold_48, k_X11_sittersSold_49, k_X11_sittersSold_52, k_X11_sittersSold_53, k_X11_sittersSold_54, k_X11_sittersSold_56, k_X11_sittersSold_57, k_X11_sittersSold_58, k_X11_sittersSold_59, k_X11_sittersSold_62, k_X11_sittersSold_65, k_X11_sittersSold_66, w_J6_bitCount_0f7a4_e, w_X0_holders_e, w_X6_many_e, e1, bcx_popc hb.1 hb.2]
    by_cases c : (k : Int) < pcnt σ' 6 3
    · have gbd := gb_b (sldB (σ' 18) (pcnt σ' 6 2) f g) k
      rw [bor6' (by omega) gbd.1 gbd.2]
      have nx : ∀ v u, v = gb (sldB (σ' 18) (pcnt σ' 6 2) f g) (k + 1) → ∃ k', k' < n ∧ inv_sld σ' f g k' 5 [(27, 0), (0, f), (0, g), (0, v), (0, (k : Int) + 1), u] [] σ' := fun v u hv => ⟨n - 1, by omega, rfl, rfl, rfl, k + 1, u, by rw [hv]; rfl, by omega⟩
      have e : gb (sldB (σ' 18) (pcnt σ' 6 2) f g) (k + 1) = gb (sldB (σ' 18) (pcnt σ' 6 2) f g) k + if decide (f ≤ popc (hbits (σ' 18) k (pcnt σ' 6 2).toNat) ∧ popc (hbits (σ' 18) k (pcnt σ' 6 2).toNat) ≤ g) = true then 2 ^ k else 0 := rfl
      by_cases c4 : f ≤ popc (hbits (σ' 18) k (pcnt σ' 6 2).toNat) ∧ popc (hbits (σ' 18) k (pcnt σ' 6 2).toNat) ≤ g
      · rw [if_pos (by simpa using c4)] at e
        have i9 := fun u => nx _ u e.symm
        repeat' (first | assumption | apply And.intro | intro _)
        all_goals first | omega | exact absurd trivial (by assumption) | exact isP6 | exact isA16 | exact i9 _
      · rw [if_neg (by simpa using c4), Int.add_zero] at e
        have i9 := fun u => nx _ u e.symm
        repeat' (first | assumption | apply And.intro | intro _)
        all_goals first | omega | exact absurd trivial (by assumption) | exact isP6 | exact isA16 | exact i9 _
    · rw [show (pcnt σ' 6 3).toNat = k by omega] at h
      repeat' (first | assumption | apply And.intro | intro _)
      all_goals first | omega | exact absurd trivial (by assumption) | exact isP6 | exact h
  · change vcs _ _ _ _ 60 0 [(27, 0), (0, f), (0, g), (6, 0), (6, 0), (6, 0)] [] σ
    simp only [↓reduceIte, inR_0, inR_1, inR_m, vI_e, vL_e, vNull_e, vIload_e, vLload_e, vAload_e, vIstore_e, vLstore_e, vAstore_e, vIinc_e, vIadd_e, vIsub_e, vImul_e, vIand_e, vIor_e, vIxor_e, vIshl_e, vIshr_e, vIushr_e, vIdiv_e, vIrem_e, vLadd_e, vLsub_e, vLmul_e, vLand_e, vLor_e, vLxor_e, vLdiv_e, vLrem_e, vLushr_e, vLshl_e, vLcmp_e, vIneg_e, vI2l_e, vL2i_e, vI2b_e, vI2c_e, vDup_e, vPop_e, vDup2_e, vGoto_e, vIcEq_e, vIfEq_e, vIcNe_e, vIfNe_e, vIcLt_e, vIfLt_e, vIcGe_e, vIfGe_e, vIcGt_e, vIfGt_e, vIcLe_e, vIfLe_e, vNonnull_e, vSw_e, vGetI_e, vGetL_e, vGetR_e, vPutI_e, vPutZ_e, vPutL_e, vPutR_e, vIald_e, vIald_s, vLald_e, vBald_e, vBald_s, vAald_e, vIast_e, vLast_e, vBast_e, vAast_e, vAlen_e8, vAlen_e9, vAlen_e10, vAlen_e11, vAlen_e5, vAlen_e3, vGets_e, vCompact_e, vLdcS_e, vIret_e, vZret_e, vCret_e, vBret_e, vLret_e, vVret_e, vAret_e, vCallM_e0, vCallMV_e0, vCallS_e0, vCallSV_e0, vCallM_e1, vCallMV_e1, vCallS_e1, vCallSV_e1, vCallM_e2, vCallMV_e2, vCallS_e2, vCallSV_e2, vCallM_e3, vCallMV_e3, vCallS_e3, vCallSV_e3, vCallM_e4, vCallMV_e4, vCallS_e4, vCallSV_e4, vCallM_e5, vCallMV_e5, vCallS_e5, vCallSV_e5, vCallM_e6, vCallMV_e6, vCallS_e6, vCallSV_e6, vCallM_e7, vCallMV_e7, vCallS_e7, vCallSV_e7, vBad_e, vStrVal_e, vStrCod_e, vForm_e, vCallT_e0, vCallT_e1, vCallT_e2, vCopy_e, rf_0_0, rf_0_1, rf_0_2, rf_0_3, rf_0_4, rf_0_7, rf_0_10, rf_0_11, rf_0_12, rf_0_13, rf_0_14, rf_0_15, rf_0_16, rf_1_0, rf_3_0, rf_3_1, rf_6_0, rf_6_1, rf_9_0, rf_9_1, rf_9_3, rf_13_0, rf_13_1, rf_13_2, rf_16_0, rf_16_1, rf_16_2, rf_16_3, rf_21_0, rf_21_1, rf_21_2, rf_21_3, rf_26_0, rf_26_1, rf_26_2, rf_26_3, rf_26_4, rf_26_5, rf_26_6, rf_31_0, rf_31_2, rf_31_5, rf_31_6, rf_36_0, rf_36_1, rf_36_2, rf_36_3, rf_39_0, rf_39_1, rf_39_2, rf_41_0, rf_41_1, rf_41_2, rf_41_3, rf_5000_1, rf_5000_2, rf_5000_3, rf_5000_4, rf_5000_5, rf_5000_15, rf_5000_16, rf_5000_18, rf_5000_19, rf_5000_20, rf_5000_21, rf_5000_22, rf_5000_23, rf_5000_24, rf_5000_25, rf_5000_26, rf_5000_27, rf_5000_36, rf_5000_37, rf_5000_40, rf_5000_41, rf_5000_42, rf_5000_43, rf_5000_44, rf_5000_45, rf_5000_47, rf_5000_52, rf_5000_54, rf_5000_55, rf_100_0, rf_100_1, rf_103_0, rf_103_1, rf_106_0, rf_106_1, rf_109_0, rf_109_1, al_2, al_4, al_5, al_7, al_8, al_10, al_11, al_12, al_14, al_15, al_17, al_18, al_19, al_20, al_22, al_23, al_24, al_25, al_27, al_28, al_29, al_30, al_32, al_33, al_34, al_35, al_37, al_38, al_40, al_42, al_5001, al_5002, al_5003, al_5004, al_5005, al_5006, al_5007, al_5008, al_5009, al_5010, al_5011, al_5012, al_5013, al_5014, al_5015, al_5016, al_5017, al_5018, al_5019, al_5020, al_5021, al_5022, al_5023, al_5024, al_5025, al_5026, al_9000, al_101, al_102, al_104, al_105, al_107, al_108, al_110, al_111, vcs_e, lg_c0, lg_cs, lg_nil, set_c0, set_cs, okst_0, okst_s, acok_n, acok_c, List.contains_nil, List.contains_cons, Bool.or_false, Bool.false_or, Bool.false_eq_true, if_false, if_true, ite_self, ne_eq, true_and, and_true, not_false_eq_true, not_true_eq_false, false_imp_iff, true_imp_iff, Nat.ble_eq, Bool.and_eq_true, reduceCtorEq, or_false, false_or, or_true, true_or, false_and, and_false, and_self, Int.reduceLE, Int.reduceAdd, Int.reduceSub, Int.reduceMul, Int.reduceNeg, Int.reduceLT, Int.reduceEq, Int.reduceNe, Nat.reduceBEq, Nat.reduceBNe, Nat.reduceEqDiff, amCmp_in, amCmp_lt, amCmp_le, amCmp_gt, amCmp_ge, amCmp_eq, amCmp_ne, Nat.reduceLeDiff, Nat.reduceSub, Bool.and_true, Bool.true_and, Bool.and_self, Bool.or_true, Bool.true_or, isRf_3, isRf_4, isRf_5, isRf_8, isRf_9, isRf_10, isRf_11, isRf_15, isRf_16, isRf_17, isRf_18, isRf_19, isRf_20, isRf_21, isRf_22, isRf_23, isRf_24, isRf_25, isRf_26, isRf_27, isRf_28, k_X11_sittersSold_0, k_X11_sittersSold_1, k_X11_sittersSold_2, k_X11_sittersSold_3, k_X11_sittersSold_5, k_X11_sittersSold_7, k_X11_sittersSold_8, k_X11_sittersSold_11, k_X11_sittersSold_12, k_X11_sittersSold_15, k_X11_sittersSold_18, k_X11_sittersSold_19, k_X11_sittersSold_22, k_X11_sittersSold_24, k_X11_sittersSold_25, k_X11_sittersSold_28, k_X11_sittersSold_29, k_X11_sittersSold_32, k_X11_sittersSold_35, k_X11_sittersSold_38, k_X11_sittersSold_40, k_X11_sittersSold_42, k_X11_sittersSold_43, k_X11_sittersSold_46, k_X11_sittersSold_48, k_X11_sittersSold_49, k_X11_sittersSold_52, k_X11_sittersSold_53, k_X11_sittersSold_54, k_X11_sittersSold_56, k_X11_sittersSold_57, k_X11_sittersSold_58, k_X11_sittersSold_59, k_X11_sittersSold_62, k_X11_sittersSold_65, k_X11_sittersSold_66]
    exact ⟨(pcnt σ 6 3).toNat, rfl, rfl, rfl, 0, _, rfl, by omega⟩
def a_X11_chairsWithMoney : AC := [(0, vI 0 1), (1, vIstore 1 2), (2, vI 0 3), (3, vIstore 2 4), (4, vIload 2 5), (5, vAload 0 6), (6, vGetR TT 27 2 22 9), (9, vI 2 10), (10, vCallM w_X6_many 22 1 13), (13, vIcGe 53 16), (16, vIload 2 17), (17, vI 6 19), (19, vIcGe 53 22), (22, vAload 0 23), (23, vGetR TT 27 10 16 26), (26, vGetR TT 16 2 8 29), (29, vIload 2 30), (30, vIald TT 31), (31, vAload 0 32), (32, vGetR TT 27 10 16 35), (35, vGetI 16 5 38), (38, vIcLt 47 41), (41, vIload 1 42), (42, vI 1 43), (43, vIload 2 44), (44, vIshl 45), (45, vIor 46), (46, vIstore 1 47), (47, vIinc 2 1 50), (50, vGoto 4), (53, vIload 1 54), (54, vIret)]
theorem k_X11_chairsWithMoney_0 : look a_X11_chairsWithMoney 0 = vI 0 1 := rfl
theorem k_X11_chairsWithMoney_1 : look a_X11_chairsWithMoney 1 = vIstore 1 2 := rfl
theorem k_X11_chairsWithMoney_2 : look a_X11_chairsWithMoney 2 = vI 0 3 := rfl
theorem k_X11_chairsWithMoney_3 : look a_X11_chairsWithMoney 3 = vIstore 2 4 := rfl
theorem k_X11_chairsWithMoney_4 : look a_X11_chairsWithMoney 4 = vIload 2 5 := rfl
theorem k_X11_chairsWithMoney_5 : look a_X11_chairsWithMoney 5 = vAload 0 6 := rfl
theorem k_X11_chairsWithMoney_6 : look a_X11_chairsWithMoney 6 = vGetR TT 27 2 22 9 := rfl
theorem k_X11_chairsWithMoney_9 : look a_X11_chairsWithMoney 9 = vI 2 10 := rfl
theorem k_X11_chairsWithMoney_10 : look a_X11_chairsWithMoney 10 = vCallM w_X6_many 22 1 13 := rfl
theorem k_X11_chairsWithMoney_13 : look a_X11_chairsWithMoney 13 = vIcGe 53 16 := rfl
theorem k_X11_chairsWithMoney_16 : look a_X11_chairsWithMoney 16 = vIload 2 17 := rfl
theorem k_X11_chairsWithMoney_17 : look a_X11_chairsWithMoney 17 = vI 6 19 := rfl
theorem k_X11_chairsWithMoney_19 : look a_X11_chairsWithMoney 19 = vIcGe 53 22 := rfl
theorem k_X11_chairsWithMoney_22 : look a_X11_chairsWithMoney 22 = vAload 0 23 := rfl
theorem k_X11_chairsWithMoney_23 : look a_X11_chairsWithMoney 23 = vGetR TT 27 10 16 26 := rfl
theorem k_X11_chairsWithMoney_26 : look a_X11_chairsWithMoney 26 = vGetR TT 16 2 8 29 := rfl
theorem k_X11_chairsWithMoney_29 : look a_X11_chairsWithMoney 29 = vIload 2 30 := rfl
theorem k_X11_chairsWithMoney_30 : look a_X11_chairsWithMoney 30 = vIald TT 31 := rfl
theorem k_X11_chairsWithMoney_31 : look a_X11_chairsWithMoney 31 = vAload 0 32 := rfl
theorem k_X11_chairsWithMoney_32 : look a_X11_chairsWithMoney 32 = vGetR TT 27 10 16 35 := rfl
theorem k_X11_chairsWithMoney_35 : look a_X11_chairsWithMoney 35 = vGetI 16 5 38 := rfl
theorem k_X11_chairsWithMoney_38 : look a_X11_chairsWithMoney 38 = vIcLt 47 41 := rfl
theorem k_X11_chairsWithMoney_41 : look a_X11_chairsWithMoney 41 = vIload 1 42 := rfl
theorem k_X11_chairsWithMoney_42 : look a_X11_chairsWithMoney 42 = vI 1 43 := rfl
theorem k_X11_chairsWithMoney_43 : look a_X11_chairsWithMoney 43 = vIload 2 44 := rfl
theorem k_X11_chairsWithMoney_44 : look a_X11_chairsWithMoney 44 = vIshl 45 := rfl
theorem k_X11_chairsWithMoney_45 : look a_X11_chairsWithMoney 45 = vIor 46 := rfl
theorem k_X11_chairsWithMoney_46 : look a_X11_chairsWithMoney 46 = vIstore 1 47 := rfl
theorem k_X11_chairsWithMoney_47 : look a_X11_chairsWithMoney 47 = vIinc 2 1 50 := rfl
theorem k_X11_chairsWithMoney_50 : look a_X11_chairsWithMoney 50 = vGoto 4 := rfl
theorem k_X11_chairsWithMoney_53 : look a_X11_chairsWithMoney 53 = vIload 1 54 := rfl
theorem k_X11_chairsWithMoney_54 : look a_X11_chairsWithMoney 54 = vIret := rfl
theorem o_X11_chairsWithMoney {X : amX} (e1 : XT X = TT) (e2 : XD X = 2) (hB : amB X RX11 cX11_chairsWithMoney (some .int) 3) : ∀ pc, amOK X pc (look a_X11_chairsWithMoney pc) := by
  have hT : amTok (XT X) := e1 ▸ TT_ok
  refine look_ok ?_
  unfold a_X11_chairsWithMoney
  refine fc (ok_iconst hB dX11_chairsWithMoney_0) ?_
  refine fc (ok_istore_n hB (by decide) dX11_chairsWithMoney_1) ?_
  refine fc (ok_iconst hB dX11_chairsWithMoney_2) ?_
  refine fc (ok_istore_n hB (by decide) dX11_chairsWithMoney_3) ?_
  refine fc (ok_iload_n hB dX11_chairsWithMoney_4) ?_
  refine fc (ok_aload_n hB dX11_chairsWithMoney_5) ?_
  refine fc (okt_getR e1 hB hT fl_X11_23 rfl af_11_2 at_11_2 (by decide) dX11_chairsWithMoney_6) ?_
  refine fc (ok_iconst hB dX11_chairsWithMoney_9) ?_
  refine fc (ok_callM hB hT (e1 ▸ s_X6_many) lk_X11_154 (by rw [e2]; decide) (c := 6) rfl rfl rfl wd_557 wd_558 dX11_chairsWithMoney_10) ?_
  refine fc (ok_icmp_ge hB (t := 53) (by decide) dX11_chairsWithMoney_13) ?_
  refine fc (ok_iload_n hB dX11_chairsWithMoney_16) ?_
  refine fc (ok_bipush hB dX11_chairsWithMoney_17 (by decide)) ?_
  refine fc (ok_icmp_ge hB (t := 53) (by decide) dX11_chairsWithMoney_19) ?_
  refine fc (ok_aload_n hB dX11_chairsWithMoney_22) ?_
  refine fc (okt_getR e1 hB hT fl_X11_65 rfl af_11_10 at_11_10 (by decide) dX11_chairsWithMoney_23) ?_
  refine fc (okt_getR e1 hB hT fl_X11_196 rfl af_0_2 at_0_2 (by decide) dX11_chairsWithMoney_26) ?_
  refine fc (ok_iload_n hB dX11_chairsWithMoney_29) ?_
  refine fc (okt_iaload e1 hB dX11_chairsWithMoney_30) ?_
  refine fc (ok_aload_n hB dX11_chairsWithMoney_31) ?_
  refine fc (okt_getR e1 hB hT fl_X11_65 rfl af_11_10 at_11_10 (by decide) dX11_chairsWithMoney_32) ?_
  refine fc (ok_getI hB hT fl_X11_171 rfl rfl (Or.inl af_0_5) dX11_chairsWithMoney_35) ?_
  refine fc (ok_icmp_lt hB (t := 47) (by decide) dX11_chairsWithMoney_38) ?_
  refine fc (ok_iload_n hB dX11_chairsWithMoney_41) ?_
  refine fc (ok_iconst hB dX11_chairsWithMoney_42) ?_
  refine fc (ok_iload_n hB dX11_chairsWithMoney_43) ?_
  refine fc (ok_ishl hB dX11_chairsWithMoney_44) ?_
  refine fc (ok_ior hB dX11_chairsWithMoney_45) ?_
  refine fc (ok_istore_n hB (by decide) dX11_chairsWithMoney_46) ?_
  refine fc (ok_iinc hB (by decide) dX11_chairsWithMoney_47) ?_
  refine fc (ok_goto hB (t := 4) (by decide) dX11_chairsWithMoney_50) ?_
  refine fc (ok_iload_n hB dX11_chairsWithMoney_53) ?_
  refine fc (ok_iret hB dX11_chairsWithMoney_54) ?_
  exact fn
abbrev monB (s : Int → Int) (p : Int) : Int → Bool := fun c => decide (p ≤ s c)
def inv_mon (σ : Mem) (n pc : Nat) (ls st : List AV) (σ' : Mem) : Prop := pc = 4 ∧ st = [] ∧ σ' = σ ∧ ∃ k : Nat, ls = [(27, 0), (0, gb (monB (σ 19) (σ 16 5)) k), (0, (k : Int))] ∧ (k : Int) + n = pcnt σ 6 2
def w_X11_chairsWithMoney : WP := fun av σ Q => av = [(27, 0)] ∧ (planB σ 6 ∧ InR (σ 16 5) ∧ (∀ i, 0 ≤ i → i < 6 → InR (σ 19 i)) ∧ Q (0, gb (monB (σ 19) (σ 16 5)) (pcnt σ 6 2).toNat) σ)
theorem w_X11_chairsWithMoney_e  (σ : Mem) (Q : AV → Mem → Prop) : w_X11_chairsWithMoney [(27, 0)] σ Q = (planB σ 6 ∧ InR (σ 16 5) ∧ (∀ i, 0 ≤ i → i < 6 → InR (σ 19 i)) ∧ Q (0, gb (monB (σ 19) (σ 16 5)) (pcnt σ 6 2).toNat) σ) := by
  apply propext; constructor
  · rintro ⟨h9, hb9⟩; cases h9; exact hb9
  · intro hb9; exact ⟨rfl, hb9⟩

set_option maxRecDepth 100000 in
set_option maxHeartbeats 4000000 in
theorem s_X11_chairsWithMoney : ∀ av σ Q, w_X11_chairsWithMoney av σ Q → amCall 2 0 0 TT yX11_chairsWithMoney cX11_chairsWithMoney 3 (some .int) av σ Q := by
  rintro av σ Q ⟨rfl, hB, hp, hse, h⟩
  have c2 := pcnt_b hB 2
  refine am_m [4] (inv_mon σ) (own := RX11) (A := look a_X11_chairsWithMoney) (fun X e1 e2 hB => o_X11_chairsWithMoney e1 e2 hB) rfl (by decide +kernel) rfl rfl ?_ ⟨60, ?_⟩ (w := 3)
  · rintro n pc ls st σ' ⟨rfl, rfl, rfl, k, rfl, hk⟩
    refine ⟨60, ?_⟩
    simp only [↓reduceIte, inR_0, inR_1, inR_m, vSw2_e, swP_n, swP_c, vI_e, vL_e, vNull_e, vIload_e, vLload_e, vAload_e, vIstore_e, vLstore_e, vAstore_e, vIinc_e, vIadd_e, vIsub_e, vImul_e, vIand_e, vIor_e, vIxor_e, vIshl_e, vIshr_e, vIushr_e, vIdiv_e, vIrem_e, vLadd_e, vLsub_e, vLmul_e, vLand_e, vLor_e, vLxor_e, vLdiv_e, vLrem_e, vLushr_e, vLshl_e, vLcmp_e, vIneg_e, vI2l_e, vL2i_e, vI2b_e, vI2c_e, vDup_e, vPop_e, vDup2_e, vGoto_e, vIcEq_e, vIfEq_e, vIcNe_e, vIfNe_e, vIcLt_e, vIfLt_e, vIcGe_e, vIfGe_e, vIcGt_e, vIfGt_e, vIcLe_e, vIfLe_e, vNonnull_e, vSw_e, vGetI_e, vGetL_e, vGetR_e, vPutI_e, vPutZ_e, vPutL_e, vPutR_e, vIald_e, vIald_s, vLald_e, vBald_e, vBald_s, vAald_e, vIast_e, vLast_e, vBast_e, vAast_e, vAlen_e8, vAlen_e9, vAlen_e10, vAlen_e11, vAlen_e5, vAlen_e3, vGets_e, vCompact_e, vLdcS_e, vIret_e, vZret_e, vCret_e, vBret_e, vLret_e, vVret_e, vAret_e, vCallM_e0, vCallMV_e0, vCallS_e0, vCallSV_e0, vCallM_e1, vCallMV_e1, vCallS_e1, vCallSV_e1, vCallM_e2, vCallMV_e2, vCallS_e2, vCallSV_e2, vCallM_e3, vCallMV_e3, vCallS_e3, vCallSV_e3, vCallM_e4, vCallMV_e4, vCallS_e4, vCallSV_e4, vCallM_e5, vCallMV_e5, vCallS_e5, vCallSV_e5, vCallM_e6, vCallMV_e6, vCallS_e6, vCallSV_e6, vCallM_e7, vCallMV_e7, vCallS_e7, vCallSV_e7, vBad_e, vStrVal_e, vStrCod_e, vForm_e, vCallT_e0, vCallT_e1, vCallT_e2, vCopy_e, rf_0_0, rf_0_1, rf_0_2, rf_0_3, rf_0_4, rf_0_7, rf_0_10, rf_0_11, rf_0_12, rf_0_13, rf_0_14, rf_0_15, rf_0_16, rf_1_0, rf_3_0, rf_3_1, rf_6_0, rf_6_1, rf_9_0, rf_9_1, rf_9_3, rf_13_0, rf_13_1, rf_13_2, rf_16_0, rf_16_1, rf_16_2, rf_16_3, rf_21_0, rf_21_1, rf_21_2, rf_21_3, rf_26_0, rf_26_1, rf_26_2, rf_26_3, rf_26_4, rf_26_5, rf_26_6, rf_31_0, rf_31_2, rf_31_5, rf_31_6, rf_36_0, rf_36_1, rf_36_2, rf_36_3, rf_39_0, rf_39_1, rf_39_2, rf_41_0, rf_41_1, rf_41_2, rf_41_3, rf_5000_1, rf_5000_2, rf_5000_3, rf_5000_4, rf_5000_5, rf_5000_15, rf_5000_16, rf_5000_18, rf_5000_19, rf_5000_20, rf_5000_21, rf_5000_22, rf_5000_23, rf_5000_24, rf_5000_25, rf_5000_26, rf_5000_27, rf_5000_36, rf_5000_37, rf_5000_40, rf_5000_41, rf_5000_42, rf_5000_43, rf_5000_44, rf_5000_45, rf_5000_47, rf_5000_52, rf_5000_54, rf_5000_55, rf_100_0, rf_100_1, rf_103_0, rf_103_1, rf_106_0, rf_106_1, rf_109_0, rf_109_1, al_2, al_4, al_5, al_7, al_8, al_10, al_11, al_12, al_14, al_15, al_17, al_18, al_19, al_20, al_22, al_23, al_24, al_25, al_27, al_28, al_29, al_30, al_32, al_33, al_34, al_35, al_37, al_38, al_40, al_42, al_5001, al_5002, al_5003, al_5004, al_5005, al_5006, al_5007, al_5008, al_5009, al_5010, al_5011, al_5012, al_5013, al_5014, al_5015, al_5016, al_5017, al_5018, al_5019, al_5020, al_5021, al_5022, al_5023, al_5024, al_5025, al_5026, al_9000, al_101, al_102, al_104, al_105, al_107, al_108, al_110, al_111, vcs_e, lg_c0, lg_cs, lg_nil, set_c0, set_cs, okst_0, okst_s, acok_n, acok_c, List.contains_nil, List.contains_cons, Bool.or_false, Bool.false_or, Bool.false_eq_true, if_false, if_true, ite_self, ne_eq, true_and, and_true, not_false_eq_true, not_true_eq_false, false_imp_iff, true_imp_iff, Nat.ble_eq, Bool.and_eq_true, reduceCtorEq, or_false, false_or, or_true, true_or, false_and, and_false, and_self, Int.reduceLE, Int.reduceAdd, Int.reduceSub, Int.reduceMul, Int.reduceNeg, Int.reduceLT, Int.reduceEq, Int.reduceNe, Nat.reduceBEq, Nat.reduceBNe, Nat.reduceEqDiff, amCmp_in, amCmp_lt, amCmp_le, amCmp_gt, amCmp_ge, amCmp_eq, amCmp_ne, Nat.reduceLeDiff, Nat.reduceSub, Bool.and_true, Bool.true_and, Bool.and_self, Bool.or_true, Bool.true_or, isRf_3, isRf_4, isRf_5, isRf_8, isRf_9, isRf_10, isRf_11, isRf_15, isRf_16, isRf_17, isRf_18, isRf_19, isRf_20, isRf_21, isRf_22, isRf_23, isRf_24, isRf_25, isRf_26, isRf_27, isRf_28, k_X11_chairsWithMoney_0, k_X11_chairsWithMoney_1, k_X11_chairsWithMoney_2, k_X11_chairsWithMoney_3, k_X11_chairsWithMoney_4, k_X11_chairsWithMoney_5, k_X11_chairsWithMoney_6, k_X11_chairsWithMoney_9, k_X11_chairsWithMoney_10, k_X11_chairsWithMoney_13, k_X11_chairsWithMoney_16, k_X11_chairsWithMoney_17, k_X11_chairsWithMoney_19, k_X11_chairsWithMoney_22, k_X11_chairsWithMoney_23, k_X11_chairsWithMoney_26, k_X11_chairsWithMoney_29, k_X11_chairsWithMoney_30, k_X11_chairsWithMoney_31, k_X11_chairsWithMoney_32, k_X11_chairsWithMoney_35, k_X11_chairsWithMoney_38, k_X11_chairsWithMoney_41, k_X11_chairsWithMoney_42, k_X11_chairsWithMoney_43, k_X11_chairsWithMoney_44, k_X11_chairsWithMoney_45, k_X11_chairsWithMoney_46, k_X11_chairsWithMoney_47, k_X11_chairsWithMoney_50, k_X11_chairsWithMoney_53, k_X11_chairsWithMoney_54, w_X6_many_e]
    by_cases c : (k : Int) < pcnt σ' 6 2
    · have i1 := hse k (by omega) (by omega)
      have gbd := gb_b (monB (σ' 19) (σ' 16 5)) k
      rw [bor6' (by omega) gbd.1 gbd.2]
      have nx : ∀ v, v = gb (monB (σ' 19) (σ' 16 5)) (k + 1) → ∃ k', k' < n ∧ inv_mon σ' k' 4 [(27, 0), (0, v), (0, (k : Int) + 1)] [] σ' := fun v hv => ⟨n - 1, by omega, rfl, rfl, rfl, k + 1, by rw [hv]; rfl, by omega⟩
      have e : gb (monB (σ' 19) (σ' 16 5)) (k + 1) = gb (monB (σ' 19) (σ' 16 5)) k + if decide (σ' 16 5 ≤ σ' 19 k) = true then 2 ^ k else 0 := rfl
      by_cases c4 : σ' 16 5 ≤ σ' 19 k
      · rw [if_pos (by simpa using c4)] at e
        have i9 := nx _ e.symm
        repeat' (first | assumption | apply And.intro | intro _)
        all_goals first | omega | exact absurd trivial (by assumption) | exact isP6 | exact i9
      · rw [if_neg (by simpa using c4), Int.add_zero] at e
        have i9 := nx _ e.symm
        repeat' (first | assumption | apply And.intro | intro _)
        all_goals first | omega | exact absurd trivial (by assumption) | exact isP6 | exact i9
    · rw [show (pcnt σ' 6 2).toNat = k by omega] at h
      repeat' (first | assumption | apply And.intro | intro _)
      all_goals first | omega | exact absurd trivial (by assumption) | exact isP6 | exact h
  · change vcs _ _ _ _ 60 0 [(27, 0), (6, 0), (6, 0)] [] σ
    simp only [↓reduceIte, inR_0, inR_1, inR_m, vI_e, vL_e, vNull_e, vIload_e, vLload_e, vAload_e, vIstore_e, vLstore_e, vAstore_e, vIinc_e, vIadd_e, vIsub_e, vImul_e, vIand_e, vIor_e, vIxor_e, vIshl_e, vIshr_e, vIushr_e, vIdiv_e, vIrem_e, vLadd_e, vLsub_e, vLmul_e, vLand_e, vLor_e, vLxor_e, vLdiv_e, vLrem_e, vLushr_e, vLshl_e, vLcmp_e, vIneg_e, vI2l_e, vL2i_e, vI2b_e, vI2c_e, vDup_e, vPop_e, vDup2_e, vGoto_e, vIcEq_e, vIfEq_e, vIcNe_e, vIfNe_e, vIcLt_e, vIfLt_e, vIcGe_e, vIfGe_e, vIcGt_e, vIfGt_e, vIcLe_e, vIfLe_e, vNonnull_e, vSw_e, vGetI_e, vGetL_e, vGetR_e, vPutI_e, vPutZ_e, vPutL_e, vPutR_e, vIald_e, vIald_s, vLald_e, vBald_e, vBald_s, vAald_e, vIast_e, vLast_e, vBast_e, vAast_e, vAlen_e8, vAlen_e9, vAlen_e10, vAlen_e11, vAlen_e5, vAlen_e3, vGets_e, vCompact_e, vLdcS_e, vIret_e, vZret_e, vCret_e, vBret_e, vLret_e, vVret_e, vAret_e, vCallM_e0, vCallMV_e0, vCallS_e0, vCallSV_e0, vCallM_e1, vCallMV_e1, vCallS_e1, vCallSV_e1, vCallM_e2, vCallMV_e2, vCallS_e2, vCallSV_e2, vCallM_e3, vCallMV_e3, vCallS_e3, vCallSV_e3, vCallM_e4, vCallMV_e4, vCallS_e4, vCallSV_e4, vCallM_e5, vCallMV_e5, vCallS_e5, vCallSV_e5, vCallM_e6, vCallMV_e6, vCallS_e6, vCallSV_e6, vCallM_e7, vCallMV_e7, vCallS_e7, vCallSV_e7, vBad_e, vStrVal_e, vStrCod_e, vForm_e, vCallT_e0, vCallT_e1, vCallT_e2, vCopy_e, rf_0_0, rf_0_1, rf_0_2, rf_0_3, rf_0_4, rf_0_7, rf_0_10, rf_0_11, rf_0_12, rf_0_13, rf_0_14, rf_0_15, rf_0_16, rf_1_0, rf_3_0, rf_3_1, rf_6_0, rf_6_1, rf_9_0, rf_9_1, rf_9_3, rf_13_0, rf_13_1, rf_13_2, rf_16_0, rf_16_1, rf_16_2, rf_16_3, rf_21_0, rf_21_1, rf_21_2, rf_21_3, rf_26_0, rf_26_1, rf_26_2, rf_26_3, rf_26_4, rf_26_5, rf_26_6, rf_31_0, rf_31_2, rf_31_5, rf_31_6, rf_36_0, rf_36_1, rf_36_2, rf_36_3, rf_39_0, rf_39_1, rf_39_2, rf_41_0, rf_41_1, rf_41_2, rf_41_3, rf_5000_1, rf_5000_2, rf_5000_3, rf_5000_4, rf_5000_5, rf_5000_15, rf_5000_16, rf_5000_18, rf_5000_19, rf_5000_20, rf_5000_21, rf_5000_22, rf_5000_23, rf_5000_24, rf_5000_25, rf_5000_26, rf_5000_27, rf_5000_36, rf_5000_37, rf_5000_40, rf_5000_41, rf_5000_42, rf_5000_43, rf_5000_44, rf_5000_45, rf_5000_47, rf_5000_52, rf_5000_54, rf_5000_55, rf_100_0, rf_100_1, rf_103_0, rf_103_1, rf_106_0, rf_106_1, rf_109_0, rf_109_1, al_2, al_4, al_5, al_7, al_8, al_10, al_11, al_12, al_14, al_15, al_17, al_18, al_19, al_20, al_22, al_23, al_24, al_25, al_27, al_28, al_29, al_30, al_32, al_33, al_34, al_35, al_37, al_38, al_40, al_42, al_5001, al_5002, al_5003, al_5004, al_5005, al_5006, al_5007, al_5008, al_5009, al_5010, al_5011, al_5012, al_5013, al_5014, al_5015, al_5016, al_5017, al_5018, al_5019, al_5020, al_5021, al_5022, al_5023, al_5024, al_5025, al_5026, al_9000, al_101, al_102, al_104, al_105, al_107, al_108, al_110, al_111, vcs_e, lg_c0, lg_cs, lg_nil, set_c0, set_cs, okst_0, okst_s, acok_n, acok_c, List.contains_nil, List.contains_cons, Bool.or_false, Bool.false_or, Bool.false_eq_true, if_false, if_true, ite_self, ne_eq, true_and, and_true, not_false_eq_true, not_true_eq_false, false_imp_iff, true_imp_iff, Nat.ble_eq, Bool.and_eq_true, reduceCtorEq, or_false, false_or, or_true, true_or, false_and, and_false, and_self, Int.reduceLE, Int.reduceAdd, Int.reduceSub, Int.reduceMul, Int.reduceNeg, Int.reduceLT, Int.reduceEq, Int.reduceNe, Nat.reduceBEq, Nat.reduceBNe, Nat.reduceEqDiff, amCmp_in, amCmp_lt, amCmp_le, amCmp_gt, amCmp_ge, amCmp_eq, amCmp_ne, Nat.reduceLeDiff, Nat.reduceSub, Bool.and_true, Bool.true_and, Bool.and_self, Bool.or_true, Bool.true_or, isRf_3, isRf_4, isRf_5, isRf_8, isRf_9, isRf_10, isRf_11, isRf_15, isRf_16, isRf_17, isRf_18, isRf_19, isRf_20, isRf_21, isRf_22, isRf_23, isRf_24, isRf_25, isRf_26, isRf_27, isRf_28, k_X11_chairsWithMoney_0, k_X11_chairsWithMoney_1, k_X11_chairsWithMoney_2, k_X11_chairsWithMoney_3, k_X11_chairsWithMoney_4, k_X11_chairsWithMoney_5, k_X11_chairsWithMoney_6, k_X11_chairsWithMoney_9, k_X11_chairsWithMoney_10, k_X11_chairsWithMoney_13, k_X11_chairsWithMoney_16, k_X11_chairsWithMoney_17, k_X11_chairsWithMoney_19, k_X11_chairsWithMoney_22, k_X11_chairsWithMoney_23, k_X11_chairsWithMoney_26, k_X11_chairsWithMoney_29, k_X11_chairsWithMoney_30, k_X11_chairsWithMoney_31, k_X11_chairsWithMoney_32, k_X11_chairsWithMoney_35, k_X11_chairsWithMoney_38, k_X11_chairsWithMoney_41, k_X11_chairsWithMoney_42, k_X11_chairsWithMoney_43, k_X11_chairsWithMoney_44, k_X11_chairsWithMoney_45, k_X11_chairsWithMoney_46, k_X11_chairsWithMoney_47, k_X11_chairsWithMoney_50, k_X11_chairsWithMoney_53, k_X11_chairsWithMoney_54]
    exact ⟨(pcnt σ 6 2).toNat, rfl, rfl, rfl, 0, rfl, by omega⟩
theorem wd_1153 : Cond.methodLink RX11 365 yX11_greatest ∈ TBL := tb_tab (List.mem_of_getElem? (i := 1153) (by decide +kernel)) rfl
theorem wd_1155 : Cond.code yX11_greatest cX11_greatest 4 (some .int) ∈ TBL := tb_tab (List.mem_of_getElem? (i := 1155) (by decide +kernel)) rfl
theorem lk_X11_365 : amLk RX11 365 yX11_greatest cX11_greatest 4 (some .int) 2 := ⟨wd_1153, wd_1, wd_1155, by decide +kernel, by decide +kernel, by decide⟩
theorem wd_1154 : Cond.static yX11_greatest ∈ TBL := tb_tab (List.mem_of_getElem? (i := 1154) (by decide +kernel)) rfl
theorem wd_1156 : Cond.methodLink RX11 368 yX11_dullest ∈ TBL := tb_tab (List.mem_of_getElem? (i := 1156) (by decide +kernel)) rfl
theorem wd_1159 : Cond.code yX11_dullest cX11_dullest 3 (some .int) ∈ TBL := tb_tab (List.mem_of_getElem? (i := 1159) (by decide +kernel)) rfl
theorem lk_X11_368 : amLk RX11 368 yX11_dullest cX11_dullest 3 (some .int) 0 := ⟨wd_1156, wd_1, wd_1159, by decide +kernel, by decide +kernel, by decide⟩
theorem wd_1158 : Cond.instanceMethod yX11_dullest ∈ TBL := tb_tab (List.mem_of_getElem? (i := 1158) (by decide +kernel)) rfl
theorem sl_X11_dullest : Cond.selects RX11 yX11_dullest yX11_dullest ∈ TBL := tb_sel (List.mem_of_getElem? (i := 40) (by decide +kernel)) rfl
theorem wd_1160 : Cond.methodLink RX11 371 yX11_sittersSold ∈ TBL := tb_tab (List.mem_of_getElem? (i := 1160) (by decide +kernel)) rfl
theorem wd_1163 : Cond.code yX11_sittersSold cX11_sittersSold 6 (some .int) ∈ TBL := tb_tab (List.mem_of_getElem? (i := 1163) (by decide +kernel)) rfl
theorem lk_X11_371 : amLk RX11 371 yX11_sittersSold cX11_sittersSold 6 (some .int) 2 := ⟨wd_1160, wd_1, wd_1163, by decide +kernel, by decide +kernel, by decide⟩
theorem wd_1162 : Cond.instanceMethod yX11_sittersSold ∈ TBL := tb_tab (List.mem_of_getElem? (i := 1162) (by decide +kernel)) rfl
theorem sl_X11_sittersSold : Cond.selects RX11 yX11_sittersSold yX11_sittersSold ∈ TBL := tb_sel (List.mem_of_getElem? (i := 41) (by decide +kernel)) rfl
theorem wd_1165 : Cond.methodLink RX11 374 yX11_longest ∈ TBL := tb_tab (List.mem_of_getElem? (i := 1165) (by decide +kernel)) rfl
theorem wd_1168 : Cond.code yX11_longest cX11_longest 3 (some .int) ∈ TBL := tb_tab (List.mem_of_getElem? (i := 1168) (by decide +kernel)) rfl
theorem lk_X11_374 : amLk RX11 374 yX11_longest cX11_longest 3 (some .int) 0 := ⟨wd_1165, wd_1, wd_1168, by decide +kernel, by decide +kernel, by decide⟩
theorem wd_1167 : Cond.instanceMethod yX11_longest ∈ TBL := tb_tab (List.mem_of_getElem? (i := 1167) (by decide +kernel)) rfl
theorem sl_X11_longest : Cond.selects RX11 yX11_longest yX11_longest ∈ TBL := tb_sel (List.mem_of_getElem? (i := 42) (by decide +kernel)) rfl
theorem wd_1178 : Cond.methodLink RX11 377 yX11_chairsWithMoney ∈ TBL := tb_tab (List.mem_of_getElem? (i := 1178) (by decide +kernel)) rfl
theorem wd_1181 : Cond.code yX11_chairsWithMoney cX11_chairsWithMoney 3 (some .int) ∈ TBL := tb_tab (List.mem_of_getElem? (i := 1181) (by decide +kernel)) rfl
theorem lk_X11_377 : amLk RX11 377 yX11_chairsWithMoney cX11_chairsWithMoney 3 (some .int) 0 := ⟨wd_1178, wd_1, wd_1181, by decide +kernel, by decide +kernel, by decide⟩
theorem wd_1180 : Cond.instanceMethod yX11_chairsWithMoney ∈ TBL := tb_tab (List.mem_of_getElem? (i := 1180) (by decide +kernel)) rfl
theorem sl_X11_chairsWithMoney : Cond.selects RX11 yX11_chairsWithMoney yX11_chairsWithMoney ∈ TBL := tb_sel (List.mem_of_getElem? (i := 44) (by decide +kernel)) rfl
def a_X11_all : AC := [(0, vAload 0 1), (1, vGetR TT 27 2 22 4), (4, vCallM w_X6_isTold 22 0 7), (7, vIfNe 12 10), (10, vI (-1) 11), (11, vIret), (12, vIload 1 13), (13, vSw2 [(0, 60), (1, 79), (2, 98), (3, 117), (4, 122), (5, 129), (6, 134), (7, 139)] 147), (60, vAload 0 61), (61, vGetR TT 27 10 16 64), (64, vGetR TT 16 0 8 67), (67, vAload 0 68), (68, vGetR TT 27 2 22 71), (71, vI 2 72), (72, vCallM w_X6_many 22 1 75), (75, vCallS w_X11_greatest 2 78), (78, vIret), (79, vAload 0 80), (80, vGetR TT 27 10 16 83), (83, vGetR TT 16 2 8 86), (86, vAload 0 87), (87, vGetR TT 27 2 22 90), (90, vI 2 91), (91, vCallM w_X6_many 22 1 94), (94, vCallS w_X11_greatest 2 97), (97, vIret), (98, vAload 0 99), (99, vGetR TT 27 10 16 102), (102, vGetR TT 16 3 8 105), (105, vAload 0 106), (106, vGetR TT 27 2 22 109), (109, vI 2 110), (110, vCallM w_X6_many 22 1 113), (113, vCallS w_X11_greatest 2 116), (116, vIret), (117, vAload 0 118), (118, vCallM w_X11_dullest 27 0 121), (121, vIret), (122, vAload 0 123), (123, vI 0 124), (124, vI 0 125), (125, vCallM w_X11_sittersSold 27 2 128), (128, vIret), (129, vAload 0 130), (130, vCallM w_X11_longest 27 0 133), (133, vIret), (134, vAload 0 135), (135, vCallM w_X11_chairsWithMoney 27 0 138), (138, vIret), (139, vAload 0 140), (140, vI 2 141), (141, vI 6 143), (143, vCallM w_X11_sittersSold 27 2 146), (146, vIret), (147, vI (-1) 148), (148, vIret)]
theorem k_X11_all_0 : look a_X11_all 0 = vAload 0 1 := rfl
theorem k_X11_all_1 : look a_X11_all 1 = vGetR TT 27 2 22 4 := rfl
theorem k_X11_all_4 : look a_X11_all 4 = vCallM w_X6_isTold 22 0 7 := rfl
theorem k_X11_all_7 : look a_X11_all 7 = vIfNe 12 10 := rfl
theorem k_X11_all_10 : look a_X11_all 10 = vI (-1) 11 := rfl
theorem k_X11_all_11 : look a_X11_all 11 = vIret := rfl
theorem k_X11_all_12 : look a_X11_all 12 = vIload 1 13 := rfl
theorem k_X11_all_13 : look a_X11_all 13 = vSw2 [(0, 60), (1, 79), (2, 98), (3, 117), (4, 122), (5, 129), (6, 134), (7, 139)] 147 := rfl
theorem k_X11_all_60 : look a_X11_all 60 = vAload 0 61 := rfl
theorem k_X11_all_61 : look a_X11_all 61 = vGetR TT 27 10 16 64 := rfl
theorem k_X11_all_64 : look a_X11_all 64 = vGetR TT 16 0 8 67 := rfl
theorem k_X11_all_67 : look a_X11_all 67 = vAload 0 68 := rfl
theorem k_X11_all_68 : look a_X11_all 68 = vGetR TT 27 2 22 71 := rfl
theorem k_X11_all_71 : look a_X11_all 71 = vI 2 72 := rfl
theorem k_X11_all_72 : look a_X11_all 72 = vCallM w_X6_many 22 1 75 := rfl
theorem k_X11_all_75 : look a_X11_all 75 = vCallS w_X11_greatest 2 78 := rfl
theorem k_X11_all_78 : look a_X11_all 78 = vIret := rfl
theorem k_X11_all_79 : look a_X11_all 79 = vAload 0 80 := rfl
theorem k_X11_all_80 : look a_X11_all 80 = vGetR TT 27 10 16 83 := rfl
theorem k_X11_all_83 : look a_X11_all 83 = vGetR TT 16 2 8 86 := rfl
theorem k_X11_all_86 : look a_X11_all 86 = vAload 0 87 := rfl
theorem k_X11_all_87 : look a_X11_all 87 = vGetR TT 27 2 22 90 := rfl
theorem k_X11_all_90 : look a_X11_all 90 = vI 2 91 := rfl
theorem k_X11_all_91 : look a_X11_all 91 = vCallM w_X6_many 22 1 94 := rfl
theorem k_X11_all_94 : look a_X11_all 94 = vCallS w_X11_greatest 2 97 := rfl
theorem k_X11_all_97 : look a_X11_all 97 = vIret := rfl
theorem k_X11_all_98 : look a_X11_all 98 = vAload 0 99 := rfl
theorem k_X11_all_99 : look a_X11_all 99 = vGetR TT 27 10 16 102 := rfl
theorem k_X11_all_102 : look a_X11_all 102 = vGetR TT 16 3 8 105 := rfl
theorem k_X11_all_105 : look a_X11_all 105 = vAload 0 106 := rfl
theorem k_X11_all_106 : look a_X11_all 106 = vGetR TT 27 2 22 109 := rfl
theorem k_X11_all_109 : look a_X11_all 109 = vI 2 110 := rfl
theorem k_X11_all_110 : look a_X11_all 110 = vCallM w_X6_many 22 1 113 := rfl
theorem k_X11_all_113 : look a_X11_all 113 = vCallS w_X11_greatest 2 116 := rfl
theorem k_X11_all_116 : look a_X11_all 116 = vIret := rfl
theorem k_X11_all_117 : look a_X11_all 117 = vAload 0 118 := rfl
theorem k_X11_all_118 : look a_X11_all 118 = vCallM w_X11_dullest 27 0 121 := rfl
theorem k_X11_all_121 : look a_X11_all 121 = vIret := rfl
theorem k_X11_all_122 : look a_X11_all 122 = vAload 0 123 := rfl
theorem k_X11_all_123 : look a_X11_all 123 = vI 0 124 := rfl
theorem k_X11_all_124 : look a_X11_all 124 = vI 0 125 := rfl
theorem k_X11_all_125 : look a_X11_all 125 = vCallM w_X11_sittersSold 27 2 128 := rfl
theorem k_X11_all_128 : look a_X11_all 128 = vIret := rfl
theorem k_X11_all_129 : look a_X11_all 129 = vAload 0 130 := rfl
theorem k_X11_all_130 : look a_X11_all 130 = vCallM w_X11_longest 27 0 133 := rfl
theorem k_X11_all_133 : look a_X11_all 133 = vIret := rfl
theorem k_X11_all_134 : look a_X11_all 134 = vAload 0 135 := rfl
theorem k_X11_all_135 : look a_X11_all 135 = vCallM w_X11_chairsWithMoney 27 0 138 := rfl
theorem k_X11_all_138 : look a_X11_all 138 = vIret := rfl
theorem k_X11_all_139 : look a_X11_all 139 = vAload 0 140 := rfl
theorem k_X11_all_140 : look a_X11_all 140 = vI 2 141 := rfl
theorem k_X11_all_141 : look a_X11_all 141 = vI 6 143 := rfl
theorem k_X11_all_143 : look a_X11_all 143 = vCallM w_X11_sittersSold 27 2 146 := rfl
theorem k_X11_all_146 : look a_X11_all 146 = vIret := rfl
theorem k_X11_all_147 : look a_X11_all 147 = vI (-1) 148 := rfl
theorem k_X11_all_148 : look a_X11_all 148 = vIret := rfl
theorem o_X11_all {X : amX} (e1 : XT X = TT) (e2 : XD X = 5) (hB : amB X RX11 cX11_all (some .int) 2) : ∀ pc, amOK X pc (look a_X11_all pc) := by
  have hT : amTok (XT X) := e1 ▸ TT_ok
  refine look_ok ?_
  unfold a_X11_all
  refine fc (ok_aload_n hB dX11_all_0) ?_
  refine fc (okt_getR e1 hB hT fl_X11_23 rfl af_11_2 at_11_2 (by decide) dX11_all_1) ?_
  refine fc (ok_callM hB hT (e1 ▸ s_X6_isTold) lk_X11_164 (by rw [e2]; decide) (c := 6) rfl rfl rfl wd_717 wd_718 dX11_all_4) ?_
  refine fc (ok_if_ne hB (t := 12) (by decide) dX11_all_7) ?_
  refine fc (ok_iconst hB dX11_all_10) ?_
  refine fc (ok_iret hB dX11_all_11) ?_
  refine fc (ok_iload_n hB dX11_all_12) ?_
  refine fc (ok_sw2 (by decide) (ok_tableswitch hB [(0, 60), (1, 79), (2, 98), (3, 117), (4, 122), (5, 129), (6, 134), (7, 139)] dX11_all_13 (by decide) (by decide) (by decide) (by decide))) ?_
  refine fc (ok_aload_n hB dX11_all_60) ?_
  refine fc (okt_getR e1 hB hT fl_X11_65 rfl af_11_10 at_11_10 (by decide) dX11_all_61) ?_
  refine fc (okt_getR e1 hB hT fl_X11_189 rfl af_0_0 at_0_0 (by decide) dX11_all_64) ?_
  refine fc (ok_aload_n hB dX11_all_67) ?_
  refine fc (okt_getR e1 hB hT fl_X11_23 rfl af_11_2 at_11_2 (by decide) dX11_all_68) ?_
  refine fc (ok_iconst hB dX11_all_71) ?_
  refine fc (ok_callM hB hT (e1 ▸ s_X6_many) lk_X11_154 (by rw [e2]; decide) (c := 6) rfl rfl rfl wd_557 wd_558 dX11_all_72) ?_
  refine fc (ok_callS hB (e1 ▸ s_X11_greatest) lk_X11_365 (by rw [e2]; decide) wd_1154 dX11_all_75) ?_
  refine fc (ok_iret hB dX11_all_78) ?_
  refine fc (ok_aload_n hB dX11_all_79) ?_
  refine fc (okt_getR e1 hB hT fl_X11_65 rfl af_11_10 at_11_10 (by decide) dX11_all_80) ?_
  refine fc (okt_getR e1 hB hT fl_X11_196 rfl af_0_2 at_0_2 (by decide) dX11_all_83) ?_
  refine fc (ok_aload_n hB dX11_all_86) ?_
  refine fc (okt_getR e1 hB hT fl_X11_23 rfl af_11_2 at_11_2 (by decide) dX11_all_87) ?_
  refine fc (ok_iconst hB dX11_all_90) ?_
  refine fc (ok_callM hB hT (e1 ▸ s_X6_many) lk_X11_154 (by rw [e2]; decide) (c := 6) rfl rfl rfl wd_557 wd_558 dX11_all_91) ?_
  refine fc (ok_callS hB (e1 ▸ s_X11_greatest) lk_X11_365 (by rw [e2]; decide) wd_1154 dX11_all_94) ?_
  refine fc (ok_iret hB dX11_all_97) ?_
  refine fc (ok_aload_n hB dX11_all_98) ?_
  refine fc (okt_getR e1 hB hT fl_X11_65 rfl af_11_10 at_11_10 (by decide) dX11_all_99) ?_
  refine fc (okt_getR e1 hB hT fl_X11_199 rfl af_0_3 at_0_3 (by decide) dX11_all_102) ?_
  refine fc (ok_aload_n hB dX11_all_105) ?_
  refine fc (okt_getR e1 hB hT fl_X11_23 rfl af_11_2 at_11_2 (by decide) dX11_all_106) ?_
  refine fc (ok_iconst hB dX11_all_109) ?_
  refine fc (ok_callM hB hT (e1 ▸ s_X6_many) lk_X11_154 (by rw [e2]; decide) (c := 6) rfl rfl rfl wd_557 wd_558 dX11_all_110) ?_
  refine fc (ok_callS hB (e1 ▸ s_X11_greatest) lk_X11_365 (by rw [e2]; decide) wd_1154 dX11_all_113) ?_
  refine fc (ok_iret hB dX11_all_116) ?_
  refine fc (ok_aload_n hB dX11_all_117) ?_
  refine fc (ok_callM hB hT (e1 ▸ s_X11_dullest) lk_X11_368 (by rw [e2]; decide) (c := 11) rfl rfl rfl wd_1158 sl_X11_dullest dX11_all_118) ?_
  refine fc (ok_iret hB dX11_all_121) ?_
  refine fc (ok_aload_n hB dX11_all_122) ?_
  refine fc (ok_iconst hB dX11_all_123) ?_
  refine fc (ok_iconst hB dX11_all_124) ?_
  refine fc (ok_callM hB hT (e1 ▸ s_X11_sittersSold) lk_X11_371 (by rw [e2]; decide) (c := 11) rfl rfl rfl wd_1162 sl_X11_sittersSold dX11_all_125) ?_
  refine fc (ok_iret hB dX11_all_128) ?_
  refine fc (ok_aload_n hB dX11_all_129) ?_
  refine fc (ok_callM hB hT (e1 ▸ s_X11_longest) lk_X11_374 (by rw [e2]; decide) (c := 11) rfl rfl rfl wd_1167 sl_X11_longest dX11_all_130) ?_
  refine fc (ok_iret hB dX11_all_133) ?_
  refine fc (ok_aload_n hB dX11_all_134) ?_
  refine fc (ok_callM hB hT (e1 ▸ s_X11_chairsWithMoney) lk_X11_377 (by rw [e2]; decide) (c := 11) rfl rfl rfl wd_1180 sl_X11_chairsWithMoney dX11_all_135) ?_
  refine fc (ok_iret hB dX11_all_138) ?_
  refine fc (ok_aload_n hB dX11_all_139) ?_
  refine fc (ok_iconst hB dX11_all_140) ?_
  refine fc (ok_bipush hB dX11_all_141 (by decide)) ?_
  refine fc (ok_callM hB hT (e1 ▸ s_X11_sittersSold) lk_X11_371 (by rw [e2]; decide) (c := 11) rfl rfl rfl wd_1162 sl_X11_sittersSold dX11_all_143) ?_
  refine fc (ok_iret hB dX11_all_146) ?_
  refine fc (ok_iconst hB dX11_all_147) ?_
  refine fc (ok_iret hB dX11_all_148) ?_
  exact fn

def w_X11_all : WP := fun av σ Q => ∃ (w : Int), av = [(27, 0), (0, w)] ∧ (InR w ∧ planB σ 6 ∧ InR (σ 16 5) ∧ (∀ i, 0 ≤ i → i < 6 → InR (σ 17 i)) ∧ (∀ i, 0 ≤ i → i < 6 → InR (σ 18 i)) ∧ (∀ i, 0 ≤ i → i < 6 → InR (σ 19 i)) ∧ (∀ i, 0 ≤ i → i < 6 → InR (σ 20 i)) ∧
(¬ 0 < pcnt σ 6 2 ∨ w < 0 ∨ 7 < w → Q (0, -1) σ) ∧ (0 < pcnt σ 6 2 → (w = 0 → Q (0, fbest (σ 17) (pcnt σ 6 2).toNat) σ) ∧ (w = 1 → Q (0, fbest (σ 19) (pcnt σ 6 2).toNat) σ) ∧ (w = 2 → Q (0, fbest (σ 20) (pcnt σ 6 2).toNat) σ) ∧ (w = 3 → Q (0, fbest (fun t => pval σ 6 3 t 0) (max 1 (pcnt σ 6 3)).toNat) σ) ∧ (w = 4 → Q (0, gb (sldB (σ 18) (pcnt σ 6 2) 0 0) (pcnt σ 6 3).toNat) σ) ∧ (w = 5 → Q (0, fbest (lonF σ) (max 1 (pcnt σ 6 1)).toNat) σ) ∧ (w = 6 → Q (0, gb (monB (σ 19) (σ 16 5)) (pcnt σ 6 2).toNat) σ) ∧ (w = 7 → Q (0, gb (sldB (σ 18) (pcnt σ 6 2) 2 6) (pcnt σ 6 3).toNat) σ)))
theorem w_X11_all_e (w : Int) (σ : Mem) (Q : AV → Mem → Prop) : w_X11_all [(27, 0), (0, w)] σ Q = (InR w ∧ planB σ 6 ∧ InR (σ 16 5) ∧ (∀ i, 0 ≤ i → i < 6 → InR (σ 17 i)) ∧ (∀ i, 0 ≤ i → i < 6 → InR (σ 18 i)) ∧ (∀ i, 0 ≤ i → i < 6 → InR (σ 19 i)) ∧ (∀ i, 0 ≤ i → i < 6 → InR (σ 20 i)) ∧
(¬ 0 < pcnt σ 6 2 ∨ w < 0 ∨ 7 < w → Q (0, -1) σ) ∧ (0 < pcnt σ 6 2 → (w = 0 → Q (0, fbest (σ 17) (pcnt σ 6 2).toNat) σ) ∧ (w = 1 → Q (0, fbest (σ 19) (pcnt σ 6 2).toNat) σ) ∧ (w = 2 → Q (0, fbest (σ 20) (pcnt σ 6 2).toNat) σ) ∧ (w = 3 → Q (0, fbest (fun t => pval σ 6 3 t 0) (max 1 (pcnt σ 6 3)).toNat) σ) ∧ (w = 4 → Q (0, gb (sldB (σ 18) (pcnt σ 6 2) 0 0) (pcnt σ 6 3).toNat) σ) ∧ (w = 5 → Q (0, fbest (lonF σ) (max 1 (pcnt σ 6 1)).toNat) σ) ∧ (w = 6 → Q (0, gb (monB (σ 19) (σ 16 5)) (pcnt σ 6 2).toNat) σ) ∧ (w = 7 → Q (0, gb (sldB (σ 18) (pcnt σ 6 2) 2 6) (pcnt σ 6 3).toNat) σ))) := by
  apply propext; constructor
  · rintro ⟨w', h9, hb9⟩; cases h9; exact hb9
  · intro hb9; exact ⟨w, rfl, hb9⟩

set_option maxRecDepth 100000 in
set_option maxHeartbeats 4000000 in
theorem s_X11_all : ∀ av σ Q, w_X11_all av σ Q → amCall 5 0 0 TT yX11_all cX11_all 2 (some .int) av σ Q := by
  rintro av σ Q ⟨w, rfl, hw, hB, hp, g17, g18, g19, g20, h1, h2⟩
  have c2 := pcnt_b hB 2
  refine am_m0 (own := RX11) (A := look a_X11_all) (fun X e1 e2 hB => o_X11_all e1 e2 hB) rfl (by decide +kernel) rfl rfl 190 (w := 2) ?_
  change vcs _ _ _ _ 190 0 [(27, 0), (0, w)] [] σ
  simp only [↓reduceIte, inR_0, inR_1, inR_m, vSw2_e, swP_n, swP_c, vI_e, vL_e, vNull_e, vIload_e, vLload_e, vAload_e, vIstore_e, vLstore_e, vAstore_e, vIinc_e, vIadd_e, vIsub_e, vImul_e, vIand_e, vIor_e, vIxor_e, vIshl_e, vIshr_e, vIushr_e, vIdiv_e, vIrem_e, vLadd_e, vLsub_e, vLmul_e, vLand_e, vLor_e, vLxor_e, vLdiv_e, vLrem_e, vLushr_e, vLshl_e, vLcmp_e, vIneg_e, vI2l_e, vL2i_e, vI2b_e, vI2c_e, vDup_e, vPop_e, vDup2_e, vGoto_e, vIcEq_e, vIfEq_e, vIcNe_e, vIfNe_e, vIcLt_e, vIfLt_e, vIcGe_e, vIfGe_e, vIcGt_e, vIfGt_e, vIcLe_e, vIfLe_e, vNonnull_e, vSw_e, vGetI_e, vGetL_e, vGetR_e, vPutI_e, vPutZ_e, vPutL_e, vPutR_e, vIald_e, vIald_s, vLald_e, vBald_e, vBald_s, vAald_e, vIast_e, vLast_e, vBast_e, vAast_e, vAlen_e8, vAlen_e9, vAlen_e10, vAlen_e11, vAlen_e5, vAlen_e3, vGets_e, vCompact_e, vLdcS_e, vIret_e, vZret_e, vCret_e, vBret_e, vLret_e, vVret_e, vAret_e, vCallM_e0, vCallMV_e0, vCallS_e0, vCallSV_e0, vCallM_e1, vCallMV_e1, vCallS_e1, vCallSV_e1, vCallM_e2, vCallMV_e2, vCallS_e2, vCallSV_e2, vCallM_e3, vCallMV_e3, vCallS_e3, vCallSV_e3, vCallM_e4, vCallMV_e4, vCallS_e4, vCallSV_e4, vCallM_e5, vCallMV_e5, vCallS_e5, vCallSV_e5, vCallM_e6, vCallMV_e6, vCallS_e6, vCallSV_e6, vCallM_e7, vCallMV_e7, vCallS_e7, vCallSV_e7, vBad_e, vStrVal_e, vStrCod_e, vForm_e, vCallT_e0, vCallT_e1, vCallT_e2, vCopy_e, rf_0_0, rf_0_1, rf_0_2, rf_0_3, rf_0_4, rf_0_7, rf_0_10, rf_0_11, rf_0_12, rf_0_13, rf_0_14, rf_0_15, rf_0_16, rf_1_0, rf_3_0, rf_3_1, rf_6_0, rf_6_1, rf_9_0, rf_9_1, rf_9_3, rf_13_0, rf_13_1, rf_13_2, rf_16_0, rf_16_1, rf_16_2, rf_16_3, rf_21_0, rf_21_1, rf_21_2, rf_21_3, rf_26_0, rf_26_1, rf_26_2, rf_26_3, rf_26_4, rf_26_5, rf_26_6, rf_31_0, rf_31_2, rf_31_5, rf_31_6, rf_36_0, rf_36_1, rf_36_2, rf_36_3, rf_39_0, rf_39_1, rf_39_2, rf_41_0, rf_41_1, rf_41_2, rf_41_3, rf_5000_1, rf_5000_2, rf_5000_3, rf_5000_4, rf_5000_5, rf_5000_15, rf_5000_16, rf_5000_18, rf_5000_19, rf_5000_20, rf_5000_21, rf_5000_22, rf_5000_23, rf_5000_24, rf_5000_25, rf_5000_26, rf_5000_27, rf_5000_36, rf_5000_37, rf_5000_40, rf_5000_41, rf_5000_42, rf_5000_43, rf_5000_44, rf_5000_45, rf_5000_47, rf_5000_52, rf_5000_54, rf_5000_55, rf_100_0, rf_100_1, rf_103_0, rf_103_1, rf_106_0, rf_106_1, rf_109_0, rf_109_1, al_2, al_4, al_5, al_7, al_8, al_10, al_11, al_12, al_14, al_15, al_17, al_18, al_19, al_20, al_22, al_23, al_24, al_25, al_27, al_28, al_29, al_30, al_32, al_33, al_34, al_35, al_37, al_38, al_40, al_42, al_5001, al_5002, al_5003, al_5004, al_5005, al_5006, al_5007, al_5008, al_5009, al_5010, al_5011, al_5012, al_5013, al_5014, al_5015, al_5016, al_5017, al_5018, al_5019, al_5020, al_5021, al_5022, al_5023, al_5024, al_5025, al_5026, al_9000, al_101, al_102, al_104, al_105, al_107, al_108, al_110, al_111, vcs_e, lg_c0, lg_cs, lg_nil, set_c0, set_cs, okst_0, okst_s, acok_n, acok_c, List.contains_nil, List.contains_cons, Bool.or_false, Bool.false_or, Bool.false_eq_true, if_false, if_true, ite_self, ne_eq, true_and, and_true, not_false_eq_true, not_true_eq_false, false_imp_iff, true_imp_iff, Nat.ble_eq, Bool.and_eq_true, reduceCtorEq, or_false, false_or, or_true, true_or, false_and, and_false, and_self, Int.reduceLE, Int.reduceAdd, Int.reduceSub, Int.reduceMul, Int.reduceNeg, Int.reduceLT, Int.reduceEq, Int.reduceNe, Nat.reduceBEq, Nat.reduceBNe, Nat.reduceEqDiff, amCmp_in, amCmp_lt, amCmp_le, amCmp_gt, amCmp_ge, amCmp_eq, amCmp_ne, Nat.reduceLeDiff, Nat.reduceSub, Bool.and_true, Bool.true_and, Bool.and_self, Bool.or_true, Bool.true_or, isRf_3, isRf_4, isRf_5, isRf_8, isRf_9, isRf_10, isRf_11, isRf_15, isRf_16, isRf_17, isRf_18, isRf_19, isRf_20, isRf_21, isRf_22, isRf_23, isRf_24, isRf_25, isRf_26, isRf_27, isRf_28, k_X11_all_0, k_X11_all_1, k_X11_all_4, k_X11_all_7, k_X11_all_10, k_X11_all_11, k_X11_all_12, k_X11_all_13, k_X11_all_60, k_X11_all_61, k_X11_all_64, k_X11_all_67, k_X11_all_68, k_X11_all_71, k_X11_all_72, k_X11_all_75, k_X11_all_78, k_X11_all_79, k_X11_all_80, k_X11_all_83, k_X11_all_86, k_X11_all_87, k_X11_all_90, k_X11_all_91, k_X11_all_94, k_X11_all_97, k_X11_all_98, k_X11_all_99, k_X11_all_102, k_X11_all_105, k_X11_all_106, k_X11_all_109, k_X11_all_110, k_X11_all_113, k_X11_all_116, k_X11_all_117, k_X11_all_118, k_X11_all_121, k_X11_all_122, k_X11_all_123, k_X11_all_124, k_X11_all_125, k_X11_all_128, k_X11_all_129, k_X11_all_130, k_X11_all_133, k_X11_all_134, k_X11_all_135, k_X11_all_138, k_X11_all_139, k_X11_all_140, k_X11_all_141, k_X11_all_143, k_X11_all_146, k_X11_all_147, k_X11_all_148, w_X11_chairsWithMoney_e, w_X11_dullest_e, w_X11_greatest_e, w_X11_longest_e, w_X11_sittersSold_e, w_X6_isTold_e, w_X6_many_e, up_s, up_nj, up_na, up_up, savR_o, cpy_o, fillm_o, setAud_o, setv_o, setv_s, Int.reduceNe, Int.reduceEq, Int.reduceLT, Int.reduceAdd, not_false_eq_true, ne_eq, or_true, true_or]
  by_cases d : 0 < pcnt σ 6 2
  · obtain ⟨k0, k1, k2, k3, k4, k5, k6, k7⟩ := h2 d
    have em : max 1 (pcnt σ 6 2) = pcnt σ 6 2 := by omega
    simp only [em]
    rw [if_pos d]
    repeat' (first | assumption | apply And.intro | intro _)
    all_goals first | omega | exact absurd trivial (by assumption) | exact isP6 | exact h1 (by omega) | exact k0 (by omega) | exact k1 (by omega) | exact k2 (by omega) | exact k3 (by omega) | exact k4 (by omega) | exact k5 (by omega) | exact k6 (by omega) | exact k7 (by omega)
  · rw [if_neg d]
    repeat' (first | assumption | apply And.intro | intro _)
    all_goals first | omega | exact absurd trivial (by assumption) | exact isP6 | exact h1 (by omega)
