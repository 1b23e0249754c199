/-! Plan: feelings, sums -/
/-- the feeling of a minute -/
def pfeel (σ : Mem) (p play minute : Int) : Int := pval σ p 1 play (minute % 3)
def pmin (σ : Mem) (p play : Int) : Int := pval σ p 1 play 3
/-- the first n feelings together -/
def fsum (f : Int → Int) : Nat → Int
  | 0 => 0
  | n + 1 => fsum f n + f n
/-- of the first n the first that is greatest -/
def fbest (f : Int → Int) : Nat → Int
  | 0 => 0
  | n + 1 => if f n > f (fbest f n) then n else fbest f n
theorem fbest_s (f : Int → Int) (n : Nat) : fbest f (n + 1) = if f n > f (fbest f n) then (n : Int) else fbest f n := rfl
theorem fsum_b {f : Int → Int} (h : ∀ k, 0 ≤ f k ∧ f k ≤ 99) : ∀ n : Nat, 0 ≤ fsum f n ∧ fsum f n ≤ 99 * n := by
  intro n
  induction n with
  | zero => unfold fsum; omega
  | succ n ih => unfold fsum; have := h n; omega
theorem fbest_b (f : Int → Int) : ∀ n : Nat, 0 ≤ fbest f n ∧ fbest f n ≤ n := by
  intro n
  induction n with
  | zero => unfold fbest; omega
  | succ n ih => unfold fbest; split <;> omega
theorem pmin_b {σ : Mem} {p : Int} (h : planB σ p) (a : Int) : 0 ≤ pmin σ p a ∧ pmin σ p a ≤ 99 := pval_b h _ _ _
theorem pfeel_b {σ : Mem} {p : Int} (h : planB σ p) (a b : Int) : 0 ≤ pfeel σ p a b ∧ pfeel σ p a b ≤ 99 := pval_b h _ _ _

theorem wd_564 : Cond.methodLink RX6 108 yX6_value ∈ TBL := tb_tab (List.mem_of_getElem? (i := 564) (by decide +kernel)) rfl
theorem wd_567 : Cond.code yX6_value cX6_value 5 (some .int) ∈ TBL := tb_tab (List.mem_of_getElem? (i := 567) (by decide +kernel)) rfl
theorem lk_X6_108 : amLk RX6 108 yX6_value cX6_value 5 (some .int) 3 := ⟨wd_564, wd_3, wd_567, by decide +kernel, by decide +kernel, by decide⟩
theorem wd_565 : Cond.instanceMethod yX6_value ∈ TBL := tb_tab (List.mem_of_getElem? (i := 565) (by decide +kernel)) rfl
theorem wd_566 : Cond.selects RX6 yX6_value yX6_value ∈ TBL := tb_tab (List.mem_of_getElem? (i := 566) (by decide +kernel)) rfl
def a_X6_leads : AC := [(0, vAload 0 1), (1, vI 0 2), (2, vI 0 3), (3, vI 0 4), (4, vCallM w_X6_value 22 3 7), (7, vIret)]
theorem k_X6_leads_0 : look a_X6_leads 0 = vAload 0 1 := rfl
theorem k_X6_leads_1 : look a_X6_leads 1 = vI 0 2 := rfl
theorem k_X6_leads_2 : look a_X6_leads 2 = vI 0 3 := rfl
theorem k_X6_leads_3 : look a_X6_leads 3 = vI 0 4 := rfl
theorem k_X6_leads_4 : look a_X6_leads 4 = vCallM w_X6_value 22 3 7 := rfl
theorem k_X6_leads_7 : look a_X6_leads 7 = vIret := rfl
theorem o_X6_leads {X : amX} (e1 : XT X = TT) (e2 : XD X = 2) (hB : amB X RX6 cX6_leads (some .int) 1) : ∀ pc, amOK X pc (look a_X6_leads pc) := by
  have hT : amTok (XT X) := e1 ▸ TT_ok
  refine look_ok ?_
  unfold a_X6_leads
  refine fc (ok_aload_n hB dX6_leads_0) ?_
  refine fc (ok_iconst hB dX6_leads_1) ?_
  refine fc (ok_iconst hB dX6_leads_2) ?_
  refine fc (ok_iconst hB dX6_leads_3) ?_
  refine fc (ok_callM hB hT (e1 ▸ s_X6_value) lk_X6_108 (by rw [e2]; decide) (c := 6) rfl rfl rfl wd_565 wd_566 dX6_leads_4) ?_
  refine fc (ok_iret hB dX6_leads_7) ?_
  exact fn

def w_X6_leads : WP := fun av σ Q => ∃ (p : Int), av = [(22, p)] ∧ (isP p ∧ Q (0, pval σ p 0 0 0) σ)
theorem w_X6_leads_e (p : Int) (σ : Mem) (Q : AV → Mem → Prop) : w_X6_leads [(22, p)] σ Q = (isP p ∧ Q (0, pval σ p 0 0 0) σ) := by
  apply propext; constructor
  · rintro ⟨p', h9, hb9⟩; cases h9; exact hb9
  · intro hb9; exact ⟨p, rfl, hb9⟩

set_option maxRecDepth 100000 in
set_option maxHeartbeats 4000000 in
theorem s_X6_leads : ∀ av σ Q, w_X6_leads av σ Q → amCall 2 0 0 TT yX6_leads cX6_leads 1 (some .int) av σ Q := by
  rintro av σ Q ⟨p, rfl, hp, h⟩
  have hpb := isP_b hp
  refine am_m0 (own := RX6) (A := look a_X6_leads) (fun X e1 e2 hB => o_X6_leads e1 e2 hB) rfl (by decide +kernel) rfl rfl 60 (w := 1) ?_
  change vcs _ _ _ _ 60 0 [(22, p)] [] σ
  simp only [vI_e, vL_e, vNull_e, vIload_e, vLload_e, vAload_e, vIstore_e, vLstore_e, vAstore_e, vIinc_e, vIadd_e, vIsub_e, vImul_e, vIand_e, vIor_e, vIxor_e, vIshl_e, vIshr_e, vIushr_e, vIdiv_e, vIrem_e, vLadd_e, vLsub_e, vLmul_e, vLand_e, vLor_e, vLxor_e, vLdiv_e, vLrem_e, vLushr_e, vLshl_e, vLcmp_e, vIneg_e, vI2l_e, vL2i_e, vI2b_e, vI2c_e, vDup_e, vPop_e, vDup2_e, vGoto_e, vIcEq_e, vIfEq_e, vIcNe_e, vIfNe_e, vIcLt_e, vIfLt_e, vIcGe_e, vIfGe_e, vIcGt_e, vIfGt_e, vIcLe_e, vIfLe_e, vNonnull_e, vSw_e, vGetI_e, vGetL_e, vGetR_e, vPutI_e, vPutZ_e, vPutL_e, vPutR_e, vIald_e, vIald_s, vLald_e, vBald_e, vBald_s, vAald_e, vIast_e, vLast_e, vBast_e, vAast_e, vAlen_e8, vAlen_e9, vAlen_e10, vAlen_e11, vAlen_e5, vAlen_e3, vGets_e, vCompact_e, vLdcS_e, vIret_e, vZret_e, vCret_e, vBret_e, vLret_e, vVret_e, vAret_e, vCallM_e0, vCallMV_e0, vCallS_e0, vCallSV_e0, vCallM_e1, vCallMV_e1, vCallS_e1, vCallSV_e1, vCallM_e2, vCallMV_e2, vCallS_e2, vCallSV_e2, vCallM_e3, vCallMV_e3, vCallS_e3, vCallSV_e3, vCallM_e4, vCallMV_e4, vCallS_e4, vCallSV_e4, vCallM_e5, vCallMV_e5, vCallS_e5, vCallSV_e5, vCallM_e6, vCallMV_e6, vCallS_e6, vCallSV_e6, vCallM_e7, vCallMV_e7, vCallS_e7, vCallSV_e7, vBad_e, vStrVal_e, vStrCod_e, vForm_e, vCallT_e0, vCallT_e1, vCallT_e2, vCopy_e, rf_0_0, rf_0_1, rf_0_2, rf_0_3, rf_0_4, rf_0_7, rf_0_10, rf_0_11, rf_0_12, rf_0_13, rf_0_14, rf_0_15, rf_0_16, rf_1_0, rf_3_0, rf_3_1, rf_6_0, rf_6_1, rf_9_0, rf_9_1, rf_9_3, rf_13_0, rf_13_1, rf_13_2, rf_16_0, rf_16_1, rf_16_2, rf_16_3, rf_21_0, rf_21_1, rf_21_2, rf_21_3, rf_26_0, rf_26_1, rf_26_2, rf_26_3, rf_26_4, rf_26_5, rf_26_6, rf_31_0, rf_31_2, rf_31_5, rf_31_6, rf_36_0, rf_36_1, rf_36_2, rf_36_3, rf_39_0, rf_39_1, rf_39_2, rf_41_0, rf_41_1, rf_41_2, rf_41_3, rf_5000_1, rf_5000_2, rf_5000_3, rf_5000_4, rf_5000_5, rf_5000_15, rf_5000_16, rf_5000_18, rf_5000_19, rf_5000_20, rf_5000_21, rf_5000_22, rf_5000_23, rf_5000_24, rf_5000_25, rf_5000_26, rf_5000_27, rf_5000_36, rf_5000_37, rf_5000_40, rf_5000_41, rf_5000_42, rf_5000_43, rf_5000_44, rf_5000_45, rf_5000_47, rf_5000_52, rf_5000_54, rf_5000_55, rf_100_0, rf_100_1, rf_103_0, rf_103_1, rf_106_0, rf_106_1, rf_109_0, rf_109_1, al_2, al_4, al_5, al_7, al_8, al_10, al_11, al_12, al_14, al_15, al_17, al_18, al_19, al_20, al_22, al_23, al_24, al_25, al_27, al_28, al_29, al_30, al_32, al_33, al_34, al_35, al_37, al_38, al_40, al_42, al_5001, al_5002, al_5003, al_5004, al_5005, al_5006, al_5007, al_5008, al_5009, al_5010, al_5011, al_5012, al_5013, al_5014, al_5015, al_5016, al_5017, al_5018, al_5019, al_5020, al_5021, al_5022, al_5023, al_5024, al_5025, al_5026, al_9000, al_101, al_102, al_104, al_105, al_107, al_108, al_110, al_111, vcs_e, lg_c0, lg_cs, lg_nil, set_c0, set_cs, okst_0, okst_s, acok_n, acok_c, List.contains_nil, List.contains_cons, Bool.or_false, Bool.false_or, Bool.false_eq_true, if_false, if_true, ite_self, ne_eq, true_and, and_true, not_false_eq_true, not_true_eq_false, false_imp_iff, true_imp_iff, Nat.ble_eq, Bool.and_eq_true, reduceCtorEq, or_false, false_or, or_true, true_or, false_and, and_false, and_self, Int.reduceLE, Int.reduceAdd, Int.reduceSub, Int.reduceMul, Int.reduceNeg, Int.reduceLT, Int.reduceEq, Int.reduceNe, Nat.reduceBEq, Nat.reduceBNe, Nat.reduceEqDiff, amCmp_in, amCmp_lt, amCmp_le, amCmp_gt, amCmp_ge, amCmp_eq, amCmp_ne, Nat.reduceLeDiff, Nat.reduceSub, Bool.and_true, Bool.true_and, Bool.and_self, Bool.or_true, Bool.true_or, isRf_3, isRf_4, isRf_5, isRf_8, isRf_9, isRf_10, isRf_11, isRf_15, isRf_16, isRf_17, isRf_18, isRf_19, isRf_20, isRf_21, isRf_22, isRf_23, isRf_24, isRf_25, isRf_26, isRf_27, isRf_28, k_X6_leads_0, k_X6_leads_1, k_X6_leads_2, k_X6_leads_3, k_X6_leads_4, k_X6_leads_7, w_X6_value_e]
  repeat' (first | assumption | apply And.intro | intro _)
  all_goals first | omega | exact h
def a_X6_dullness : AC := [(0, vAload 0 1), (1, vI 3 2), (2, vIload 1 3), (3, vI 0 4), (4, vCallM w_X6_value 22 3 7), (7, vIret)]
theorem k_X6_dullness_0 : look a_X6_dullness 0 = vAload 0 1 := rfl
theorem k_X6_dullness_1 : look a_X6_dullness 1 = vI 3 2 := rfl
theorem k_X6_dullness_2 : look a_X6_dullness 2 = vIload 1 3 := rfl
theorem k_X6_dullness_3 : look a_X6_dullness 3 = vI 0 4 := rfl
theorem k_X6_dullness_4 : look a_X6_dullness 4 = vCallM w_X6_value 22 3 7 := rfl
theorem k_X6_dullness_7 : look a_X6_dullness 7 = vIret := rfl
theorem o_X6_dullness {X : amX} (e1 : XT X = TT) (e2 : XD X = 2) (hB : amB X RX6 cX6_dullness (some .int) 2) : ∀ pc, amOK X pc (look a_X6_dullness pc) := by
  have hT : amTok (XT X) := e1 ▸ TT_ok
  refine look_ok ?_
  unfold a_X6_dullness
  refine fc (ok_aload_n hB dX6_dullness_0) ?_
  refine fc (ok_iconst hB dX6_dullness_1) ?_
  refine fc (ok_iload_n hB dX6_dullness_2) ?_
  refine fc (ok_iconst hB dX6_dullness_3) ?_
  refine fc (ok_callM hB hT (e1 ▸ s_X6_value) lk_X6_108 (by rw [e2]; decide) (c := 6) rfl rfl rfl wd_565 wd_566 dX6_dullness_4) ?_
  refine fc (ok_iret hB dX6_dullness_7) ?_
  exact fn

def w_X6_dullness : WP := fun av σ Q => ∃ (p : Int) (s : Int), av = [(22, p), (0, s)] ∧ (isP p ∧ InR s ∧ Q (0, pval σ p 3 s 0) σ)
theorem w_X6_dullness_e (p : Int) (s : Int) (σ : Mem) (Q : AV → Mem → Prop) : w_X6_dullness [(22, p), (0, s)] σ Q = (isP p ∧ InR s ∧ Q (0, pval σ p 3 s 0) σ) := by
  apply propext; constructor
  · rintro ⟨p', s', h9, hb9⟩; cases h9; exact hb9
  · intro hb9; exact ⟨p, s, rfl, hb9⟩

set_option maxRecDepth 100000 in
set_option maxHeartbeats 4000000 in
theorem s_X6_dullness : ∀ av σ Q, w_X6_dullness av σ Q → amCall 2 0 0 TT yX6_dullness cX6_dullness 2 (some .int) av σ Q := by
  rintro av σ Q ⟨p, s, rfl, hp, hs, h⟩
  have hpb := isP_b hp
  refine am_m0 (own := RX6) (A := look a_X6_dullness) (fun X e1 e2 hB => o_X6_dullness e1 e2 hB) rfl (by decide +kernel) rfl rfl 60 (w := 2) ?_
  change vcs _ _ _ _ 60 0 [(22, p), (0, s)] [] σ
  simp only [vI_e, vL_e, vNull_e, vIload_e, vLload_e, vAload_e, vIstore_e, vLstore_e, vAstore_e, vIinc_e, vIadd_e, vIsub_e, vImul_e, vIand_e, vIor_e, vIxor_e, vIshl_e, vIshr_e, vIushr_e, vIdiv_e, vIrem_e, vLadd_e, vLsub_e, vLmul_e, vLand_e, vLor_e, vLxor_e, vLdiv_e, vLrem_e, vLushr_e, vLshl_e, vLcmp_e, vIneg_e, vI2l_e, vL2i_e, vI2b_e, vI2c_e, vDup_e, vPop_e, vDup2_e, vGoto_e, vIcEq_e, vIfEq_e, vIcNe_e, vIfNe_e, vIcLt_e, vIfLt_e, vIcGe_e, vIfGe_e, vIcGt_e, vIfGt_e, vIcLe_e, vIfLe_e, vNonnull_e, vSw_e, vGetI_e, vGetL_e, vGetR_e, vPutI_e, vPutZ_e, vPutL_e, vPutR_e, vIald_e, vIald_s, vLald_e, vBald_e, vBald_s, vAald_e, vIast_e, vLast_e, vBast_e, vAast_e, vAlen_e8, vAlen_e9, vAlen_e10, vAlen_e11, vAlen_e5, vAlen_e3, vGets_e, vCompact_e, vLdcS_e, vIret_e, vZret_e, vCret_e, vBret_e, vLret_e, vVret_e, vAret_e, vCallM_e0, vCallMV_e0, vCallS_e0, vCallSV_e0, vCallM_e1, vCallMV_e1, vCallS_e1, vCallSV_e1, vCallM_e2, vCallMV_e2, vCallS_e2, vCallSV_e2, vCallM_e3, vCallMV_e3, vCallS_e3, vCallSV_e3, vCallM_e4, vCallMV_e4, vCallS_e4, vCallSV_e4, vCallM_e5, vCallMV_e5, vCallS_e5, vCallSV_e5, vCallM_e6, vCallMV_e6, vCallS_e6, vCallSV_e6, vCallM_e7, vCallMV_e7, vCallS_e7, vCallSV_e7, vBad_e, vStrVal_e, vStrCod_e, vForm_e, vCallT_e0, vCallT_e1, vCallT_e2, vCopy_e, rf_0_0, rf_0_1, rf_0_2, rf_0_3, rf_0_4, rf_0_7, rf_0_10, rf_0_11, rf_0_12, rf_0_13, rf_0_14, rf_0_15, rf_0_16, rf_1_0, rf_3_0, rf_3_1, rf_6_0, rf_6_1, rf_9_0, rf_9_1, rf_9_3, rf_13_0, rf_13_1, rf_13_2, rf_16_0, rf_16_1, rf_16_2, rf_16_3, rf_21_0, rf_21_1, rf_21_2, rf_21_3, rf_26_0, rf_26_1, rf_26_2, rf_26_3, rf_26_4, rf_26_5, rf_26_6, rf_31_0, rf_31_2, rf_31_5, rf_31_6, rf_36_0, rf_36_1, rf_36_2, rf_36_3, rf_39_0, rf_39_1, rf_39_2, rf_41_0, rf_41_1, rf_41_2, rf_41_3, rf_5000_1, rf_5000_2, rf_5000_3, rf_5000_4, rf_5000_5, rf_5000_15, rf_5000_16, rf_5000_18, rf_5000_19, rf_5000_20, rf_5000_21, rf_5000_22, rf_5000_23, rf_5000_24, rf_5000_25, rf_5000_26, rf_5000_27, rf_5000_36, rf_5000_37, rf_5000_40, rf_5000_41, rf_5000_42, rf_5000_43, rf_5000_44, rf_5000_45, rf_5000_47, rf_5000_52, rf_5000_54, rf_5000_55, rf_100_0, rf_100_1, rf_103_0, rf_103_1, rf_106_0, rf_106_1, rf_109_0, rf_109_1, al_2, al_4, al_5, al_7, al_8, al_10, al_11, al_12, al_14, al_15, al_17, al_18, al_19, al_20, al_22, al_23, al_24, al_25, al_27, al_28, al_29, al_30, al_32, al_33, al_34, al_35, al_37, al_38, al_40, al_42, al_5001, al_5002, al_5003, al_5004, al_5005, al_5006, al_5007, al_5008, al_5009, al_5010, al_5011, al_5012, al_5013, al_5014, al_5015, al_5016, al_5017, al_5018, al_5019, al_5020, al_5021, al_5022, al_5023, al_5024, al_5025, al_5026, al_9000, al_101, al_102, al_104, al_105, al_107, al_108, al_110, al_111, vcs_e, lg_c0, lg_cs, lg_nil, set_c0, set_cs, okst_0, okst_s, acok_n, acok_c, List.contains_nil, List.contains_cons, Bool.or_false, Bool.false_or, Bool.false_eq_true, if_false, if_true, ite_self, ne_eq, true_and, and_true, not_false_eq_true, not_true_eq_false, false_imp_iff, true_imp_iff, Nat.ble_eq, Bool.and_eq_true, reduceCtorEq, or_false, false_or, or_true, true_or, false_and, and_false, and_self, Int.reduceLE, Int.reduceAdd, Int.reduceSub, Int.reduceMul, Int.reduceNeg, Int.reduceLT, Int.reduceEq, Int.reduceNe, Nat.reduceBEq, Nat.reduceBNe, Nat.reduceEqDiff, amCmp_in, amCmp_lt, amCmp_le, amCmp_gt, amCmp_ge, amCmp_eq, amCmp_ne, Nat.reduceLeDiff, Nat.reduceSub, Bool.and_true, Bool.true_and, Bool.and_self, Bool.or_true, Bool.true_or, isRf_3, isRf_4, isRf_5, isRf_8, isRf_9, isRf_10, isRf_11, isRf_15, isRf_16, isRf_17, isRf_18, isRf_19, isRf_20, isRf_21, isRf_22, isRf_23, isRf_24, isRf_25, isRf_26, isRf_27, isRf_28, k_X6_dullness_0, k_X6_dullness_1, k_X6_dullness_2, k_X6_dullness_3, k_X6_dullness_4, k_X6_dullness_7, w_X6_value_e]
  repeat' (first | assumption | apply And.intro | intro _)
  all_goals first | omega | exact h
def a_X6_minutes : AC := [(0, vAload 0 1), (1, vI 1 2), (2, vIload 1 3), (3, vI 3 4), (4, vCallM w_X6_value 22 3 7), (7, vIret)]
theorem k_X6_minutes_0 : look a_X6_minutes 0 = vAload 0 1 := rfl
theorem k_X6_minutes_1 : look a_X6_minutes 1 = vI 1 2 := rfl
theorem k_X6_minutes_2 : look a_X6_minutes 2 = vIload 1 3 := rfl
theorem k_X6_minutes_3 : look a_X6_minutes 3 = vI 3 4 := rfl
theorem k_X6_minutes_4 : look a_X6_minutes 4 = vCallM w_X6_value 22 3 7 := rfl
theorem k_X6_minutes_7 : look a_X6_minutes 7 = vIret := rfl
theorem o_X6_minutes {X : amX} (e1 : XT X = TT) (e2 : XD X = 2) (hB : amB X RX6 cX6_minutes (some .int) 2) : ∀ pc, amOK X pc (look a_X6_minutes pc) := by
  have hT : amTok (XT X) := e1 ▸ TT_ok
  refine look_ok ?_
  unfold a_X6_minutes
  refine fc (ok_aload_n hB dX6_minutes_0) ?_
  refine fc (ok_iconst hB dX6_minutes_1) ?_
  refine fc (ok_iload_n hB dX6_minutes_2) ?_
  refine fc (ok_iconst hB dX6_minutes_3) ?_
  refine fc (ok_callM hB hT (e1 ▸ s_X6_value) lk_X6_108 (by rw [e2]; decide) (c := 6) rfl rfl rfl wd_565 wd_566 dX6_minutes_4) ?_
  refine fc (ok_iret hB dX6_minutes_7) ?_
  exact fn

def w_X6_minutes : WP := fun av σ Q => ∃ (p : Int) (s : Int), av = [(22, p), (0, s)] ∧ (isP p ∧ InR s ∧ Q (0, pmin σ p s) σ)
theorem w_X6_minutes_e (p : Int) (s : Int) (σ : Mem) (Q : AV → Mem → Prop) : w_X6_minutes [(22, p), (0, s)] σ Q = (isP p ∧ InR s ∧ Q (0, pmin σ p s) σ) := by
  apply propext; constructor
  · rintro ⟨p', s', h9, hb9⟩; cases h9; exact hb9
  · intro hb9; exact ⟨p, s, rfl, hb9⟩

set_option maxRecDepth 100000 in
set_option maxHeartbeats 4000000 in
theorem s_X6_minutes : ∀ av σ Q, w_X6_minutes av σ Q → amCall 2 0 0 TT yX6_minutes cX6_minutes 2 (some .int) av σ Q := by
  rintro av σ Q ⟨p, s, rfl, hp, hs, h⟩
  have hpb := isP_b hp
  refine am_m0 (own := RX6) (A := look a_X6_minutes) (fun X e1 e2 hB => o_X6_minutes e1 e2 hB) rfl (by decide +kernel) rfl rfl 60 (w := 2) ?_
  change vcs _ _ _ _ 60 0 [(22, p), (0, s)] [] σ
  simp only [vI_e, vL_e, vNull_e, vIload_e, vLload_e, vAload_e, vIstore_e, vLstore_e, vAstore_e, vIinc_e, vIadd_e, vIsub_e, vImul_e, vIand_e, vIor_e, vIxor_e, vIshl_e, vIshr_e, vIushr_e, vIdiv_e, vIrem_e, vLadd_e, vLsub_e, vLmul_e, vLand_e, vLor_e, vLxor_e, vLdiv_e, vLrem_e, vLushr_e, vLshl_e, vLcmp_e, vIneg_e, vI2l_e, vL2i_e, vI2b_e, vI2c_e, vDup_e, vPop_e, vDup2_e, vGoto_e, vIcEq_e, vIfEq_e, vIcNe_e, vIfNe_e, vIcLt_e, vIfLt_e, vIcGe_e, vIfGe_e, vIcGt_e, vIfGt_e, vIcLe_e, vIfLe_e, vNonnull_e, vSw_e, vGetI_e, vGetL_e, vGetR_e, vPutI_e, vPutZ_e, vPutL_e, vPutR_e, vIald_e, vIald_s, vLald_e, vBald_e, vBald_s, vAald_e, vIast_e, vLast_e, vBast_e, vAast_e, vAlen_e8, vAlen_e9, vAlen_e10, vAlen_e11, vAlen_e5, vAlen_e3, vGets_e, vCompact_e, vLdcS_e, vIret_e, vZret_e, vCret_e, vBret_e, vLret_e, vVret_e, vAret_e, vCallM_e0, vCallMV_e0, vCallS_e0, vCallSV_e0, vCallM_e1, vCallMV_e1, vCallS_e1, vCallSV_e1, vCallM_e2, vCallMV_e2, vCallS_e2, vCallSV_e2, vCallM_e3, vCallMV_e3, vCallS_e3, vCallSV_e3, vCallM_e4, vCallMV_e4, vCallS_e4, vCallSV_e4, vCallM_e5, vCallMV_e5, vCallS_e5, vCallSV_e5, vCallM_e6, vCallMV_e6, vCallS_e6, vCallSV_e6, vCallM_e7, vCallMV_e7, vCallS_e7, vCallSV_e7, vBad_e, vStrVal_e, vStrCod_e, vForm_e, vCallT_e0, vCallT_e1, vCallT_e2, vCopy_e, rf_0_0, rf_0_1, rf_0_2, rf_0_3, rf_0_4, rf_0_7, rf_0_10, rf_0_11, rf_0_12, rf_0_13, rf_0_14, rf_0_15, rf_0_16, rf_1_0, rf_3_0, rf_3_1, rf_6_0, rf_6_1, rf_9_0, rf_9_1, rf_9_3, rf_13_0, rf_13_1, rf_13_2, rf_16_0, rf_16_1, rf_16_2, rf_16_3, rf_21_0, rf_21_1, rf_21_2, rf_21_3, rf_26_0, rf_26_1, rf_26_2, rf_26_3, rf_26_4, rf_26_5, rf_26_6, rf_31_0, rf_31_2, rf_31_5, rf_31_6, rf_36_0, rf_36_1, rf_36_2, rf_36_3, rf_39_0, rf_39_1, rf_39_2, rf_41_0, rf_41_1, rf_41_2, rf_41_3, rf_5000_1, rf_5000_2, rf_5000_3, rf_5000_4, rf_5000_5, rf_5000_15, rf_5000_16, rf_5000_18, rf_5000_19, rf_5000_20, rf_5000_21, rf_5000_22, rf_5000_23, rf_5000_24, rf_5000_25, rf_5000_26, rf_5000_27, rf_5000_36, rf_5000_37, rf_5000_40, rf_5000_41, rf_5000_42, rf_5000_43, rf_5000_44, rf_5000_45, rf_5000_47, rf_5000_52, rf_5000_54, rf_5000_55, rf_100_0, rf_100_1, rf_103_0, rf_103_1, rf_106_0, rf_106_1, rf_109_0, rf_109_1, al_2, al_4, al_5, al_7, al_8, al_10, al_11, al_12, al_14, al_15, al_17, al_18, al_19, al_20, al_22, al_23, al_24, al_25, al_27, al_28, al_29, al_30, al_32, al_33, al_34, al_35, al_37, al_38, al_40, al_42, al_5001, al_5002, al_5003, al_5004, al_5005, al_5006, al_5007, al_5008, al_5009, al_5010, al_5011, al_5012, al_5013, al_5014, al_5015, al_5016, al_5017, al_5018, al_5019, al_5020, al_5021, al_5022, al_5023, al_5024, al_5025, al_5026, al_9000, al_101, al_102, al_104, al_105, al_107, al_108, al_110, al_111, vcs_e, lg_c0, lg_cs, lg_nil, set_c0, set_cs, okst_0, okst_s, acok_n, acok_c, List.contains_nil, List.contains_cons, Bool.or_false, Bool.false_or, Bool.false_eq_true, if_false, if_true, ite_self, ne_eq, true_and, and_true, not_false_eq_true, not_true_eq_false, false_imp_iff, true_imp_iff, Nat.ble_eq, Bool.and_eq_true, reduceCtorEq, or_false, false_or, or_true, true_or, false_and, and_false, and_self, Int.reduceLE, Int.reduceAdd, Int.reduceSub, Int.reduceMul, Int.reduceNeg, Int.reduceLT, Int.reduceEq, Int.reduceNe, Nat.reduceBEq, Nat.reduceBNe, Nat.reduceEqDiff, amCmp_in, amCmp_lt, amCmp_le, amCmp_gt, amCmp_ge, amCmp_eq, amCmp_ne, Nat.reduceLeDiff, Nat.reduceSub, Bool.and_true, Bool.true_and, Bool.and_self, Bool.or_true, Bool.true_or, isRf_3, isRf_4, isRf_5, isRf_8, isRf_9, isRf_10, isRf_11, isRf_15, isRf_16, isRf_17, isRf_18, isRf_19, isRf_20, isRf_21, isRf_22, isRf_23, isRf_24, isRf_25, isRf_26, isRf_27, isRf_28, k_X6_minutes_0, k_X6_minutes_1, k_X6_minutes_2, k_X6_minutes_3, k_X6_minutes_4, k_X6_minutes_7, w_X6_value_e]
  repeat' (first | assumption | apply And.intro | intro _)
  all_goals first | omega | exact h
def a_X6_feeling : AC := [(0, vAload 0 1), (1, vI 1 2), (2, vIload 1 3), (3, vIload 2 4), (4, vI 3 5), (5, vIrem 6), (6, vCallM w_X6_value 22 3 9), (9, vIret)]
theorem k_X6_feeling_0 : look a_X6_feeling 0 = vAload 0 1 := rfl
theorem k_X6_feeling_1 : look a_X6_feeling 1 = vI 1 2 := rfl
theorem k_X6_feeling_2 : look a_X6_feeling 2 = vIload 1 3 := rfl
theorem k_X6_feeling_3 : look a_X6_feeling 3 = vIload 2 4 := rfl
theorem k_X6_feeling_4 : look a_X6_feeling 4 = vI 3 5 := rfl
theorem k_X6_feeling_5 : look a_X6_feeling 5 = vIrem 6 := rfl
theorem k_X6_feeling_6 : look a_X6_feeling 6 = vCallM w_X6_value 22 3 9 := rfl
theorem k_X6_feeling_9 : look a_X6_feeling 9 = vIret := rfl
theorem o_X6_feeling {X : amX} (e1 : XT X = TT) (e2 : XD X = 2) (hB : amB X RX6 cX6_feeling (some .int) 3) : ∀ pc, amOK X pc (look a_X6_feeling pc) := by
  have hT : amTok (XT X) := e1 ▸ TT_ok
  refine look_ok ?_
  unfold a_X6_feeling
  refine fc (ok_aload_n hB dX6_feeling_0) ?_
  refine fc (ok_iconst hB dX6_feeling_1) ?_
  refine fc (ok_iload_n hB dX6_feeling_2) ?_
  refine fc (ok_iload_n hB dX6_feeling_3) ?_
  refine fc (ok_iconst hB dX6_feeling_4) ?_
  refine fc (ok_irem hB dX6_feeling_5) ?_
  refine fc (ok_callM hB hT (e1 ▸ s_X6_value) lk_X6_108 (by rw [e2]; decide) (c := 6) rfl rfl rfl wd_565 wd_566 dX6_feeling_6) ?_
  refine fc (ok_iret hB dX6_feeling_9) ?_
  exact fn

def w_X6_feeling : WP := fun av σ Q => ∃ (p : Int) (s : Int) (k : Int), av = [(22, p), (0, s), (0, k)] ∧ (isP p ∧ InR s ∧ 0 ≤ k ∧ k ≤ 2147483647 ∧ Q (0, pfeel σ p s k) σ)
theorem w_X6_feeling_e (p : Int) (s : Int) (k : Int) (σ : Mem) (Q : AV → Mem → Prop) : w_X6_feeling [(22, p), (0, s), (0, k)] σ Q = (isP p ∧ InR s ∧ 0 ≤ k ∧ k ≤ 2147483647 ∧ Q (0, pfeel σ p s k) σ) := by
  apply propext; constructor
  · rintro ⟨p', s', k', h9, hb9⟩; cases h9; exact hb9
  · intro hb9; exact ⟨p, s, k, rfl, hb9⟩

set_option maxRecDepth 100000 in
set_option maxHeartbeats 4000000 in
theorem s_X6_feeling : ∀ av σ Q, w_X6_feeling av σ Q → amCall 2 0 0 TT yX6_feeling cX6_feeling 3 (some .int) av σ Q := by
  rintro av σ Q ⟨p, s, k, rfl, hp, hs, hk0, hk1, h⟩
  have hpb := isP_b hp
  refine am_m0 (own := RX6) (A := look a_X6_feeling) (fun X e1 e2 hB => o_X6_feeling e1 e2 hB) rfl (by decide +kernel) rfl rfl 60 (w := 3) ?_
  change vcs _ _ _ _ 60 0 [(22, p), (0, s), (0, k)] [] σ
  simp only [vI_e, vL_e, vNull_e, vIload_e, vLload_e, vAload_e, vIstore_e, vLstore_e, vAstore_e, vIinc_e, vIadd_e, vIsub_e, vImul_e, vIand_e, vIor_e, vIxor_e, vIshl_e, vIshr_e, vIushr_e, vIdiv_e, vIrem_e, vLadd_e, vLsub_e, vLmul_e, vLand_e, vLor_e, vLxor_e, vLdiv_e, vLrem_e, vLushr_e, vLshl_e, vLcmp_e, vIneg_e, vI2l_e, vL2i_e, vI2b_e, vI2c_e, vDup_e, vPop_e, vDup2_e, vGoto_e, vIcEq_e, vIfEq_e, vIcNe_e, vIfNe_e, vIcLt_e, vIfLt_e, vIcGe_e, vIfGe_e, vIcGt_e, vIfGt_e, vIcLe_e, vIfLe_e, vNonnull_e, vSw_e, vGetI_e, vGetL_e, vGetR_e, vPutI_e, vPutZ_e, vPutL_e, vPutR_e, vIald_e, vIald_s, vLald_e, vBald_e, vBald_s, vAald_e, vIast_e, vLast_e, vBast_e, vAast_e, vAlen_e8, vAlen_e9, vAlen_e10, vAlen_e11, vAlen_e5, vAlen_e3, vGets_e, vCompact_e, vLdcS_e, vIret_e, vZret_e, vCret_e, vBret_e, vLret_e, vVret_e, vAret_e, vCallM_e0, vCallMV_e0, vCallS_e0, vCallSV_e0, vCallM_e1, vCallMV_e1, vCallS_e1, vCallSV_e1, vCallM_e2, vCallMV_e2, vCallS_e2, vCallSV_e2, vCallM_e3, vCallMV_e3, vCallS_e3, vCallSV_e3, vCallM_e4, vCallMV_e4, vCallS_e4, vCallSV_e4, vCallM_e5, vCallMV_e5, vCallS_e5, vCallSV_e5, vCallM_e6, vCallMV_e6, vCallS_e6, vCallSV_e6, vCallM_e7, vCallMV_e7, vCallS_e7, vCallSV_e7, vBad_e, vStrVal_e, vStrCod_e, vForm_e, vCallT_e0, vCallT_e1, vCallT_e2, vCopy_e, rf_0_0, rf_0_1, rf_0_2, rf_0_3, rf_0_4, rf_0_7, rf_0_10, rf_0_11, rf_0_12, rf_0_13, rf_0_14, rf_0_15, rf_0_16, rf_1_0, rf_3_0, rf_3_1, rf_6_0, rf_6_1, rf_9_0, rf_9_1, rf_9_3, rf_13_0, rf_13_1, rf_13_2, rf_16_0, rf_16_1, rf_16_2, rf_16_3, rf_21_0, rf_21_1, rf_21_2, rf_21_3, rf_26_0, rf_26_1, rf_26_2, rf_26_3, rf_26_4, rf_26_5, rf_26_6, rf_31_0, rf_31_2, rf_31_5, rf_31_6, rf_36_0, rf_36_1, rf_36_2, rf_36_3, rf_39_0, rf_39_1, rf_39_2, rf_41_0, rf_41_1, rf_41_2, rf_41_3, rf_5000_1, rf_5000_2, rf_5000_3, rf_5000_4, rf_5000_5, rf_5000_15, rf_5000_16, rf_5000_18, rf_5000_19, rf_5000_20, rf_5000_21, rf_5000_22, rf_5000_23, rf_5000_24, rf_5000_25, rf_5000_26, rf_5000_27, rf_5000_36, rf_5000_37, rf_5000_40, rf_5000_41, rf_5000_42, rf_5000_43, rf_5000_44, rf_5000_45, rf_5000_47, rf_5000_52, rf_5000_54, rf_5000_55, rf_100_0, rf_100_1, rf_103_0, rf_103_1, rf_106_0, rf_106_1, rf_109_0, rf_109_1, al_2, al_4, al_5, al_7, al_8, al_10, al_11, al_12, al_14, al_15, al_17, al_18, al_19, al_20, al_22, al_23, al_24, al_25, al_27, al_28, al_29, al_30, al_32, al_33, al_34, al_35, al_37, al_38, al_40, al_42, al_5001, al_5002, al_5003, al_5004, al_5005, al_5006, al_5007, al_5008, al_5009, al_5010, al_5011, al_5012, al_5013, al_5014, al_5015, al_5016, al_5017, al_5018, al_5019, al_5020, al_5021, al_5022, al_5023, al_5024, al_5025, al_5026, al_9000, al_101, al_102, al_104, al_105, al_107, al_108, al_110, al_111, vcs_e, lg_c0, lg_cs, lg_nil, set_c0, set_cs, okst_0, okst_s, acok_n, acok_c, List.contains_nil, List.contains_cons, Bool.or_false, Bool.false_or, Bool.false_eq_true, if_false, if_true, ite_self, ne_eq, true_and, and_true, not_false_eq_true, not_true_eq_false, false_imp_iff, true_imp_iff, Nat.ble_eq, Bool.and_eq_true, reduceCtorEq, or_false, false_or, or_true, true_or, false_and, and_false, and_self, Int.reduceLE, Int.reduceAdd, Int.reduceSub, Int.reduceMul, Int.reduceNeg, Int.reduceLT, Int.reduceEq, Int.reduceNe, Nat.reduceBEq, Nat.reduceBNe, Nat.reduceEqDiff, amCmp_in, amCmp_lt, amCmp_le, amCmp_gt, amCmp_ge, amCmp_eq, amCmp_ne, Nat.reduceLeDiff, Nat.reduceSub, Bool.and_true, Bool.true_and, Bool.and_self, Bool.or_true, Bool.true_or, isRf_3, isRf_4, isRf_5, isRf_8, isRf_9, isRf_10, isRf_11, isRf_15, isRf_16, isRf_17, isRf_18, isRf_19, isRf_20, isRf_21, isRf_22, isRf_23, isRf_24, isRf_25, isRf_26, isRf_27, isRf_28, k_X6_feeling_0, k_X6_feeling_1, k_X6_feeling_2, k_X6_feeling_3, k_X6_feeling_4, k_X6_feeling_5, k_X6_feeling_6, k_X6_feeling_9, w_X6_value_e]
  rw [(fd_pos hk0 (show (0 : Int) < 3 by decide)).2]
  repeat' (first | assumption | apply And.intro | intro _)
  all_goals first | omega | exact h
theorem wd_1173 : Cond.methodLink RX6 117 yX6_minutes ∈ TBL := tb_tab (List.mem_of_getElem? (i := 1173) (by decide +kernel)) rfl
theorem wd_801 : Cond.code yX6_minutes cX6_minutes 2 (some .int) ∈ TBL := tb_tab (List.mem_of_getElem? (i := 801) (by decide +kernel)) rfl
theorem lk_X6_117 : amLk RX6 117 yX6_minutes cX6_minutes 2 (some .int) 1 := ⟨wd_1173, wd_3, wd_801, by decide +kernel, by decide +kernel, by decide⟩
theorem wd_799 : Cond.instanceMethod yX6_minutes ∈ TBL := tb_tab (List.mem_of_getElem? (i := 799) (by decide +kernel)) rfl
theorem wd_800 : Cond.selects RX6 yX6_minutes yX6_minutes ∈ TBL := tb_tab (List.mem_of_getElem? (i := 800) (by decide +kernel)) rfl
theorem wd_1174 : Cond.methodLink RX6 120 yX6_feeling ∈ TBL := tb_tab (List.mem_of_getElem? (i := 1174) (by decide +kernel)) rfl
theorem wd_1177 : Cond.code yX6_feeling cX6_feeling 3 (some .int) ∈ TBL := tb_tab (List.mem_of_getElem? (i := 1177) (by decide +kernel)) rfl
theorem lk_X6_120 : amLk RX6 120 yX6_feeling cX6_feeling 3 (some .int) 2 := ⟨wd_1174, wd_3, wd_1177, by decide +kernel, by decide +kernel, by decide⟩
theorem wd_1176 : Cond.instanceMethod yX6_feeling ∈ TBL := tb_tab (List.mem_of_getElem? (i := 1176) (by decide +kernel)) rfl
theorem sl_X6_feeling : Cond.selects RX6 yX6_feeling yX6_feeling ∈ TBL := tb_sel (List.mem_of_getElem? (i := 43) (by decide +kernel)) rfl
def a_X6_allFeeling : AC := [(0, vI 0 1), (1, vIstore 2 2), (2, vI 0 3), (3, vIstore 3 4), (4, vIload 3 5), (5, vAload 0 6), (6, vIload 1 7), (7, vCallM w_X6_minutes 22 1 10), (10, vIcGe 28 13), (13, vIload 2 14), (14, vAload 0 15), (15, vIload 1 16), (16, vIload 3 17), (17, vCallM w_X6_feeling 22 2 20), (20, vIadd 21), (21, vIstore 2 22), (22, vIinc 3 1 25), (25, vGoto 4), (28, vIload 2 29), (29, vIret)]
theorem k_X6_allFeeling_0 : look a_X6_allFeeling 0 = vI 0 1 := rfl
theorem k_X6_allFeeling_1 : look a_X6_allFeeling 1 = vIstore 2 2 := rfl
theorem k_X6_allFeeling_2 : look a_X6_allFeeling 2 = vI 0 3 := rfl
theorem k_X6_allFeeling_3 : look a_X6_allFeeling 3 = vIstore 3 4 := rfl
theorem k_X6_allFeeling_4 : look a_X6_allFeeling 4 = vIload 3 5 := rfl
theorem k_X6_allFeeling_5 : look a_X6_allFeeling 5 = vAload 0 6 := rfl
theorem k_X6_allFeeling_6 : look a_X6_allFeeling 6 = vIload 1 7 := rfl
theorem k_X6_allFeeling_7 : look a_X6_allFeeling 7 = vCallM w_X6_minutes 22 1 10 := rfl
theorem k_X6_allFeeling_10 : look a_X6_allFeeling 10 = vIcGe 28 13 := rfl
theorem k_X6_allFeeling_13 : look a_X6_allFeeling 13 = vIload 2 14 := rfl
theorem k_X6_allFeeling_14 : look a_X6_allFeeling 14 = vAload 0 15 := rfl
theorem k_X6_allFeeling_15 : look a_X6_allFeeling 15 = vIload 1 16 := rfl
theorem k_X6_allFeeling_16 : look a_X6_allFeeling 16 = vIload 3 17 := rfl
theorem k_X6_allFeeling_17 : look a_X6_allFeeling 17 = vCallM w_X6_feeling 22 2 20 := rfl
theorem k_X6_allFeeling_20 : look a_X6_allFeeling 20 = vIadd 21 := rfl
theorem k_X6_allFeeling_21 : look a_X6_allFeeling 21 = vIstore 2 22 := rfl
theorem k_X6_allFeeling_22 : look a_X6_allFeeling 22 = vIinc 3 1 25 := rfl
theorem k_X6_allFeeling_25 : look a_X6_allFeeling 25 = vGoto 4 := rfl
theorem k_X6_allFeeling_28 : look a_X6_allFeeling 28 = vIload 2 29 := rfl
theorem k_X6_allFeeling_29 : look a_X6_allFeeling 29 = vIret := rfl
theorem o_X6_allFeeling {X : amX} (e1 : XT X = TT) (e2 : XD X = 3) (hB : amB X RX6 cX6_allFeeling (some .int) 4) : ∀ pc, amOK X pc (look a_X6_allFeeling pc) := by
  have hT : amTok (XT X) := e1 ▸ TT_ok
  refine look_ok ?_
  unfold a_X6_allFeeling
  refine fc (ok_iconst hB dX6_allFeeling_0) ?_
  refine fc (ok_istore_n hB (by decide) dX6_allFeeling_1) ?_
  refine fc (ok_iconst hB dX6_allFeeling_2) ?_
  refine fc (ok_istore_n hB (by decide) dX6_allFeeling_3) ?_
  refine fc (ok_iload_n hB dX6_allFeeling_4) ?_
  refine fc (ok_aload_n hB dX6_allFeeling_5) ?_
  refine fc (ok_iload_n hB dX6_allFeeling_6) ?_
  refine fc (ok_callM hB hT (e1 ▸ s_X6_minutes) lk_X6_117 (by rw [e2]; decide) (c := 6) rfl rfl rfl wd_799 wd_800 dX6_allFeeling_7) ?_
  refine fc (ok_icmp_ge hB (t := 28) (by decide) dX6_allFeeling_10) ?_
  refine fc (ok_iload_n hB dX6_allFeeling_13) ?_
  refine fc (ok_aload_n hB dX6_allFeeling_14) ?_
  refine fc (ok_iload_n hB dX6_allFeeling_15) ?_
  refine fc (ok_iload_n hB dX6_allFeeling_16) ?_
  refine fc (ok_callM hB hT (e1 ▸ s_X6_feeling) lk_X6_120 (by rw [e2]; decide) (c := 6) rfl rfl rfl wd_1176 sl_X6_feeling dX6_allFeeling_17) ?_
  refine fc (ok_iadd hB dX6_allFeeling_20) ?_
  refine fc (ok_istore_n hB (by decide) dX6_allFeeling_21) ?_
  refine fc (ok_iinc hB (by decide) dX6_allFeeling_22) ?_
  refine fc (ok_goto hB (t := 4) (by decide) dX6_allFeeling_25) ?_
  refine fc (ok_iload_n hB dX6_allFeeling_28) ?_
  refine fc (ok_iret hB dX6_allFeeling_29) ?_
  exact fn
def inv_allFeeling (p s : Int) (σ : Mem) (n pc : Nat) (ls st : List AV) (σ' : Mem) : Prop := pc = 4 ∧ st = [] ∧ σ' = σ ∧ ∃ k : Nat, ls = [(22, p), (0, s), (0, fsum (pfeel σ p s) k), (0, k)] ∧ (k : Int) + n = pmin σ p s
def w_X6_allFeeling : WP := fun av σ Q => ∃ (p : Int) (s : Int), av = [(22, p), (0, s)] ∧ (isP p ∧ planB σ p ∧ InR s ∧ Q (0, fsum (pfeel σ p s) (pmin σ p s).toNat) σ)
theorem w_X6_allFeeling_e (p : Int) (s : Int) (σ : Mem) (Q : AV → Mem → Prop) : w_X6_allFeeling [(22, p), (0, s)] σ Q = (isP p ∧ planB σ p ∧ InR s ∧ Q (0, fsum (pfeel σ p s) (pmin σ p s).toNat) σ) := by
  apply propext; constructor
  · rintro ⟨p', s', h9, hb9⟩; cases h9; exact hb9
  · intro hb9; exact ⟨p, s, rfl, hb9⟩

set_option maxRecDepth 100000 in
set_option maxHeartbeats 4000000 in
theorem s_X6_allFeeling : ∀ av σ Q, w_X6_allFeeling av σ Q → amCall 3 0 0 TT yX6_allFeeling cX6_allFeeling 4 (some .int) av σ Q := by
  rintro av σ Q ⟨p, s, rfl, hp, hB, hs, h⟩
  have hpb := isP_b hp
  have hm := pmin_b hB s
  refine am_m [4] (inv_allFeeling p s σ) (own := RX6) (A := look a_X6_allFeeling) (fun X e1 e2 hB => o_X6_allFeeling e1 e2 hB) rfl (by decide +kernel) rfl rfl ?_ ⟨60, ?_⟩ (w := 4)
  · rintro n pc ls st σ' ⟨rfl, rfl, rfl, k, rfl, hk⟩
    have hf := pfeel_b hB s k
    refine ⟨60, ?_⟩
    simp only [vI_e, vL_e, vNull_e, vIload_e, vLload_e, vAload_e, vIstore_e, vLstore_e, vAstore_e, vIinc_e, vIadd_e, vIsub_e, vImul_e, vIand_e, vIor_e, vIxor_e, vIshl_e, vIshr_e, vIushr_e, vIdiv_e, vIrem_e, vLadd_e, vLsub_e, vLmul_e, vLand_e, vLor_e, vLxor_e, vLdiv_e, vLrem_e, vLushr_e, vLshl_e, vLcmp_e, vIneg_e, vI2l_e, vL2i_e, vI2b_e, vI2c_e, vDup_e, vPop_e, vDup2_e, vGoto_e, vIcEq_e, vIfEq_e, vIcNe_e, vIfNe_e, vIcLt_e, vIfLt_e, vIcGe_e, vIfGe_e, vIcGt_e, vIfGt_e, vIcLe_e, vIfLe_e, vNonnull_e, vSw_e, vGetI_e, vGetL_e, vGetR_e, vPutI_e, vPutZ_e, vPutL_e, vPutR_e, vIald_e, vIald_s, vLald_e, vBald_e, vBald_s, vAald_e, vIast_e, vLast_e, vBast_e, vAast_e, vAlen_e8, vAlen_e9, vAlen_e10, vAlen_e11, vAlen_e5, vAlen_e3, vGets_e, vCompact_e, vLdcS_e, vIret_e, vZret_e, vCret_e, vBret_e, vLret_e, vVret_e, vAret_e, vCallM_e0, vCallMV_e0, vCallS_e0, vCallSV_e0, vCallM_e1, vCallMV_e1, vCallS_e1, vCallSV_e1, vCallM_e2, vCallMV_e2, vCallS_e2, vCallSV_e2, vCallM_e3, vCallMV_e3, vCallS_e3, vCallSV_e3, vCallM_e4, vCallMV_e4, vCallS_e4, vCallSV_e4, vCallM_e5, vCallMV_e5, vCallS_e5, vCallSV_e5, vCallM_e6, vCallMV_e6, vCallS_e6, vCallSV_e6, vCallM_e7, vCallMV_e7, vCallS_e7, vCallSV_e7, vBad_e, vStrVal_e, vStrCod_e, vForm_e, vCallT_e0, vCallT_e1, vCallT_e2, vCopy_e, rf_0_0, rf_0_1, rf_0_2, rf_0_3, rf_0_4, rf_0_7, rf_0_10, rf_0_11, rf_0_12, rf_0_13, rf_0_14, rf_0_15, rf_0_16, rf_1_0, rf_3_0, rf_3_1, rf_6_0, rf_6_1, rf_9_0, rf_9_1, rf_9_3, rf_13_0, rf_13_1, rf_13_2, rf_16_0, rf_16_1, rf_16_2, rf_16_3, rf_21_0, rf_21_1, rf_21_2, rf_21_3, rf_26_0, rf_26_1, rf_26_2, rf_26_3, rf_26_4, rf_26_5, rf_26_6, rf_31_0, rf_31_2, rf_31_5, rf_31_6, rf_36_0, rf_36_1, rf_36_2, rf_36_3, rf_39_0, rf_39_1, rf_39_2, rf_41_0, rf_41_1, rf_41_2, rf_41_3, rf_5000_1, rf_5000_2, rf_5000_3, rf_5000_4, rf_5000_5, rf_5000_15, rf_5000_16, rf_5000_18, rf_5000_19, rf_5000_20, rf_5000_21, rf_5000_22, rf_5000_23, rf_5000_24, rf_5000_25, rf_5000_26, rf_5000_27, rf_5000_36, rf_5000_37, rf_5000_40, rf_5000_41, rf_5000_42, rf_5000_43, rf_5000_44, rf_5000_45, rf_5000_47, rf_5000_52, rf_5000_54, rf_5000_55, rf_100_0, rf_100_1, rf_103_0, rf_103_1, rf_106_0, rf_106_1, rf_109_0, rf_109_1, al_2, al_4, al_5, al_7, al_8, al_10, al_11, al_12, al_14, al_15, al_17, al_18, al_19, al_20, al_22, al_23, al_24, al_25, al_27, al_28, al_29, al_30, al_32, al_33, al_34, al_35, al_37, al_38, al_40, al_42, al_5001, al_5002, al_5003, al_5004, al_5005, al_5006, al_5007, al_5008, al_5009, al_5010, al_5011, al_5012, al_5013, al_5014, al_5015, al_5016, al_5017, al_5018, al_5019, al_5020, al_5021, al_5022, al_5023, al_5024, al_5025, al_5026, al_9000, al_101, al_102, al_104, al_105, al_107, al_108, al_110, al_111, vcs_e, lg_c0, lg_cs, lg_nil, set_c0, set_cs, okst_0, okst_s, acok_n, acok_c, List.contains_nil, List.contains_cons, Bool.or_false, Bool.false_or, Bool.false_eq_true, if_false, if_true, ite_self, ne_eq, true_and, and_true, not_false_eq_true, not_true_eq_false, false_imp_iff, true_imp_iff, Nat.ble_eq, Bool.and_eq_true, reduceCtorEq, or_false, false_or, or_true, true_or, false_and, and_false, and_self, Int.reduceLE, Int.reduceAdd, Int.reduceSub, Int.reduceMul, Int.reduceNeg, Int.reduceLT, Int.reduceEq, Int.reduceNe, Nat.reduceBEq, Nat.reduceBNe, Nat.reduceEqDiff, amCmp_in, amCmp_lt, amCmp_le, amCmp_gt, amCmp_ge, amCmp_eq, amCmp_ne, Nat.reduceLeDiff, Nat.reduceSub, Bool.and_true, Bool.true_and, Bool.and_self, Bool.or_true, Bool.true_or, isRf_3, isRf_4, isRf_5, isRf_8, isRf_9, isRf_10, isRf_11, isRf_15, isRf_16, isRf_17, isRf_18, isRf_19, isRf_20, isRf_21, isRf_22, isRf_23, isRf_24, isRf_25, isRf_26, isRf_27, isRf_28, k_X6_allFeeling_0, k_X6_allFeeling_1, k_X6_allFeeling_2, k_X6_allFeeling_3, k_X6_allFeeling_4, k_X6_allFeeling_5, k_X6_allFeeling_6, k_X6_allFeeling_7, k_X6_allFeeling_10, k_X6_allFeeling_13, k_X6_allFeeling_14, k_X6_allFeeling_15, k_X6_allFeeling_16, k_X6_allFeeling_17, k_X6_allFeeling_20, k_X6_allFeeling_21, k_X6_allFeeling_22, k_X6_allFeeling_25, k_X6_allFeeling_28, k_X6_allFeeling_29, w_X6_feeling_e, w_X6_minutes_e]
    repeat' (first | assumption | apply And.intro | intro _)
    all_goals first | omega | (rw [show k = (pmin σ' p s).toNat by omega]; exact h) | exact ⟨n - 1, by omega, rfl, rfl, rfl, k + 1, by rw [Int.natCast_add]; rfl, by omega⟩
  · change vcs _ _ _ _ 60 0 [(22, p), (0, s), (6, 0), (6, 0)] [] σ
    simp only [vI_e, vL_e, vNull_e, vIload_e, vLload_e, vAload_e, vIstore_e, vLstore_e, vAstore_e, vIinc_e, vIadd_e, vIsub_e, vImul_e, vIand_e, vIor_e, vIxor_e, vIshl_e, vIshr_e, vIushr_e, vIdiv_e, vIrem_e, vLadd_e, vLsub_e, vLmul_e, vLand_e, vLor_e, vLxor_e, vLdiv_e, vLrem_e, vLushr_e, vLshl_e, vLcmp_e, vIneg_e, vI2l_e, vL2i_e, vI2b_e, vI2c_e, vDup_e, vPop_e, vDup2_e, vGoto_e, vIcEq_e, vIfEq_e, vIcNe_e, vIfNe_e, vIcLt_e, vIfLt_e, vIcGe_e, vIfGe_e, vIcGt_e, vIfGt_e, vIcLe_e, vIfLe_e, vNonnull_e, vSw_e, vGetI_e, vGetL_e, vGetR_e, vPutI_e, vPutZ_e, vPutL_e, vPutR_e, vIald_e, vIald_s, vLald_e, vBald_e, vBald_s, vAald_e, vIast_e, vLast_e, vBast_e, vAast_e, vAlen_e8, vAlen_e9, vAlen_e10, vAlen_e11, vAlen_e5, vAlen_e3, vGets_e, vCompact_e, vLdcS_e, vIret_e, vZret_e, vCret_e, vBret_e, vLret_e, vVret_e, vAret_e, vCallM_e0, vCallMV_e0, vCallS_e0, vCallSV_e0, vCallM_e1, vCallMV_e1, vCallS_e1, vCallSV_e1, vCallM_e2, vCallMV_e2, vCallS_e2, vCallSV_e2, vCallM_e3, vCallMV_e3, vCallS_e3, vCallSV_e3, vCallM_e4, vCallMV_e4, vCallS_e4, vCallSV_e4, vCallM_e5, vCallMV_e5, vCallS_e5, vCallSV_e5, vCallM_e6, vCallMV_e6, vCallS_e6, vCallSV_e6, vCallM_e7, vCallMV_e7, vCallS_e7, vCallSV_e7, vBad_e, vStrVal_e, vStrCod_e, vForm_e, vCallT_e0, vCallT_e1, vCallT_e2, vCopy_e, rf_0_0, rf_0_1, rf_0_2, rf_0_3, rf_0_4, rf_0_7, rf_0_10, rf_0_11, rf_0_12, rf_0_13, rf_0_14, rf_0_15, rf_0_16, rf_1_0, rf_3_0, rf_3_1, rf_6_0, rf_6_1, rf_9_0, rf_9_1, rf_9_3, rf_13_0, rf_13_1, rf_13_2, rf_16_0, rf_16_1, rf_16_2, rf_16_3, rf_21_0, rf_21_1, rf_21_2, rf_21_3, rf_26_0, rf_26_1, rf_26_2, rf_26_3, rf_26_4, rf_26_5, rf_26_6, rf_31_0, rf_31_2, rf_31_5, rf_31_6, rf_36_0, rf_36_1, rf_36_2, rf_36_3, rf_39_0, rf_39_1, rf_39_2, rf_41_0, rf_41_1, rf_41_2, rf_41_3, rf_5000_1, rf_5000_2, rf_5000_3, rf_5000_4, rf_5000_5, rf_5000_15, rf_5000_16, rf_5000_18, rf_5000_19, rf_5000_20, rf_5000_21, rf_5000_22, rf_5000_23, rf_5000_24, rf_5000_25, rf_5000_26, rf_5000_27, rf_5000_36, rf_5000_37, rf_5000_40, rf_5000_41, rf_5000_42, rf_5000_43, rf_5000_44, rf_5000_45, rf_5000_47, rf_5000_52, rf_5000_54, rf_5000_55, rf_100_0, rf_100_1, rf_103_0, rf_103_1, rf_106_0, rf_106_1, rf_109_0, rf_109_1, al_2, al_4, al_5, al_7, al_8, al_10, al_11, al_12, al_14, al_15, al_17, al_18, al_19, al_20, al_22, al_23, al_24, al_25, al_27, al_28, al_29, al_30, al_32, al_33, al_34, al_35, al_37, al_38, al_40, al_42, al_5001, al_5002, al_5003, al_5004, al_5005, al_5006, al_5007, al_5008, al_5009, al_5010, al_5011, al_5012, al_5013, al_5014, al_5015, al_5016, al_5017, al_5018, al_5019, al_5020, al_5021, al_5022, al_5023, al_5024, al_5025, al_5026, al_9000, al_101, al_102, al_104, al_105, al_107, al_108, al_110, al_111, vcs_e, lg_c0, lg_cs, lg_nil, set_c0, set_cs, okst_0, okst_s, acok_n, acok_c, List.contains_nil, List.contains_cons, Bool.or_false, Bool.false_or, Bool.false_eq_true, if_false, if_true, ite_self, ne_eq, true_and, and_true, not_false_eq_true, not_true_eq_false, false_imp_iff, true_imp_iff, Nat.ble_eq, Bool.and_eq_true, reduceCtorEq, or_false, false_or, or_true, true_or, false_and, and_false, and_self, Int.reduceLE, Int.reduceAdd, Int.reduceSub, Int.reduceMul, Int.reduceNeg, Int.reduceLT, Int.reduceEq, Int.reduceNe, Nat.reduceBEq, Nat.reduceBNe, Nat.reduceEqDiff, amCmp_in, amCmp_lt, amCmp_le, amCmp_gt, amCmp_ge, amCmp_eq, amCmp_ne, Nat.reduceLeDiff, Nat.reduceSub, Bool.and_true, Bool.true_and, Bool.and_self, Bool.or_true, Bool.true_or, isRf_3, isRf_4, isRf_5, isRf_8, isRf_9, isRf_10, isRf_11, isRf_15, isRf_16, isRf_17, isRf_18, isRf_19, isRf_20, isRf_21, isRf_22, isRf_23, isRf_24, isRf_25, isRf_26, isRf_27, isRf_28, k_X6_allFeeling_0, k_X6_allFeeling_1, k_X6_allFeeling_2, k_X6_allFeeling_3, k_X6_allFeeling_4, k_X6_allFeeling_5, k_X6_allFeeling_6, k_X6_allFeeling_7, k_X6_allFeeling_10, k_X6_allFeeling_13, k_X6_allFeeling_14, k_X6_allFeeling_15, k_X6_allFeeling_16, k_X6_allFeeling_17, k_X6_allFeeling_20, k_X6_allFeeling_21, k_X6_allFeeling_22, k_X6_allFeeling_25, k_X6_allFeeling_28, k_X6_allFeeling_29]
    exact ⟨(pmin σ p s).toNat, rfl, rfl, rfl, 0, rfl, by omega⟩
def a_X6_strongestMinute : AC := [(0, vI 0 1), (1, vIstore 2 2), (2, vI 1 3), (3, vIstore 3 4), (4, vIload 3 5), (5, vAload 0 6), (6, vIload 1 7), (7, vCallM w_X6_minutes 22 1 10), (10, vIcGe 36 13), (13, vAload 0 14), (14, vIload 1 15), (15, vIload 3 16), (16, vCallM w_X6_feeling 22 2 19), (19, vAload 0 20), (20, vIload 1 21), (21, vIload 2 22), (22, vCallM w_X6_feeling 22 2 25), (25, vIcLe 30 28), (28, vIload 3 29), (29, vIstore 2 30), (30, vIinc 3 1 33), (33, vGoto 4), (36, vIload 2 37), (37, vIret)]
theorem k_X6_strongestMinute_0 : look a_X6_strongestMinute 0 = vI 0 1 := rfl
theorem k_X6_strongestMinute_1 : look a_X6_strongestMinute 1 = vIstore 2 2 := rfl
theorem k_X6_strongestMinute_2 : look a_X6_strongestMinute 2 = vI 1 3 := rfl
theorem k_X6_strongestMinute_3 : look a_X6_strongestMinute 3 = vIstore 3 4 := rfl
theorem k_X6_strongestMinute_4 : look a_X6_strongestMinute 4 = vIload 3 5 := rfl
theorem k_X6_strongestMinute_5 : look a_X6_strongestMinute 5 = vAload 0 6 := rfl
theorem k_X6_strongestMinute_6 : look a_X6_strongestMinute 6 = vIload 1 7 := rfl
theorem k_X6_strongestMinute_7 : look a_X6_strongestMinute 7 = vCallM w_X6_minutes 22 1 10 := rfl
theorem k_X6_strongestMinute_10 : look a_X6_strongestMinute 10 = vIcGe 36 13 := rfl
theorem k_X6_strongestMinute_13 : look a_X6_strongestMinute 13 = vAload 0 14 := rfl
theorem k_X6_strongestMinute_14 : look a_X6_strongestMinute 14 = vIload 1 15 := rfl
theorem k_X6_strongestMinute_15 : look a_X6_strongestMinute 15 = vIload 3 16 := rfl
theorem k_X6_strongestMinute_16 : look a_X6_strongestMinute 16 = vCallM w_X6_feeling 22 2 19 := rfl
theorem k_X6_strongestMinute_19 : look a_X6_strongestMinute 19 = vAload 0 20 := rfl
theorem k_X6_strongestMinute_20 : look a_X6_strongestMinute 20 = vIload 1 21 := rfl
theorem k_X6_strongestMinute_21 : look a_X6_strongestMinute 21 = vIload 2 22 := rfl
theorem k_X6_strongestMinute_22 : look a_X6_strongestMinute 22 = vCallM w_X6_feeling 22 2 25 := rfl
theorem k_X6_strongestMinute_25 : look a_X6_strongestMinute 25 = vIcLe 30 28 := rfl
theorem k_X6_strongestMinute_28 : look a_X6_strongestMinute 28 = vIload 3 29 := rfl
theorem k_X6_strongestMinute_29 : look a_X6_strongestMinute 29 = vIstore 2 30 := rfl
theorem k_X6_strongestMinute_30 : look a_X6_strongestMinute 30 = vIinc 3 1 33 := rfl
theorem k_X6_strongestMinute_33 : look a_X6_strongestMinute 33 = vGoto 4 := rfl
theorem k_X6_strongestMinute_36 : look a_X6_strongestMinute 36 = vIload 2 37 := rfl
theorem k_X6_strongestMinute_37 : look a_X6_strongestMinute 37 = vIret := rfl
theorem o_X6_strongestMinute {X : amX} (e1 : XT X = TT) (e2 : XD X = 3) (hB : amB X RX6 cX6_strongestMinute (some .int) 4) : ∀ pc, amOK X pc (look a_X6_strongestMinute pc) := by
  have hT : amTok (XT X) := e1 ▸ TT_ok
  refine look_ok ?_
  unfold a_X6_strongestMinute
  refine fc (ok_iconst hB dX6_strongestMinute_0) ?_
  refine fc (ok_istore_n hB (by decide) dX6_strongestMinute_1) ?_
  refine fc (ok_iconst hB dX6_strongestMinute_2) ?_
  refine fc (ok_istore_n hB (by decide) dX6_strongestMinute_3) ?_
  refine fc (ok_iload_n hB dX6_strongestMinute_4) ?_
  refine fc (ok_aload_n hB dX6_strongestMinute_5) ?_
  refine fc (ok_iload_n hB dX6_strongestMinute_6) ?_
  refine fc (ok_callM hB hT (e1 ▸ s_X6_minutes) lk_X6_117 (by rw [e2]; decide) (c := 6) rfl rfl rfl wd_799 wd_800 dX6_strongestMinute_7) ?_
  refine fc (ok_icmp_ge hB (t := 36) (by decide) dX6_strongestMinute_10) ?_
  refine fc (ok_aload_n hB dX6_strongestMinute_13) ?_
  refine fc (ok_iload_n hB dX6_strongestMinute_14) ?_
  refine fc (ok_iload_n hB dX6_strongestMinute_15) ?_
  refine fc (ok_callM hB hT (e1 ▸ s_X6_feeling) lk_X6_120 (by rw [e2]; decide) (c := 6) rfl rfl rfl wd_1176 sl_X6_feeling dX6_strongestMinute_16) ?_
  refine fc (ok_aload_n hB dX6_strongestMinute_19) ?_
  refine fc (ok_iload_n hB dX6_strongestMinute_20) ?_
  refine fc (ok_iload_n hB dX6_strongestMinute_21) ?_
  refine fc (ok_callM hB hT (e1 ▸ s_X6_feeling) lk_X6_120 (by rw [e2]; decide) (c := 6) rfl rfl rfl wd_1176 sl_X6_feeling dX6_strongestMinute_22) ?_
  refine fc (ok_icmp_le hB (t := 30) (by decide) dX6_strongestMinute_25) ?_
  refine fc (ok_iload_n hB dX6_strongestMinute_28) ?_
  refine fc (ok_istore_n hB (by decide) dX6_strongestMinute_29) ?_
  refine fc (ok_iinc hB (by decide) dX6_strongestMinute_30) ?_
  refine fc (ok_goto hB (t := 4) (by decide) dX6_strongestMinute_33) ?_
  refine fc (ok_iload_n hB dX6_strongestMinute_36) ?_
  refine fc (ok_iret hB dX6_strongestMinute_37) ?_
  exact fn
def inv_strongest (p s : Int) (σ : Mem) (n pc : Nat) (ls st : List AV) (σ' : Mem) : Prop := pc = 4 ∧ st = [] ∧ σ' = σ ∧ ∃ k : Nat, ls = [(22, p), (0, s), (0, fbest (pfeel σ p s) k), (0, k)] ∧ 1 ≤ k ∧ ((k : Int) + n = pmin σ p s ∨ (n = 0 ∧ k = 1 ∧ pmin σ p s ≤ 1))
def w_X6_strongestMinute : WP := fun av σ Q => ∃ (p : Int) (s : Int), av = [(22, p), (0, s)] ∧ (isP p ∧ planB σ p ∧ InR s ∧ Q (0, fbest (pfeel σ p s) (pmin σ p s).toNat) σ)
theorem w_X6_strongestMinute_e (p : Int) (s : Int) (σ : Mem) (Q : AV → Mem → Prop) : w_X6_strongestMinute [(22, p), (0, s)] σ Q = (isP p ∧ planB σ p ∧ InR s ∧ Q (0, fbest (pfeel σ p s) (pmin σ p s).toNat) σ) := by
  apply propext; constructor
  · rintro ⟨p', s', h9, hb9⟩; cases h9; exact hb9
  · intro hb9; exact ⟨p, s, rfl, hb9⟩
theorem fbest_1 (f : Int → Int) : fbest f 1 = 0 := by unfold fbest fbest; simp
set_option maxRecDepth 100000 in
set_option maxHeartbeats 4000000 in
theorem s_X6_strongestMinute : ∀ av σ Q, w_X6_strongestMinute av σ Q → amCall 3 0 0 TT yX6_strongestMinute cX6_strongestMinute 4 (some .int) av σ Q := by
  rintro av σ Q ⟨p, s, rfl, hp, hB, hs, h⟩
  have hpb := isP_b hp
  have hm := pmin_b hB s
  refine am_m [4] (inv_strongest p s σ) (own := RX6) (A := look a_X6_strongestMinute) (fun X e1 e2 hB => o_X6_strongestMinute e1 e2 hB) rfl (by decide +kernel) rfl rfl ?_ ⟨60, ?_⟩ (w := 4)
  · rintro n pc ls st σ' ⟨rfl, rfl, rfl, k, rfl, hk1, hk⟩
    have hf := pfeel_b hB s k
    have hf2 := pfeel_b hB s (fbest (pfeel σ' p s) k)
    have hbb := fbest_b (pfeel σ' p s) k
    refine ⟨60, ?_⟩
    have hend : (pmin σ' p s ≤ k) → Q (0, fbest (pfeel σ' p s) k) σ' := by
      intro hle
      rcases hk with hk | ⟨h1, h2, h3⟩
      · rw [show k = (pmin σ' p s).toNat by omega]; exact h
      · subst h2
        rw [fbest_1]
        have : (pmin σ' p s).toNat = 0 ∨ (pmin σ' p s).toNat = 1 := by omega
        rcases this with e | e
        · rw [e] at h; exact h
        · rw [e, fbest_1] at h; exact h
    have hstep : ∀ b, b = fbest (pfeel σ' p s) (k + 1) → (k : Int) < pmin σ' p s → ∃ m, m < n ∧ inv_strongest p s σ' m 4 [(22, p), (0, s), (0, b), (0, (k : Int) + 1)] [] σ' := by
      intro b hb hlt
      exact ⟨n - 1, by omega, rfl, rfl, rfl, k + 1, by rw [hb, Int.natCast_add]; rfl, by omega, by omega⟩
    simp only [vI_e, vL_e, vNull_e, vIload_e, vLload_e, vAload_e, vIstore_e, vLstore_e, vAstore_e, vIinc_e, vIadd_e, vIsub_e, vImul_e, vIand_e, vIor_e, vIxor_e, vIshl_e, vIshr_e, vIushr_e, vIdiv_e, vIrem_e, vLadd_e, vLsub_e, vLmul_e, vLand_e, vLor_e, vLxor_e, vLdiv_e, vLrem_e, vLushr_e, vLshl_e, vLcmp_e, vIneg_e, vI2l_e, vL2i_e, vI2b_e, vI2c_e, vDup_e, vPop_e, vDup2_e, vGoto_e, vIcEq_e, vIfEq_e, vIcNe_e, vIfNe_e, vIcLt_e, vIfLt_e, vIcGe_e, vIfGe_e, vIcGt_e, vIfGt_e, vIcLe_e, vIfLe_e, vNonnull_e, vSw_e, vGetI_e, vGetL_e, vGetR_e, vPutI_e, vPutZ_e, vPutL_e, vPutR_e, vIald_e, vIald_s, vLald_e, vBald_e, vBald_s, vAald_e, vIast_e, vLast_e, vBast_e, vAast_e, vAlen_e8, vAlen_e9, vAlen_e10, vAlen_e11, vAlen_e5, vAlen_e3, vGets_e, vCompact_e, vLdcS_e, vIret_e, vZret_e, vCret_e, vBret_e, vLret_e, vVret_e, vAret_e, vCallM_e0, vCallMV_e0, vCallS_e0, vCallSV_e0, vCallM_e1, vCallMV_e1, vCallS_e1, vCallSV_e1, vCallM_e2, vCallMV_e2, vCallS_e2, vCallSV_e2, vCallM_e3, vCallMV_e3, vCallS_e3, vCallSV_e3, vCallM_e4, vCallMV_e4, vCallS_e4, vCallSV_e4, vCallM_e5, vCallMV_e5, vCallS_e5, vCallSV_e5, vCallM_e6, vCallMV_e6, vCallS_e6, vCallSV_e6, vCallM_e7, vCallMV_e7, vCallS_e7, vCallSV_e7, vBad_e, vStrVal_e, vStrCod_e, vForm_e, vCallT_e0, vCallT_e1, vCallT_e2, vCopy_e, rf_0_0, rf_0_1, rf_0_2, rf_0_3, rf_0_4, rf_0_7, rf_0_10, rf_0_11, rf_0_12, rf_0_13, rf_0_14, rf_0_15, rf_0_16, rf_1_0, rf_3_0, rf_3_1, rf_6_0, rf_6_1, rf_9_0, rf_9_1, rf_9_3, rf_13_0, rf_13_1, rf_13_2, rf_16_0, rf_16_1, rf_16_2, rf_16_3, rf_21_0, rf_21_1, rf_21_2, rf_21_3, rf_26_0, rf_26_1, rf_26_2, rf_26_3, rf_26_4, rf_26_5, rf_26_6, rf_31_0, rf_31_2, rf_31_5, rf_31_6, rf_36_0, rf_36_1, rf_36_2, rf_36_3, rf_39_0, rf_39_1, rf_39_2, rf_41_0, rf_41_1, rf_41_2, rf_41_3, rf_5000_1, rf_5000_2, rf_5000_3, rf_5000_4, rf_5000_5, rf_5000_15, rf_5000_16, rf_5000_18, rf_5000_19, rf_5000_20, rf_5000_21, rf_5000_22, rf_5000_23, rf_5000_24, rf_5000_25, rf_5000_26, rf_5000_27, rf_5000_36, rf_5000_37, rf_5000_40, rf_5000_41, rf_5000_42, rf_5000_43, rf_5000_44, rf_5000_45, rf_5000_47, rf_5000_52, rf_5000_54, rf_5000_55, rf_100_0, rf_100_1, rf_103_0, rf_103_1, rf_106_0, rf_106_1, rf_109_0, rf_109_1, al_2, al_4, al_5, al_7, al_8, al_10, al_11, al_12, al_14, al_15, al_17, al_18, al_19, al_20, al_22, al_23, al_24, al_25, al_27, al_28, al_29, al_30, al_32, al_33, al_34, al_35, al_37, al_38, al_40, al_42, al_5001, al_5002, al_5003, al_5004, al_5005, al_5006, al_5007, al_5008, al_5009, al_5010, al_5011, al_5012, al_5013, al_5014, al_5015, al_5016, al_5017, al_5018, al_5019, al_5020, al_5021, al_5022, al_5023, al_5024, al_5025, al_5026, al_9000, al_101, al_102, al_104, al_105, al_107, al_108, al_110, al_111, vcs_e, lg_c0, lg_cs, lg_nil, set_c0, set_cs, okst_0, okst_s, acok_n, acok_c, List.contains_nil, List.contains_cons, Bool.or_false, Bool.false_or, Bool.false_eq_true, if_false, if_true, ite_self, ne_eq, true_and, and_true, not_false_eq_true, not_true_eq_false, false_imp_iff, true_imp_iff, Nat.ble_eq, Bool.and_eq_true, reduceCtorEq, or_false, false_or, or_true, true_or, false_and, and_false, and_self, Int.reduceLE, Int.reduceAdd, Int.reduceSub, Int.reduceMul, Int.reduceNeg, Int.reduceLT, Int.reduceEq, Int.reduceNe, Nat.reduceBEq, Nat.reduceBNe, Nat.reduceEqDiff, amCmp_in, amCmp_lt, amCmp_le, amCmp_gt, amCmp_ge, amCmp_eq, amCmp_ne, Nat.reduceLeDiff, Nat.reduceSub, Bool.and_true, Bool.true_and, Bool.and_self, Bool.or_true, Bool.true_or, isRf_3, isRf_4, isRf_5, isRf_8, isRf_9, isRf_10, isRf_11, isRf_15, isRf_16, isRf_17, isRf_18, isRf_19, isRf_20, isRf_21, isRf_22, isRf_23, isRf_24, isRf_25, isRf_26, isRf_27, isRf_28, k_X6_strongestMinute_0, k_X6_strongestMinute_1, k_X6_strongestMinute_2, k_X6_strongestMinute_3, k_X6_strongestMinute_4, k_X6_strongestMinute_5, k_X6_strongestMinute_6, k_X6_strongestMinute_7, k_X6_strongestMinute_10, k_X6_strongestMinute_13, k_X6_strongestMinute_14, k_X6_strongestMinute_15, k_X6_strongestMinute_16, k_X6_strongestMinute_19, k_X6_strongestMinute_20, k_X6_strongestMinute_21, k_X6_strongestMinute_22, k_X6_strongestMinute_25, k_X6_strongestMinute_28, k_X6_strongestMinute_29, k_X6_strongestMinute_30, k_X6_strongestMinute_33, k_X6_strongestMinute_36, k_X6_strongestMinute_37, w_X6_feeling_e, w_X6_minutes_e]
    repeat' (first | assumption | apply And.intro | intro _)
    all_goals first | omega | (exact hend (by omega)) | (refine hstep _ ?_ (by omega); rw [fbest_s]; first | rw [if_pos (by omega)] | rw [if_neg (by omega)])
  · change vcs _ _ _ _ 60 0 [(22, p), (0, s), (6, 0), (6, 0)] [] σ
    simp only [vI_e, vL_e, vNull_e, vIload_e, vLload_e, vAload_e, vIstore_e, vLstore_e, vAstore_e, vIinc_e, vIadd_e, vIsub_e, vImul_e, vIand_e, vIor_e, vIxor_e, vIshl_e, vIshr_e, vIushr_e, vIdiv_e, vIrem_e, vLadd_e, vLsub_e, vLmul_e, vLand_e, vLor_e, vLxor_e, vLdiv_e, vLrem_e, vLushr_e, vLshl_e, vLcmp_e, vIneg_e, vI2l_e, vL2i_e, vI2b_e, vI2c_e, vDup_e, vPop_e, vDup2_e, vGoto_e, vIcEq_e, vIfEq_e, vIcNe_e, vIfNe_e, vIcLt_e, vIfLt_e, vIcGe_e, vIfGe_e, vIcGt_e, vIfGt_e, vIcLe_e, vIfLe_e, vNonnull_e, vSw_e, vGetI_e, vGetL_e, vGetR_e, vPutI_e, vPutZ_e, vPutL_e, vPutR_e, vIald_e, vIald_s, vLald_e, vBald_e, vBald_s, vAald_e, vIast_e, vLast_e, vBast_e, vAast_e, vAlen_e8, vAlen_e9, vAlen_e10, vAlen_e11, vAlen_e5, vAlen_e3, vGets_e, vCompact_e, vLdcS_e, vIret_e, vZret_e, vCret_e, vBret_e, vLret_e, vVret_e, vAret_e, vCallM_e0, vCallMV_e0, vCallS_e0, vCallSV_e0, vCallM_e1, vCallMV_e1, vCallS_e1, vCallSV_e1, vCallM_e2, vCallMV_e2, vCallS_e2, vCallSV_e2, vCallM_e3, vCallMV_e3, vCallS_e3, vCallSV_e3, vCallM_e4, vCallMV_e4, vCallS_e4, vCallSV_e4, vCallM_e5, vCallMV_e5, vCallS_e5, vCallSV_e5, vCallM_e6, vCallMV_e6, vCallS_e6, vCallSV_e6, vCallM_e7, vCallMV_e7, vCallS_e7, vCallSV_e7, vBad_e, vStrVal_e, vStrCod_e, vForm_e, vCallT_e0, vCallT_e1, vCallT_e2, vCopy_e, rf_0_0, rf_0_1, rf_0_2, rf_0_3, rf_0_4, rf_0_7, rf_0_10, rf_0_11, rf_0_12, rf_0_13, rf_0_14, rf_0_15, rf_0_16, rf_1_0, rf_3_0, rf_3_1, rf_6_0, rf_6_1, rf_9_0, rf_9_1, rf_9_3, rf_13_0, rf_13_1, rf_13_2, rf_16_0, rf_16_1, rf_16_2, rf_16_3, rf_21_0, rf_21_1, rf_21_2, rf_21_3, rf_26_0, rf_26_1, rf_26_2, rf_26_3, rf_26_4, rf_26_5, rf_26_6, rf_31_0, rf_31_2, rf_31_5, rf_31_6, rf_36_0, rf_36_1, rf_36_2, rf_36_3, rf_39_0, rf_39_1, rf_39_2, rf_41_0, rf_41_1, rf_41_2, rf_41_3, rf_5000_1, rf_5000_2, rf_5000_3, rf_5000_4, rf_5000_5, rf_5000_15, rf_5000_16, rf_5000_18, rf_5000_19, rf_5000_20, rf_5000_21, rf_5000_22, rf_5000_23, rf_5000_24, rf_5000_25, rf_5000_26, rf_5000_27, rf_5000_36, rf_5000_37, rf_5000_40, rf_5000_41, rf_5000_42, rf_5000_43, rf_5000_44, rf_5000_45, rf_5000_47, rf_5000_52, rf_5000_54, rf_5000_55, rf_100_0, rf_100_1, rf_103_0, rf_103_1, rf_106_0, rf_106_1, rf_109_0, rf_109_1, al_2, al_4, al_5, al_7, al_8, al_10, al_11, al_12, al_14, al_15, al_17, al_18, al_19, al_20, al_22, al_23, al_24, al_25, al_27, al_28, al_29, al_30, al_32, al_33, al_34, al_35, al_37, al_38, al_40, al_42, al_5001, al_5002, al_5003, al_5004, al_5005, al_5006, al_5007, al_5008, al_5009, al_5010, al_5011, al_5012, al_5013, al_5014, al_5015, al_5016, al_5017, al_5018, al_5019, al_5020, al_5021, al_5022, al_5023, al_5024, al_5025, al_5026, al_9000, al_101, al_102, al_104, al_105, al_107, al_108, al_110, al_111, vcs_e, lg_c0, lg_cs, lg_nil, set_c0, set_cs, okst_0, okst_s, acok_n, acok_c, List.contains_nil, List.contains_cons, Bool.or_false, Bool.false_or, Bool.false_eq_true, if_false, if_true, ite_self, ne_eq, true_and, and_true, not_false_eq_true, not_true_eq_false, false_imp_iff, true_imp_iff, Nat.ble_eq, Bool.and_eq_true, reduceCtorEq, or_false, false_or, or_true, true_or, false_and, and_false, and_self, Int.reduceLE, Int.reduceAdd, Int.reduceSub, Int.reduceMul, Int.reduceNeg, Int.reduceLT, Int.reduceEq, Int.reduceNe, Nat.reduceBEq, Nat.reduceBNe, Nat.reduceEqDiff, amCmp_in, amCmp_lt, amCmp_le, amCmp_gt, amCmp_ge, amCmp_eq, amCmp_ne, Nat.reduceLeDiff, Nat.reduceSub, Bool.and_true, Bool.true_and, Bool.and_self, Bool.or_true, Bool.true_or, isRf_3, isRf_4, isRf_5, isRf_8, isRf_9, isRf_10, isRf_11, isRf_15, isRf_16, isRf_17, isRf_18, isRf_19, isRf_20, isRf_21, isRf_22, isRf_23, isRf_24, isRf_25, isRf_26, isRf_27, isRf_28, k_X6_strongestMinute_0, k_X6_strongestMinute_1, k_X6_strongestMinute_2, k_X6_strongestMinute_3, k_X6_strongestMinute_4, k_X6_strongestMinute_5, k_X6_strongestMinute_6, k_X6_strongestMinute_7, k_X6_strongestMinute_10, k_X6_strongestMinute_13, k_X6_strongestMinute_14, k_X6_strongestMinute_15, k_X6_strongestMinute_16, k_X6_strongestMinute_19, k_X6_strongestMinute_20, k_X6_strongestMinute_21, k_X6_strongestMinute_22, k_X6_strongestMinute_25, k_X6_strongestMinute_28, k_X6_strongestMinute_29, k_X6_strongestMinute_30, k_X6_strongestMinute_33, k_X6_strongestMinute_36, k_X6_strongestMinute_37]
    exact ⟨(pmin σ p s - 1).toNat, rfl, rfl, rfl, 1, by rw [fbest_1]; rfl, by omega, by omega⟩
