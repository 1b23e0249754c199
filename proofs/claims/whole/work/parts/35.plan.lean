/-! Plan: cell p (3 or 6), its values: cell p + 1, its counts: cell p + 2 -/
def isP (p : Int) : Prop := p = 3 ∨ p = 6
theorem rfP_0 {p : Int} (h : isP p) (σ : Mem) : rfv TT σ p 0 = p + 1 := by rcases h with rfl | rfl <;> rfl
theorem rfP_1 {p : Int} (h : isP p) (σ : Mem) : rfv TT σ p 1 = p + 2 := by rcases h with rfl | rfl <;> rfl
theorem alP_1 {p : Int} (h : isP p) (σ : Mem) : alen TT σ (p + 1) = 68 := by rcases h with rfl | rfl <;> rfl
theorem alP_2 {p : Int} (h : isP p) (σ : Mem) : alen TT σ (p + 2) = 4 := by rcases h with rfl | rfl <;> rfl
theorem isP_b {p : Int} (h : isP p) : 3 ≤ p ∧ p ≤ 6 := by rcases h with rfl | rfl <;> omega
def mostK (k : Int) : Int := if k = 0 then 1 else if k = 1 then 4 else 6
def firstK (k : Int) : Int := if k = 0 then 0 else if k = 1 then 1 else if k = 2 then 5 else 11
theorem sal_21000 : sal 21000 = 16 := rfl
theorem sal_21001 : sal 21001 = 16 := rfl
theorem sal_21002 : sal 21002 = 16 := rfl
theorem sal_21003 : sal 21003 = 4 := rfl
theorem sal_21004 : sal 21004 = 4 := rfl
theorem sav_most {k : Int} (h0 : 0 ≤ k) (h1 : k < 4) : sav 21003 k = mostK k := by
  have : k = 0 ∨ k = 1 ∨ k = 2 ∨ k = 3 := by omega
  rcases this with rfl | rfl | rfl | rfl <;> rfl
theorem sav_first {k : Int} (h0 : 0 ≤ k) (h1 : k < 4) : sav 21004 k = firstK k := by
  have : k = 0 ∨ k = 1 ∨ k = 2 ∨ k = 3 := by omega
  rcases this with rfl | rfl | rfl | rfl <;> rfl
theorem mostK_b (k : Int) : 1 ≤ mostK k ∧ mostK k ≤ 6 := by unfold mostK; split <;> (try split) <;> omega
theorem firstK_b (k : Int) : 0 ≤ firstK k ∧ firstK k ≤ 11 ∧ firstK k + mostK k ≤ 17 := by
  unfold firstK mostK; split <;> (try split) <;> (try split) <;> omega
/-- which place a number has; -1: none -/
def slotF (kind index item : Int) : Int := if 0 ≤ kind ∧ kind < 4 ∧ 0 ≤ index ∧ index < mostK kind ∧ 0 ≤ item ∧ item < 4 then (firstK kind + index) * 4 + item else -1
theorem slotF_b (kind index item : Int) : -1 ≤ slotF kind index item ∧ slotF kind index item < 68 := by
  have := firstK_b kind
  unfold slotF; split <;> omega
def pcnt (σ : Mem) (p kind : Int) : Int := if 0 ≤ kind ∧ kind < 4 then σ (p + 2) kind else 0
def pval (σ : Mem) (p kind index item : Int) : Int := if slotF kind index item = -1 then 0 else σ (p + 1) (slotF kind index item)
/-- the plan's numbers are small -/
def planB (σ : Mem) (p : Int) : Prop := (∀ k, 0 ≤ k → k < 4 → 0 ≤ σ (p + 2) k ∧ σ (p + 2) k ≤ 6) ∧ ∀ j, 0 ≤ j → j < 68 → 0 ≤ σ (p + 1) j ∧ σ (p + 1) j ≤ 99
theorem pcnt_b {σ : Mem} {p : Int} (h : planB σ p) (k : Int) : 0 ≤ pcnt σ p k ∧ pcnt σ p k ≤ 6 := by
  unfold pcnt; split
  · exact h.1 k (by omega) (by omega)
  · omega
theorem pval_b {σ : Mem} {p : Int} (h : planB σ p) (a b c : Int) : 0 ≤ pval σ p a b c ∧ pval σ p a b c ≤ 99 := by
  have := slotF_b a b c
  unfold pval; split
  · omega
  · exact h.2 _ (by omega) (by omega)

theorem wd_398 : Cond.fieldLink RX6 82 "ArmchairHouse$Plan" "MOST" "[I" ∈ TBL := tb_tab (List.mem_of_getElem? (i := 398) (by decide +kernel)) rfl
def a_X6_isKind : AC := [(0, vIload 0 1), (1, vIfLt 16 4), (4, vIload 0 5), (5, vGets 21003 8), (8, vAlen TT 9), (9, vIcGe 16 12), (12, vI 1 13), (13, vGoto 17), (16, vI 0 17), (17, vZret)]
theorem k_X6_isKind_0 : look a_X6_isKind 0 = vIload 0 1 := rfl
theorem k_X6_isKind_1 : look a_X6_isKind 1 = vIfLt 16 4 := rfl
theorem k_X6_isKind_4 : look a_X6_isKind 4 = vIload 0 5 := rfl
theorem k_X6_isKind_5 : look a_X6_isKind 5 = vGets 21003 8 := rfl
theorem k_X6_isKind_8 : look a_X6_isKind 8 = vAlen TT 9 := rfl
theorem k_X6_isKind_9 : look a_X6_isKind 9 = vIcGe 16 12 := rfl
theorem k_X6_isKind_12 : look a_X6_isKind 12 = vI 1 13 := rfl
theorem k_X6_isKind_13 : look a_X6_isKind 13 = vGoto 17 := rfl
theorem k_X6_isKind_16 : look a_X6_isKind 16 = vI 0 17 := rfl
theorem k_X6_isKind_17 : look a_X6_isKind 17 = vZret := rfl
theorem o_X6_isKind {X : amX} (e1 : XT X = TT) (e2 : XD X = 0) (hB : amB X RX6 cX6_isKind (some .boolean) 1) : ∀ pc, amOK X pc (look a_X6_isKind pc) := by
  have hT : amTok (XT X) := e1 ▸ TT_ok
  refine look_ok ?_
  unfold a_X6_isKind
  refine fc (ok_iload_n hB dX6_isKind_0) ?_
  refine fc (ok_if_lt hB (t := 16) (by decide) dX6_isKind_1) ?_
  refine fc (ok_iload_n hB dX6_isKind_4) ?_
  refine fc (ok_gets hB (k := 3) rfl rfl wd_398 dX6_isKind_5) ?_
  refine fc (okt_arraylength e1 hB dX6_isKind_8) ?_
  refine fc (ok_icmp_ge hB (t := 16) (by decide) dX6_isKind_9) ?_
  refine fc (ok_iconst hB dX6_isKind_12) ?_
  refine fc (ok_goto hB (t := 17) (by decide) dX6_isKind_13) ?_
  refine fc (ok_iconst hB dX6_isKind_16) ?_
  refine fc (ok_zret hB dX6_isKind_17) ?_
  exact fn

def w_X6_isKind : WP := fun av σ Q => ∃ (k : Int), av = [(0, k)] ∧ (InR k ∧ Q (0, if 0 ≤ k ∧ k < 4 then 1 else 0) σ)
theorem w_X6_isKind_e (k : Int) (σ : Mem) (Q : AV → Mem → Prop) : w_X6_isKind [(0, k)] σ Q = (InR k ∧ Q (0, if 0 ≤ k ∧ k < 4 then 1 else 0) σ) := by
  apply propext; constructor
  · rintro ⟨k', h9, hb9⟩; cases h9; exact hb9
  · intro hb9; exact ⟨k, rfl, hb9⟩

set_option maxRecDepth 100000 in
set_option maxHeartbeats 4000000 in
theorem s_X6_isKind : ∀ av σ Q, w_X6_isKind av σ Q → amCall 0 0 0 TT yX6_isKind cX6_isKind 1 (some .boolean) av σ Q := by
  rintro av σ Q ⟨k, rfl, hk, h⟩
  refine am_m0 (own := RX6) (A := look a_X6_isKind) (fun X e1 e2 hB => o_X6_isKind e1 e2 hB) rfl (by decide +kernel) rfl rfl 60 (w := 1) ?_
  change vcs _ _ _ _ 60 0 [(0, k)] [] σ
  simp only [vI_e, vL_e, vNull_e, vIload_e, vLload_e, vAload_e, vIstore_e, vLstore_e, vAstore_e, vIinc_e, vIadd_e, vIsub_e, vImul_e, vIand_e, vIor_e, vIxor_e, vIshl_e, vIshr_e, vIushr_e, vIdiv_e, vIrem_e, vLadd_e, vLsub_e, vLmul_e, vLand_e, vLor_e, vLxor_e, vLdiv_e, vLrem_e, vLushr_e, vLshl_e, vLcmp_e, vIneg_e, vI2l_e, vL2i_e, vI2b_e, vI2c_e, vDup_e, vPop_e, vDup2_e, vGoto_e, vIcEq_e, vIfEq_e, vIcNe_e, vIfNe_e, vIcLt_e, vIfLt_e, vIcGe_e, vIfGe_e, vIcGt_e, vIfGt_e, vIcLe_e, vIfLe_e, vNonnull_e, vSw_e, vGetI_e, vGetL_e, vGetR_e, vPutI_e, vPutZ_e, vPutL_e, vPutR_e, vIald_e, vIald_s, vLald_e, vBald_e, vBald_s, vAald_e, vIast_e, vLast_e, vBast_e, vAast_e, vAlen_e8, vAlen_e9, vAlen_e10, vAlen_e11, vAlen_e5, vAlen_e3, vGets_e, vCompact_e, vLdcS_e, vIret_e, vZret_e, vCret_e, vBret_e, vLret_e, vVret_e, vAret_e, vCallM_e0, vCallMV_e0, vCallS_e0, vCallSV_e0, vCallM_e1, vCallMV_e1, vCallS_e1, vCallSV_e1, vCallM_e2, vCallMV_e2, vCallS_e2, vCallSV_e2, vCallM_e3, vCallMV_e3, vCallS_e3, vCallSV_e3, vCallM_e4, vCallMV_e4, vCallS_e4, vCallSV_e4, vCallM_e5, vCallMV_e5, vCallS_e5, vCallSV_e5, vCallM_e6, vCallMV_e6, vCallS_e6, vCallSV_e6, vCallM_e7, vCallMV_e7, vCallS_e7, vCallSV_e7, vBad_e, vStrVal_e, vStrCod_e, vForm_e, vCallT_e0, vCallT_e1, vCallT_e2, vCopy_e, rf_0_0, rf_0_1, rf_0_2, rf_0_3, rf_0_4, rf_0_7, rf_0_10, rf_0_11, rf_0_12, rf_0_13, rf_0_14, rf_0_15, rf_0_16, rf_1_0, rf_3_0, rf_3_1, rf_6_0, rf_6_1, rf_9_0, rf_9_1, rf_9_3, rf_13_0, rf_13_1, rf_13_2, rf_16_0, rf_16_1, rf_16_2, rf_16_3, rf_21_0, rf_21_1, rf_21_2, rf_21_3, rf_26_0, rf_26_1, rf_26_2, rf_26_3, rf_26_4, rf_26_5, rf_26_6, rf_31_0, rf_31_2, rf_31_5, rf_31_6, rf_36_0, rf_36_1, rf_36_2, rf_36_3, rf_39_0, rf_39_1, rf_39_2, rf_41_0, rf_41_1, rf_41_2, rf_41_3, rf_5000_1, rf_5000_2, rf_5000_3, rf_5000_4, rf_5000_5, rf_5000_15, rf_5000_16, rf_5000_18, rf_5000_19, rf_5000_20, rf_5000_21, rf_5000_22, rf_5000_23, rf_5000_24, rf_5000_25, rf_5000_26, rf_5000_27, rf_5000_36, rf_5000_37, rf_5000_40, rf_5000_41, rf_5000_42, rf_5000_43, rf_5000_44, rf_5000_45, rf_5000_47, rf_5000_52, rf_5000_54, rf_5000_55, rf_100_0, rf_100_1, rf_103_0, rf_103_1, rf_106_0, rf_106_1, rf_109_0, rf_109_1, al_2, al_4, al_5, al_7, al_8, al_10, al_11, al_12, al_14, al_15, al_17, al_18, al_19, al_20, al_22, al_23, al_24, al_25, al_27, al_28, al_29, al_30, al_32, al_33, al_34, al_35, al_37, al_38, al_40, al_42, al_5001, al_5002, al_5003, al_5004, al_5005, al_5006, al_5007, al_5008, al_5009, al_5010, al_5011, al_5012, al_5013, al_5014, al_5015, al_5016, al_5017, al_5018, al_5019, al_5020, al_5021, al_5022, al_5023, al_5024, al_5025, al_5026, al_9000, al_101, al_102, al_104, al_105, al_107, al_108, al_110, al_111, vcs_e, lg_c0, lg_cs, lg_nil, set_c0, set_cs, okst_0, okst_s, acok_n, acok_c, List.contains_nil, List.contains_cons, Bool.or_false, Bool.false_or, Bool.false_eq_true, if_false, if_true, ite_self, ne_eq, true_and, and_true, not_false_eq_true, not_true_eq_false, false_imp_iff, true_imp_iff, Nat.ble_eq, Bool.and_eq_true, reduceCtorEq, or_false, false_or, or_true, true_or, false_and, and_false, and_self, Int.reduceLE, Int.reduceAdd, Int.reduceSub, Int.reduceMul, Int.reduceNeg, Int.reduceLT, Int.reduceEq, Int.reduceNe, Nat.reduceBEq, Nat.reduceBNe, Nat.reduceEqDiff, amCmp_in, amCmp_lt, amCmp_le, amCmp_gt, amCmp_ge, amCmp_eq, amCmp_ne, Nat.reduceLeDiff, Nat.reduceSub, Bool.and_true, Bool.true_and, Bool.and_self, Bool.or_true, Bool.true_or, isRf_3, isRf_4, isRf_5, isRf_8, isRf_9, isRf_10, isRf_11, isRf_15, isRf_16, isRf_17, isRf_18, isRf_19, isRf_20, isRf_21, isRf_22, isRf_23, isRf_24, isRf_25, isRf_26, isRf_27, isRf_28, k_X6_isKind_0, k_X6_isKind_1, k_X6_isKind_4, k_X6_isKind_5, k_X6_isKind_8, k_X6_isKind_9, k_X6_isKind_12, k_X6_isKind_13, k_X6_isKind_16, k_X6_isKind_17, sal_21003]
  repeat' (first | assumption | apply And.intro | intro _)
  all_goals first | omega | (split at h <;> first | exact h | omega)
theorem wd_400 : Cond.fieldLink RX6 105 "ArmchairHouse$Plan" "FIRST_ROW" "[I" ∈ TBL := tb_tab (List.mem_of_getElem? (i := 400) (by decide +kernel)) rfl
def a_X6_slot : AC := [(0, vIload 0 1), (1, vIfLt 34 4), (4, vIload 0 5), (5, vGets 21003 8), (8, vAlen TT 9), (9, vIcGe 34 12), (12, vIload 1 13), (13, vIfLt 34 16), (16, vIload 1 17), (17, vGets 21003 20), (20, vIload 0 21), (21, vIald TT 22), (22, vIcGe 34 25), (25, vIload 2 26), (26, vIfLt 34 29), (29, vIload 2 30), (30, vI 4 31), (31, vIcLt 36 34), (34, vI (-1) 35), (35, vIret), (36, vGets 21004 39), (39, vIload 0 40), (40, vIald TT 41), (41, vIload 1 42), (42, vIadd 43), (43, vI 4 44), (44, vImul 45), (45, vIload 2 46), (46, vIadd 47), (47, vIret)]
theorem k_X6_slot_0 : look a_X6_slot 0 = vIload 0 1 := rfl
theorem k_X6_slot_1 : look a_X6_slot 1 = vIfLt 34 4 := rfl
theorem k_X6_slot_4 : look a_X6_slot 4 = vIload 0 5 := rfl
theorem k_X6_slot_5 : look a_X6_slot 5 = vGets 21003 8 := rfl
theorem k_X6_slot_8 : look a_X6_slot 8 = vAlen TT 9 := rfl
theorem k_X6_slot_9 : look a_X6_slot 9 = vIcGe 34 12 := rfl
theorem k_X6_slot_12 : look a_X6_slot 12 = vIload 1 13 := rfl
theorem k_X6_slot_13 : look a_X6_slot 13 = vIfLt 34 16 := rfl
theorem k_X6_slot_16 : look a_X6_slot 16 = vIload 1 17 := rfl
theorem k_X6_slot_17 : look a_X6_slot 17 = vGets 21003 20 := rfl
theorem k_X6_slot_20 : look a_X6_slot 20 = vIload 0 21 := rfl
theorem k_X6_slot_21 : look a_X6_slot 21 = vIald TT 22 := rfl
theorem k_X6_slot_22 : look a_X6_slot 22 = vIcGe 34 25 := rfl
theorem k_X6_slot_25 : look a_X6_slot 25 = vIload 2 26 := rfl
theorem k_X6_slot_26 : look a_X6_slot 26 = vIfLt 34 29 := rfl
theorem k_X6_slot_29 : look a_X6_slot 29 = vIload 2 30 := rfl
theorem k_X6_slot_30 : look a_X6_slot 30 = vI 4 31 := rfl
theorem k_X6_slot_31 : look a_X6_slot 31 = vIcLt 36 34 := rfl
theorem k_X6_slot_34 : look a_X6_slot 34 = vI (-1) 35 := rfl
theorem k_X6_slot_35 : look a_X6_slot 35 = vIret := rfl
theorem k_X6_slot_36 : look a_X6_slot 36 = vGets 21004 39 := rfl
theorem k_X6_slot_39 : look a_X6_slot 39 = vIload 0 40 := rfl
theorem k_X6_slot_40 : look a_X6_slot 40 = vIald TT 41 := rfl
theorem k_X6_slot_41 : look a_X6_slot 41 = vIload 1 42 := rfl
theorem k_X6_slot_42 : look a_X6_slot 42 = vIadd 43 := rfl
theorem k_X6_slot_43 : look a_X6_slot 43 = vI 4 44 := rfl
theorem k_X6_slot_44 : look a_X6_slot 44 = vImul 45 := rfl
theorem k_X6_slot_45 : look a_X6_slot 45 = vIload 2 46 := rfl
theorem k_X6_slot_46 : look a_X6_slot 46 = vIadd 47 := rfl
theorem k_X6_slot_47 : look a_X6_slot 47 = vIret := rfl
theorem o_X6_slot {X : amX} (e1 : XT X = TT) (e2 : XD X = 0) (hB : amB X RX6 cX6_slot (some .int) 3) : ∀ pc, amOK X pc (look a_X6_slot pc) := by
  have hT : amTok (XT X) := e1 ▸ TT_ok
  refine look_ok ?_
  unfold a_X6_slot
  refine fc (ok_iload_n hB dX6_slot_0) ?_
  refine fc (ok_if_lt hB (t := 34) (by decide) dX6_slot_1) ?_
  refine fc (ok_iload_n hB dX6_slot_4) ?_
  refine fc (ok_gets hB (k := 3) rfl rfl wd_398 dX6_slot_5) ?_
  refine fc (okt_arraylength e1 hB dX6_slot_8) ?_
  refine fc (ok_icmp_ge hB (t := 34) (by decide) dX6_slot_9) ?_
  refine fc (ok_iload_n hB dX6_slot_12) ?_
  refine fc (ok_if_lt hB (t := 34) (by decide) dX6_slot_13) ?_
  refine fc (ok_iload_n hB dX6_slot_16) ?_
  refine fc (ok_gets hB (k := 3) rfl rfl wd_398 dX6_slot_17) ?_
  refine fc (ok_iload_n hB dX6_slot_20) ?_
  refine fc (okt_iaload e1 hB dX6_slot_21) ?_
  refine fc (ok_icmp_ge hB (t := 34) (by decide) dX6_slot_22) ?_
  refine fc (ok_iload_n hB dX6_slot_25) ?_
  refine fc (ok_if_lt hB (t := 34) (by decide) dX6_slot_26) ?_
  refine fc (ok_iload_n hB dX6_slot_29) ?_
  refine fc (ok_iconst hB dX6_slot_30) ?_
  refine fc (ok_icmp_lt hB (t := 36) (by decide) dX6_slot_31) ?_
  refine fc (ok_iconst hB dX6_slot_34) ?_
  refine fc (ok_iret hB dX6_slot_35) ?_
  refine fc (ok_gets hB (k := 4) rfl rfl wd_400 dX6_slot_36) ?_
  refine fc (ok_iload_n hB dX6_slot_39) ?_
  refine fc (okt_iaload e1 hB dX6_slot_40) ?_
  refine fc (ok_iload_n hB dX6_slot_41) ?_
  refine fc (ok_iadd hB dX6_slot_42) ?_
  refine fc (ok_iconst hB dX6_slot_43) ?_
  refine fc (ok_imul hB dX6_slot_44) ?_
  refine fc (ok_iload_n hB dX6_slot_45) ?_
  refine fc (ok_iadd hB dX6_slot_46) ?_
  refine fc (ok_iret hB dX6_slot_47) ?_
  exact fn

def w_X6_slot : WP := fun av σ Q => ∃ (k : Int) (i : Int) (m : Int), av = [(0, k), (0, i), (0, m)] ∧ (InR k ∧ InR i ∧ InR m ∧ Q (0, slotF k i m) σ)
theorem w_X6_slot_e (k : Int) (i : Int) (m : Int) (σ : Mem) (Q : AV → Mem → Prop) : w_X6_slot [(0, k), (0, i), (0, m)] σ Q = (InR k ∧ InR i ∧ InR m ∧ Q (0, slotF k i m) σ) := by
  apply propext; constructor
  · rintro ⟨k', i', m', h9, hb9⟩; cases h9; exact hb9
  · intro hb9; exact ⟨k, i, m, rfl, hb9⟩

set_option maxRecDepth 100000 in
set_option maxHeartbeats 4000000 in
theorem s_X6_slot : ∀ av σ Q, w_X6_slot av σ Q → amCall 0 0 0 TT yX6_slot cX6_slot 3 (some .int) av σ Q := by
  rintro av σ Q ⟨k, i, m, rfl, hk, hi, hm, h⟩
  refine am_m0 (own := RX6) (A := look a_X6_slot) (fun X e1 e2 hB => o_X6_slot e1 e2 hB) rfl (by decide +kernel) rfl rfl 60 (w := 3) ?_
  change vcs _ _ _ _ 60 0 [(0, k), (0, i), (0, m)] [] σ
  simp only [vI_e, vL_e, vNull_e, vIload_e, vLload_e, vAload_e, vIstore_e, vLstore_e, vAstore_e, vIinc_e, vIadd_e, vIsub_e, vImul_e, vIand_e, vIor_e, vIxor_e, vIshl_e, vIshr_e, vIushr_e, vIdiv_e, vIrem_e, vLadd_e, vLsub_e, vLmul_e, vLand_e, vLor_e, vLxor_e, vLdiv_e, vLrem_e, vLushr_e, vLshl_e, vLcmp_e, vIneg_e, vI2l_e, vL2i_e, vI2b_e, vI2c_e, vDup_e, vPop_e, vDup2_e, vGoto_e, vIcEq_e, vIfEq_e, vIcNe_e, vIfNe_e, vIcLt_e, vIfLt_e, vIcGe_e, vIfGe_e, vIcGt_e, vIfGt_e, vIcLe_e, vIfLe_e, vNonnull_e, vSw_e, vGetI_e, vGetL_e, vGetR_e, vPutI_e, vPutZ_e, vPutL_e, vPutR_e, vIald_e, vIald_s, vLald_e, vBald_e, vBald_s, vAald_e, vIast_e, vLast_e, vBast_e, vAast_e, vAlen_e8, vAlen_e9, vAlen_e10, vAlen_e11, vAlen_e5, vAlen_e3, vGets_e, vCompact_e, vLdcS_e, vIret_e, vZret_e, vCret_e, vBret_e, vLret_e, vVret_e, vAret_e, vCallM_e0, vCallMV_e0, vCallS_e0, vCallSV_e0, vCallM_e1, vCallMV_e1, vCallS_e1, vCallSV_e1, vCallM_e2, vCallMV_e2, vCallS_e2, vCallSV_e2, vCallM_e3, vCallMV_e3, vCallS_e3, vCallSV_e3, vCallM_e4, vCallMV_e4, vCallS_e4, vCallSV_e4, vCallM_e5, vCallMV_e5, vCallS_e5, vCallSV_e5, vCallM_e6, vCallMV_e6, vCallS_e6, vCallSV_e6, vCallM_e7, vCallMV_e7, vCallS_e7, vCallSV_e7, vBad_e, vStrVal_e, vStrCod_e, vForm_e, vCallT_e0, vCallT_e1, vCallT_e2, vCopy_e, rf_0_0, rf_0_1, rf_0_2, rf_0_3, rf_0_4, rf_0_7, rf_0_10, rf_0_11, rf_0_12, rf_0_13, rf_0_14, rf_0_15, rf_0_16, rf_1_0, rf_3_0, rf_3_1, rf_6_0, rf_6_1, rf_9_0, rf_9_1, rf_9_3, rf_13_0, rf_13_1, rf_13_2, rf_16_0, rf_16_1, rf_16_2, rf_16_3, rf_21_0, rf_21_1, rf_21_2, rf_21_3, rf_26_0, rf_26_1, rf_26_2, rf_26_3, rf_26_4, rf_26_5, rf_26_6, rf_31_0, rf_31_2, rf_31_5, rf_31_6, rf_36_0, rf_36_1, rf_36_2, rf_36_3, rf_39_0, rf_39_1, rf_39_2, rf_41_0, rf_41_1, rf_41_2, rf_41_3, rf_5000_1, rf_5000_2, rf_5000_3, rf_5000_4, rf_5000_5, rf_5000_15, rf_5000_16, rf_5000_18, rf_5000_19, rf_5000_20, rf_5000_21, rf_5000_22, rf_5000_23, rf_5000_24, rf_5000_25, rf_5000_26, rf_5000_27, rf_5000_36, rf_5000_37, rf_5000_40, rf_5000_41, rf_5000_42, rf_5000_43, rf_5000_44, rf_5000_45, rf_5000_47, rf_5000_52, rf_5000_54, rf_5000_55, rf_100_0, rf_100_1, rf_103_0, rf_103_1, rf_106_0, rf_106_1, rf_109_0, rf_109_1, al_2, al_4, al_5, al_7, al_8, al_10, al_11, al_12, al_14, al_15, al_17, al_18, al_19, al_20, al_22, al_23, al_24, al_25, al_27, al_28, al_29, al_30, al_32, al_33, al_34, al_35, al_37, al_38, al_40, al_42, al_5001, al_5002, al_5003, al_5004, al_5005, al_5006, al_5007, al_5008, al_5009, al_5010, al_5011, al_5012, al_5013, al_5014, al_5015, al_5016, al_5017, al_5018, al_5019, al_5020, al_5021, al_5022, al_5023, al_5024, al_5025, al_5026, al_9000, al_101, al_102, al_104, al_105, al_107, al_108, al_110, al_111, vcs_e, lg_c0, lg_cs, lg_nil, set_c0, set_cs, okst_0, okst_s, acok_n, acok_c, List.contains_nil, List.contains_cons, Bool.or_false, Bool.false_or, Bool.false_eq_true, if_false, if_true, ite_self, ne_eq, true_and, and_true, not_false_eq_true, not_true_eq_false, false_imp_iff, true_imp_iff, Nat.ble_eq, Bool.and_eq_true, reduceCtorEq, or_false, false_or, or_true, true_or, false_and, and_false, and_self, Int.reduceLE, Int.reduceAdd, Int.reduceSub, Int.reduceMul, Int.reduceNeg, Int.reduceLT, Int.reduceEq, Int.reduceNe, Nat.reduceBEq, Nat.reduceBNe, Nat.reduceEqDiff, amCmp_in, amCmp_lt, amCmp_le, amCmp_gt, amCmp_ge, amCmp_eq, amCmp_ne, Nat.reduceLeDiff, Nat.reduceSub, Bool.and_true, Bool.true_and, Bool.and_self, Bool.or_true, Bool.true_or, isRf_3, isRf_4, isRf_5, isRf_8, isRf_9, isRf_10, isRf_11, isRf_15, isRf_16, isRf_17, isRf_18, isRf_19, isRf_20, isRf_21, isRf_22, isRf_23, isRf_24, isRf_25, isRf_26, isRf_27, isRf_28, k_X6_slot_0, k_X6_slot_1, k_X6_slot_4, k_X6_slot_5, k_X6_slot_8, k_X6_slot_9, k_X6_slot_12, k_X6_slot_13, k_X6_slot_16, k_X6_slot_17, k_X6_slot_20, k_X6_slot_21, k_X6_slot_22, k_X6_slot_25, k_X6_slot_26, k_X6_slot_29, k_X6_slot_30, k_X6_slot_31, k_X6_slot_34, k_X6_slot_35, k_X6_slot_36, k_X6_slot_39, k_X6_slot_40, k_X6_slot_41, k_X6_slot_42, k_X6_slot_43, k_X6_slot_44, k_X6_slot_45, k_X6_slot_46, k_X6_slot_47, sal_21003, sal_21004]
  have hmk := mostK_b k
  unfold slotF at h
  by_cases hc : 0 ≤ k ∧ k < 4
  · rw [sav_most hc.1 hc.2, sav_first hc.1 hc.2]
    repeat' (first | assumption | apply And.intro | intro _)
    all_goals first | omega | (split at h <;> first | exact h | omega)
  · repeat' (first | assumption | apply And.intro | intro _)
    all_goals first | omega | (split at h <;> first | exact h | omega)
theorem wd_395 : Cond.methodLink RX6 78 yX6_slot ∈ TBL := tb_tab (List.mem_of_getElem? (i := 395) (by decide +kernel)) rfl
theorem wd_3 : Cond.initialized RX6 ∈ TBL := tb_tab (List.mem_of_getElem? (i := 3) (by decide +kernel)) rfl
theorem wd_397 : Cond.code yX6_slot cX6_slot 3 (some .int) ∈ TBL := tb_tab (List.mem_of_getElem? (i := 397) (by decide +kernel)) rfl
theorem lk_X6_78 : amLk RX6 78 yX6_slot cX6_slot 3 (some .int) 3 := ⟨wd_395, wd_3, wd_397, by decide +kernel, by decide +kernel, by decide⟩
theorem wd_396 : Cond.static yX6_slot ∈ TBL := tb_tab (List.mem_of_getElem? (i := 396) (by decide +kernel)) rfl
theorem wd_64 : Cond.fieldLink RX6 11 "ArmchairHouse$Plan" "values" "[I" ∈ TBL := tb_tab (List.mem_of_getElem? (i := 64) (by decide +kernel)) rfl
theorem fl_X6_11 : amFl RX6 6 0 11 RX6 TX6 2 := ⟨rfl, inT_6, by decide, wd_64⟩
def a_X6_value : AC := [(0, vIload 1 1), (1, vIload 2 2), (2, vIload 3 3), (3, vCallS w_X6_slot 3 6), (6, vIstore 4 8), (8, vIload 4 10), (10, vI (-1) 11), (11, vIcNe 18 14), (14, vI 0 15), (15, vGoto 25), (18, vAload 0 19), (19, vGetR TT 22 0 8 22), (22, vIload 4 24), (24, vIald TT 25), (25, vIret)]
theorem k_X6_value_0 : look a_X6_value 0 = vIload 1 1 := rfl
theorem k_X6_value_1 : look a_X6_value 1 = vIload 2 2 := rfl
theorem k_X6_value_2 : look a_X6_value 2 = vIload 3 3 := rfl
theorem k_X6_value_3 : look a_X6_value 3 = vCallS w_X6_slot 3 6 := rfl
theorem k_X6_value_6 : look a_X6_value 6 = vIstore 4 8 := rfl
theorem k_X6_value_8 : look a_X6_value 8 = vIload 4 10 := rfl
theorem k_X6_value_10 : look a_X6_value 10 = vI (-1) 11 := rfl
theorem k_X6_value_11 : look a_X6_value 11 = vIcNe 18 14 := rfl
theorem k_X6_value_14 : look a_X6_value 14 = vI 0 15 := rfl
theorem k_X6_value_15 : look a_X6_value 15 = vGoto 25 := rfl
theorem k_X6_value_18 : look a_X6_value 18 = vAload 0 19 := rfl
theorem k_X6_value_19 : look a_X6_value 19 = vGetR TT 22 0 8 22 := rfl
theorem k_X6_value_22 : look a_X6_value 22 = vIload 4 24 := rfl
theorem k_X6_value_24 : look a_X6_value 24 = vIald TT 25 := rfl
theorem k_X6_value_25 : look a_X6_value 25 = vIret := rfl
theorem o_X6_value {X : amX} (e1 : XT X = TT) (e2 : XD X = 1) (hB : amB X RX6 cX6_value (some .int) 5) : ∀ pc, amOK X pc (look a_X6_value pc) := by
  have hT : amTok (XT X) := e1 ▸ TT_ok
  refine look_ok ?_
  unfold a_X6_value
  refine fc (ok_iload_n hB dX6_value_0) ?_
  refine fc (ok_iload_n hB dX6_value_1) ?_
  refine fc (ok_iload_n hB dX6_value_2) ?_
  refine fc (ok_callS hB (e1 ▸ s_X6_slot) lk_X6_78 (by rw [e2]; decide) wd_396 dX6_value_3) ?_
  refine fc (ok_istore hB (by decide) dX6_value_6) ?_
  refine fc (ok_iload hB dX6_value_8) ?_
  refine fc (ok_iconst hB dX6_value_10) ?_
  refine fc (ok_icmp_ne hB (t := 18) (by decide) dX6_value_11) ?_
  refine fc (ok_iconst hB dX6_value_14) ?_
  refine fc (ok_goto hB (t := 25) (by decide) dX6_value_15) ?_
  refine fc (ok_aload_n hB dX6_value_18) ?_
  refine fc (okt_getR e1 hB hT fl_X6_11 rfl af_6_0 at_6_0 (by decide) dX6_value_19) ?_
  refine fc (ok_iload hB dX6_value_22) ?_
  refine fc (okt_iaload e1 hB dX6_value_24) ?_
  refine fc (ok_iret hB dX6_value_25) ?_
  exact fn

def w_X6_value : WP := fun av σ Q => ∃ (p : Int) (k : Int) (i : Int) (m : Int), av = [(22, p), (0, k), (0, i), (0, m)] ∧ (isP p ∧ InR k ∧ InR i ∧ InR m ∧ Q (0, pval σ p k i m) σ)
theorem w_X6_value_e (p : Int) (k : Int) (i : Int) (m : Int) (σ : Mem) (Q : AV → Mem → Prop) : w_X6_value [(22, p), (0, k), (0, i), (0, m)] σ Q = (isP p ∧ InR k ∧ InR i ∧ InR m ∧ Q (0, pval σ p k i m) σ) := by
  apply propext; constructor
  · rintro ⟨p', k', i', m', h9, hb9⟩; cases h9; exact hb9
  · intro hb9; exact ⟨p, k, i, m, rfl, hb9⟩

set_option maxRecDepth 100000 in
set_option maxHeartbeats 4000000 in
theorem s_X6_value : ∀ av σ Q, w_X6_value av σ Q → amCall 1 0 0 TT yX6_value cX6_value 5 (some .int) av σ Q := by
  rintro av σ Q ⟨p, k, i, m, rfl, hp, hk, hi, hm, h⟩
  have hpb := isP_b hp
  refine am_m0 (own := RX6) (A := look a_X6_value) (fun X e1 e2 hB => o_X6_value e1 e2 hB) rfl (by decide +kernel) rfl rfl 60 (w := 5) ?_
  change vcs _ _ _ _ 60 0 [(22, p), (0, k), (0, i), (0, m), (6, 0)] [] σ
  simp only [vI_e, vL_e, vNull_e, vIload_e, vLload_e, vAload_e, vIstore_e, vLstore_e, vAstore_e, vIinc_e, vIadd_e, vIsub_e, vImul_e, vIand_e, vIor_e, vIxor_e, vIshl_e, vIshr_e, vIushr_e, vIdiv_e, vIrem_e, vLadd_e, vLsub_e, vLmul_e, vLand_e, vLor_e, vLxor_e, vLdiv_e, vLrem_e, vLushr_e, vLshl_e, vLcmp_e, vIneg_e, vI2l_e, vL2i_e, vI2b_e, vI2c_e, vDup_e, vPop_e, vDup2_e, vGoto_e, vIcEq_e, vIfEq_e, vIcNe_e, vIfNe_e, vIcLt_e, vIfLt_e, vIcGe_e, vIfGe_e, vIcGt_e, vIfGt_e, vIcLe_e, vIfLe_e, vNonnull_e, vSw_e, vGetI_e, vGetL_e, vGetR_e, vPutI_e, vPutZ_e, vPutL_e, vPutR_e, vIald_e, vIald_s, vLald_e, vBald_e, vBald_s, vAald_e, vIast_e, vLast_e, vBast_e, vAast_e, vAlen_e8, vAlen_e9, vAlen_e10, vAlen_e11, vAlen_e5, vAlen_e3, vGets_e, vCompact_e, vLdcS_e, vIret_e, vZret_e, vCret_e, vBret_e, vLret_e, vVret_e, vAret_e, vCallM_e0, vCallMV_e0, vCallS_e0, vCallSV_e0, vCallM_e1, vCallMV_e1, vCallS_e1, vCallSV_e1, vCallM_e2, vCallMV_e2, vCallS_e2, vCallSV_e2, vCallM_e3, vCallMV_e3, vCallS_e3, vCallSV_e3, vCallM_e4, vCallMV_e4, vCallS_e4, vCallSV_e4, vCallM_e5, vCallMV_e5, vCallS_e5, vCallSV_e5, vCallM_e6, vCallMV_e6, vCallS_e6, vCallSV_e6, vCallM_e7, vCallMV_e7, vCallS_e7, vCallSV_e7, vBad_e, vStrVal_e, vStrCod_e, vForm_e, vCallT_e0, vCallT_e1, vCallT_e2, vCopy_e, rf_0_0, rf_0_1, rf_0_2, rf_0_3, rf_0_4, rf_0_7, rf_0_10, rf_0_11, rf_0_12, rf_0_13, rf_0_14, rf_0_15, rf_0_16, rf_1_0, rf_3_0, rf_3_1, rf_6_0, rf_6_1, rf_9_0, rf_9_1, rf_9_3, rf_13_0, rf_13_1, rf_13_2, rf_16_0, rf_16_1, rf_16_2, rf_16_3, rf_21_0, rf_21_1, rf_21_2, rf_21_3, rf_26_0, rf_26_1, rf_26_2, rf_26_3, rf_26_4, rf_26_5, rf_26_6, rf_31_0, rf_31_2, rf_31_5, rf_31_6, rf_36_0, rf_36_1, rf_36_2, rf_36_3, rf_39_0, rf_39_1, rf_39_2, rf_41_0, rf_41_1, rf_41_2, rf_41_3, rf_5000_1, rf_5000_2, rf_5000_3, rf_5000_4, rf_5000_5, rf_5000_15, rf_5000_16, rf_5000_18, rf_5000_19, rf_5000_20, rf_5000_21, rf_5000_22, rf_5000_23, rf_5000_24, rf_5000_25, rf_5000_26, rf_5000_27, rf_5000_36, rf_5000_37, rf_5000_40, rf_5000_41, rf_5000_42, rf_5000_43, rf_5000_44, rf_5000_45, rf_5000_47, rf_5000_52, rf_5000_54, rf_5000_55, rf_100_0, rf_100_1, rf_103_0, rf_103_1, rf_106_0, rf_106_1, rf_109_0, rf_109_1, al_2, al_4, al_5, al_7, al_8, al_10, al_11, al_12, al_14, al_15, al_17, al_18, al_19, al_20, al_22, al_23, al_24, al_25, al_27, al_28, al_29, al_30, al_32, al_33, al_34, al_35, al_37, al_38, al_40, al_42, al_5001, al_5002, al_5003, al_5004, al_5005, al_5006, al_5007, al_5008, al_5009, al_5010, al_5011, al_5012, al_5013, al_5014, al_5015, al_5016, al_5017, al_5018, al_5019, al_5020, al_5021, al_5022, al_5023, al_5024, al_5025, al_5026, al_9000, al_101, al_102, al_104, al_105, al_107, al_108, al_110, al_111, vcs_e, lg_c0, lg_cs, lg_nil, set_c0, set_cs, okst_0, okst_s, acok_n, acok_c, List.contains_nil, List.contains_cons, Bool.or_false, Bool.false_or, Bool.false_eq_true, if_false, if_true, ite_self, ne_eq, true_and, and_true, not_false_eq_true, not_true_eq_false, false_imp_iff, true_imp_iff, Nat.ble_eq, Bool.and_eq_true, reduceCtorEq, or_false, false_or, or_true, true_or, false_and, and_false, and_self, Int.reduceLE, Int.reduceAdd, Int.reduceSub, Int.reduceMul, Int.reduceNeg, Int.reduceLT, Int.reduceEq, Int.reduceNe, Nat.reduceBEq, Nat.reduceBNe, Nat.reduceEqDiff, amCmp_in, amCmp_lt, amCmp_le, amCmp_gt, amCmp_ge, amCmp_eq, amCmp_ne, Nat.reduceLeDiff, Nat.reduceSub, Bool.and_true, Bool.true_and, Bool.and_self, Bool.or_true, Bool.true_or, isRf_3, isRf_4, isRf_5, isRf_8, isRf_9, isRf_10, isRf_11, isRf_15, isRf_16, isRf_17, isRf_18, isRf_19, isRf_20, isRf_21, isRf_22, isRf_23, isRf_24, isRf_25, isRf_26, isRf_27, isRf_28, k_X6_value_0, k_X6_value_1, k_X6_value_2, k_X6_value_3, k_X6_value_6, k_X6_value_8, k_X6_value_10, k_X6_value_11, k_X6_value_14, k_X6_value_15, k_X6_value_18, k_X6_value_19, k_X6_value_22, k_X6_value_24, k_X6_value_25, w_X6_slot_e, rfP_0 hp, alP_1 hp]
  have hs := slotF_b k i m
  unfold pval at h
  repeat' (first | assumption | apply And.intro | intro _)
  all_goals first | omega | (split at h <;> first | exact h | omega)
theorem wd_510 : Cond.methodLink RX6 85 yX6_isKind ∈ TBL := tb_tab (List.mem_of_getElem? (i := 510) (by decide +kernel)) rfl
theorem wd_512 : Cond.code yX6_isKind cX6_isKind 1 (some .boolean) ∈ TBL := tb_tab (List.mem_of_getElem? (i := 512) (by decide +kernel)) rfl
theorem lk_X6_85 : amLk RX6 85 yX6_isKind cX6_isKind 1 (some .boolean) 1 := ⟨wd_510, wd_3, wd_512, by decide +kernel, by decide +kernel, by decide⟩
theorem wd_511 : Cond.static yX6_isKind ∈ TBL := tb_tab (List.mem_of_getElem? (i := 511) (by decide +kernel)) rfl
theorem wd_65 : Cond.fieldLink RX6 15 "ArmchairHouse$Plan" "counts" "[I" ∈ TBL := tb_tab (List.mem_of_getElem? (i := 65) (by decide +kernel)) rfl
theorem fl_X6_15 : amFl RX6 6 1 15 RX6 TX6 2 := ⟨rfl, inT_6, by decide, wd_65⟩
def a_X6_many : AC := [(0, vIload 1 1), (1, vCallS w_X6_isKind 1 4), (4, vIfEq 16 7), (7, vAload 0 8), (8, vGetR TT 22 1 8 11), (11, vIload 1 12), (12, vIald TT 13), (13, vGoto 17), (16, vI 0 17), (17, vIret)]
theorem k_X6_many_0 : look a_X6_many 0 = vIload 1 1 := rfl
theorem k_X6_many_1 : look a_X6_many 1 = vCallS w_X6_isKind 1 4 := rfl
theorem k_X6_many_4 : look a_X6_many 4 = vIfEq 16 7 := rfl
theorem k_X6_many_7 : look a_X6_many 7 = vAload 0 8 := rfl
theorem k_X6_many_8 : look a_X6_many 8 = vGetR TT 22 1 8 11 := rfl
theorem k_X6_many_11 : look a_X6_many 11 = vIload 1 12 := rfl
theorem k_X6_many_12 : look a_X6_many 12 = vIald TT 13 := rfl
theorem k_X6_many_13 : look a_X6_many 13 = vGoto 17 := rfl
theorem k_X6_many_16 : look a_X6_many 16 = vI 0 17 := rfl
theorem k_X6_many_17 : look a_X6_many 17 = vIret := rfl
theorem o_X6_many {X : amX} (e1 : XT X = TT) (e2 : XD X = 1) (hB : amB X RX6 cX6_many (some .int) 2) : ∀ pc, amOK X pc (look a_X6_many pc) := by
  have hT : amTok (XT X) := e1 ▸ TT_ok
  refine look_ok ?_
  unfold a_X6_many
  refine fc (ok_iload_n hB dX6_many_0) ?_
  refine fc (ok_callS hB (e1 ▸ s_X6_isKind) lk_X6_85 (by rw [e2]; decide) wd_511 dX6_many_1) ?_
  refine fc (ok_if_eq hB (t := 16) (by decide) dX6_many_4) ?_
  refine fc (ok_aload_n hB dX6_many_7) ?_
  refine fc (okt_getR e1 hB hT fl_X6_15 rfl af_6_1 at_6_1 (by decide) dX6_many_8) ?_
  refine fc (ok_iload_n hB dX6_many_11) ?_
  refine fc (okt_iaload e1 hB dX6_many_12) ?_
  refine fc (ok_goto hB (t := 17) (by decide) dX6_many_13) ?_
  refine fc (ok_iconst hB dX6_many_16) ?_
  refine fc (ok_iret hB dX6_many_17) ?_
  exact fn

def w_X6_many : WP := fun av σ Q => ∃ (p : Int) (k : Int), av = [(22, p), (0, k)] ∧ (isP p ∧ InR k ∧ Q (0, pcnt σ p k) σ)
theorem w_X6_many_e (p : Int) (k : Int) (σ : Mem) (Q : AV → Mem → Prop) : w_X6_many [(22, p), (0, k)] σ Q = (isP p ∧ InR k ∧ Q (0, pcnt σ p k) σ) := by
  apply propext; constructor
  · rintro ⟨p', k', h9, hb9⟩; cases h9; exact hb9
  · intro hb9; exact ⟨p, k, rfl, hb9⟩

set_option maxRecDepth 100000 in
set_option maxHeartbeats 4000000 in
theorem s_X6_many : ∀ av σ Q, w_X6_many av σ Q → amCall 1 0 0 TT yX6_many cX6_many 2 (some .int) av σ Q := by
  rintro av σ Q ⟨p, k, rfl, hp, hk, h⟩
  have hpb := isP_b hp
  refine am_m0 (own := RX6) (A := look a_X6_many) (fun X e1 e2 hB => o_X6_many e1 e2 hB) rfl (by decide +kernel) rfl rfl 60 (w := 2) ?_
  change vcs _ _ _ _ 60 0 [(22, p), (0, k)] [] σ
  simp only [vI_e, vL_e, vNull_e, vIload_e, vLload_e, vAload_e, vIstore_e, vLstore_e, vAstore_e, vIinc_e, vIadd_e, vIsub_e, vImul_e, vIand_e, vIor_e, vIxor_e, vIshl_e, vIshr_e, vIushr_e, vIdiv_e, vIrem_e, vLadd_e, vLsub_e, vLmul_e, vLand_e, vLor_e, vLxor_e, vLdiv_e, vLrem_e, vLushr_e, vLshl_e, vLcmp_e, vIneg_e, vI2l_e, vL2i_e, vI2b_e, vI2c_e, vDup_e, vPop_e, vDup2_e, vGoto_e, vIcEq_e, vIfEq_e, vIcNe_e, vIfNe_e, vIcLt_e, vIfLt_e, vIcGe_e, vIfGe_e, vIcGt_e, vIfGt_e, vIcLe_e, vIfLe_e, vNonnull_e, vSw_e, vGetI_e, vGetL_e, vGetR_e, vPutI_e, vPutZ_e, vPutL_e, vPutR_e, vIald_e, vIald_s, vLald_e, vBald_e, vBald_s, vAald_e, vIast_e, vLast_e, vBast_e, vAast_e, vAlen_e8, vAlen_e9, vAlen_e10, vAlen_e11, vAlen_e5, vAlen_e3, vGets_e, vCompact_e, vLdcS_e, vIret_e, vZret_e, vCret_e, vBret_e, vLret_e, vVret_e, vAret_e, vCallM_e0, vCallMV_e0, vCallS_e0, vCallSV_e0, vCallM_e1, vCallMV_e1, vCallS_e1, vCallSV_e1, vCallM_e2, vCallMV_e2, vCallS_e2, vCallSV_e2, vCallM_e3, vCallMV_e3, vCallS_e3, vCallSV_e3, vCallM_e4, vCallMV_e4, vCallS_e4, vCallSV_e4, vCallM_e5, vCallMV_e5, vCallS_e5, vCallSV_e5, vCallM_e6, vCallMV_e6, vCallS_e6, vCallSV_e6, vCallM_e7, vCallMV_e7, vCallS_e7, vCallSV_e7, vBad_e, vStrVal_e, vStrCod_e, vForm_e, vCallT_e0, vCallT_e1, vCallT_e2, vCopy_e, rf_0_0, rf_0_1, rf_0_2, rf_0_3, rf_0_4, rf_0_7, rf_0_10, rf_0_11, rf_0_12, rf_0_13, rf_0_14, rf_0_15, rf_0_16, rf_1_0, rf_3_0, rf_3_1, rf_6_0, rf_6_1, rf_9_0, rf_9_1, rf_9_3, rf_13_0, rf_13_1, rf_13_2, rf_16_0, rf_16_1, rf_16_2, rf_16_3, rf_21_0, rf_21_1, rf_21_2, rf_21_3, rf_26_0, rf_26_1, rf_26_2, rf_26_3, rf_26_4, rf_26_5, rf_26_6, rf_31_0, rf_31_2, rf_31_5, rf_31_6, rf_36_0, rf_36_1, rf_36_2, rf_36_3, rf_39_0, rf_39_1, rf_39_2, rf_41_0, rf_41_1, rf_41_2, rf_41_3, rf_5000_1, rf_5000_2, rf_5000_3, rf_5000_4, rf_5000_5, rf_5000_15, rf_5000_16, rf_5000_18, rf_5000_19, rf_5000_20, rf_5000_21, rf_5000_22, rf_5000_23, rf_5000_24, rf_5000_25, rf_5000_26, rf_5000_27, rf_5000_36, rf_5000_37, rf_5000_40, rf_5000_41, rf_5000_42, rf_5000_43, rf_5000_44, rf_5000_45, rf_5000_47, rf_5000_52, rf_5000_54, rf_5000_55, rf_100_0, rf_100_1, rf_103_0, rf_103_1, rf_106_0, rf_106_1, rf_109_0, rf_109_1, al_2, al_4, al_5, al_7, al_8, al_10, al_11, al_12, al_14, al_15, al_17, al_18, al_19, al_20, al_22, al_23, al_24, al_25, al_27, al_28, al_29, al_30, al_32, al_33, al_34, al_35, al_37, al_38, al_40, al_42, al_5001, al_5002, al_5003, al_5004, al_5005, al_5006, al_5007, al_5008, al_5009, al_5010, al_5011, al_5012, al_5013, al_5014, al_5015, al_5016, al_5017, al_5018, al_5019, al_5020, al_5021, al_5022, al_5023, al_5024, al_5025, al_5026, al_9000, al_101, al_102, al_104, al_105, al_107, al_108, al_110, al_111, vcs_e, lg_c0, lg_cs, lg_nil, set_c0, set_cs, okst_0, okst_s, acok_n, acok_c, List.contains_nil, List.contains_cons, Bool.or_false, Bool.false_or, Bool.false_eq_true, if_false, if_true, ite_self, ne_eq, true_and, and_true, not_false_eq_true, not_true_eq_false, false_imp_iff, true_imp_iff, Nat.ble_eq, Bool.and_eq_true, reduceCtorEq, or_false, false_or, or_true, true_or, false_and, and_false, and_self, Int.reduceLE, Int.reduceAdd, Int.reduceSub, Int.reduceMul, Int.reduceNeg, Int.reduceLT, Int.reduceEq, Int.reduceNe, Nat.reduceBEq, Nat.reduceBNe, Nat.reduceEqDiff, amCmp_in, amCmp_lt, amCmp_le, amCmp_gt, amCmp_ge, amCmp_eq, amCmp_ne, Nat.reduceLeDiff, Nat.reduceSub, Bool.and_true, Bool.true_and, Bool.and_self, Bool.or_true, Bool.true_or, isRf_3, isRf_4, isRf_5, isRf_8, isRf_9, isRf_10, isRf_11, isRf_15, isRf_16, isRf_17, isRf_18, isRf_19, isRf_20, isRf_21, isRf_22, isRf_23, isRf_24, isRf_25, isRf_26, isRf_27, isRf_28, k_X6_many_0, k_X6_many_1, k_X6_many_4, k_X6_many_7, k_X6_many_8, k_X6_many_11, k_X6_many_12, k_X6_many_13, k_X6_many_16, k_X6_many_17, w_X6_isKind_e, rfP_1 hp, alP_2 hp]
  unfold pcnt at h
  by_cases hc : 0 ≤ k ∧ k < 4
  · rw [if_pos hc] at h ⊢
    repeat' (first | assumption | apply And.intro | intro _)
    all_goals first | omega | exact h
  · rw [if_neg hc] at h ⊢
    repeat' (first | assumption | apply And.intro | intro _)
    all_goals first | omega | exact h
theorem wd_556 : Cond.methodLink RX6 75 yX6_many ∈ TBL := tb_tab (List.mem_of_getElem? (i := 556) (by decide +kernel)) rfl
theorem wd_559 : Cond.code yX6_many cX6_many 2 (some .int) ∈ TBL := tb_tab (List.mem_of_getElem? (i := 559) (by decide +kernel)) rfl
theorem lk_X6_75 : amLk RX6 75 yX6_many cX6_many 2 (some .int) 1 := ⟨wd_556, wd_3, wd_559, by decide +kernel, by decide +kernel, by decide⟩
theorem wd_557 : Cond.instanceMethod yX6_many ∈ TBL := tb_tab (List.mem_of_getElem? (i := 557) (by decide +kernel)) rfl
theorem wd_558 : Cond.selects RX6 yX6_many yX6_many ∈ TBL := tb_tab (List.mem_of_getElem? (i := 558) (by decide +kernel)) rfl
def a_X6_has : AC := [(0, vIload 2 1), (1, vIfLt 17 4), (4, vIload 2 5), (5, vAload 0 6), (6, vIload 1 7), (7, vCallM w_X6_many 22 1 10), (10, vIcGe 17 13), (13, vI 1 14), (14, vGoto 18), (17, vI 0 18), (18, vZret)]
theorem k_X6_has_0 : look a_X6_has 0 = vIload 2 1 := rfl
theorem k_X6_has_1 : look a_X6_has 1 = vIfLt 17 4 := rfl
theorem k_X6_has_4 : look a_X6_has 4 = vIload 2 5 := rfl
theorem k_X6_has_5 : look a_X6_has 5 = vAload 0 6 := rfl
theorem k_X6_has_6 : look a_X6_has 6 = vIload 1 7 := rfl
theorem k_X6_has_7 : look a_X6_has 7 = vCallM w_X6_many 22 1 10 := rfl
theorem k_X6_has_10 : look a_X6_has 10 = vIcGe 17 13 := rfl
theorem k_X6_has_13 : look a_X6_has 13 = vI 1 14 := rfl
theorem k_X6_has_14 : look a_X6_has 14 = vGoto 18 := rfl
theorem k_X6_has_17 : look a_X6_has 17 = vI 0 18 := rfl
theorem k_X6_has_18 : look a_X6_has 18 = vZret := rfl
theorem o_X6_has {X : amX} (e1 : XT X = TT) (e2 : XD X = 2) (hB : amB X RX6 cX6_has (some .boolean) 3) : ∀ pc, amOK X pc (look a_X6_has pc) := by
  have hT : amTok (XT X) := e1 ▸ TT_ok
  refine look_ok ?_
  unfold a_X6_has
  refine fc (ok_iload_n hB dX6_has_0) ?_
  refine fc (ok_if_lt hB (t := 17) (by decide) dX6_has_1) ?_
  refine fc (ok_iload_n hB dX6_has_4) ?_
  refine fc (ok_aload_n hB dX6_has_5) ?_
  refine fc (ok_iload_n hB dX6_has_6) ?_
  refine fc (ok_callM hB hT (e1 ▸ s_X6_many) lk_X6_75 (by rw [e2]; decide) (c := 6) rfl rfl rfl wd_557 wd_558 dX6_has_7) ?_
  refine fc (ok_icmp_ge hB (t := 17) (by decide) dX6_has_10) ?_
  refine fc (ok_iconst hB dX6_has_13) ?_
  refine fc (ok_goto hB (t := 18) (by decide) dX6_has_14) ?_
  refine fc (ok_iconst hB dX6_has_17) ?_
  refine fc (ok_zret hB dX6_has_18) ?_
  exact fn

def w_X6_has : WP := fun av σ Q => ∃ (p : Int) (k : Int) (i : Int), av = [(22, p), (0, k), (0, i)] ∧ (isP p ∧ InR k ∧ InR i ∧ InR (pcnt σ p k) ∧ Q (0, if 0 ≤ i ∧ i < pcnt σ p k then 1 else 0) σ)
theorem w_X6_has_e (p : Int) (k : Int) (i : Int) (σ : Mem) (Q : AV → Mem → Prop) : w_X6_has [(22, p), (0, k), (0, i)] σ Q = (isP p ∧ InR k ∧ InR i ∧ InR (pcnt σ p k) ∧ Q (0, if 0 ≤ i ∧ i < pcnt σ p k then 1 else 0) σ) := by
  apply propext; constructor
  · rintro ⟨p', k', i', h9, hb9⟩; cases h9; exact hb9
  · intro hb9; exact ⟨p, k, i, rfl, hb9⟩

set_option maxRecDepth 100000 in
set_option maxHeartbeats 4000000 in
theorem s_X6_has : ∀ av σ Q, w_X6_has av σ Q → amCall 2 0 0 TT yX6_has cX6_has 3 (some .boolean) av σ Q := by
  rintro av σ Q ⟨p, k, i, rfl, hp, hk, hi, hc, h⟩
  have hpb := isP_b hp
  refine am_m0 (own := RX6) (A := look a_X6_has) (fun X e1 e2 hB => o_X6_has e1 e2 hB) rfl (by decide +kernel) rfl rfl 60 (w := 3) ?_
  change vcs _ _ _ _ 60 0 [(22, p), (0, k), (0, i)] [] σ
  simp only [vI_e, vL_e, vNull_e, vIload_e, vLload_e, vAload_e, vIstore_e, vLstore_e, vAstore_e, vIinc_e, vIadd_e, vIsub_e, vImul_e, vIand_e, vIor_e, vIxor_e, vIshl_e, vIshr_e, vIushr_e, vIdiv_e, vIrem_e, vLadd_e, vLsub_e, vLmul_e, vLand_e, vLor_e, vLxor_e, vLdiv_e, vLrem_e, vLushr_e, vLshl_e, vLcmp_e, vIneg_e, vI2l_e, vL2i_e, vI2b_e, vI2c_e, vDup_e, vPop_e, vDup2_e, vGoto_e, vIcEq_e, vIfEq_e, vIcNe_e, vIfNe_e, vIcLt_e, vIfLt_e, vIcGe_e, vIfGe_e, vIcGt_e, vIfGt_e, vIcLe_e, vIfLe_e, vNonnull_e, vSw_e, vGetI_e, vGetL_e, vGetR_e, vPutI_e, vPutZ_e, vPutL_e, vPutR_e, vIald_e, vIald_s, vLald_e, vBald_e, vBald_s, vAald_e, vIast_e, vLast_e, vBast_e, vAast_e, vAlen_e8, vAlen_e9, vAlen_e10, vAlen_e11, vAlen_e5, vAlen_e3, vGets_e, vCompact_e, vLdcS_e, vIret_e, vZret_e, vCret_e, vBret_e, vLret_e, vVret_e, vAret_e, vCallM_e0, vCallMV_e0, vCallS_e0, vCallSV_e0, vCallM_e1, vCallMV_e1, vCallS_e1, vCallSV_e1, vCallM_e2, vCallMV_e2, vCallS_e2, vCallSV_e2, vCallM_e3, vCallMV_e3, vCallS_e3, vCallSV_e3, vCallM_e4, vCallMV_e4, vCallS_e4, vCallSV_e4, vCallM_e5, vCallMV_e5, vCallS_e5, vCallSV_e5, vCallM_e6, vCallMV_e6, vCallS_e6, vCallSV_e6, vCallM_e7, vCallMV_e7, vCallS_e7, vCallSV_e7, vBad_e, vStrVal_e, vStrCod_e, vForm_e, vCallT_e0, vCallT_e1, vCallT_e2, vCopy_e, rf_0_0, rf_0_1, rf_0_2, rf_0_3, rf_0_4, rf_0_7, rf_0_10, rf_0_11, rf_0_12, rf_0_13, rf_0_14, rf_0_15, rf_0_16, rf_1_0, rf_3_0, rf_3_1, rf_6_0, rf_6_1, rf_9_0, rf_9_1, rf_9_3, rf_13_0, rf_13_1, rf_13_2, rf_16_0, rf_16_1, rf_16_2, rf_16_3, rf_21_0, rf_21_1, rf_21_2, rf_21_3, rf_26_0, rf_26_1, rf_26_2, rf_26_3, rf_26_4, rf_26_5, rf_26_6, rf_31_0, rf_31_2, rf_31_5, rf_31_6, rf_36_0, rf_36_1, rf_36_2, rf_36_3, rf_39_0, rf_39_1, rf_39_2, rf_41_0, rf_41_1, rf_41_2, rf_41_3, rf_5000_1, rf_5000_2, rf_5000_3, rf_5000_4, rf_5000_5, rf_5000_15, rf_5000_16, rf_5000_18, rf_5000_19, rf_5000_20, rf_5000_21, rf_5000_22, rf_5000_23, rf_5000_24, rf_5000_25, rf_5000_26, rf_5000_27, rf_5000_36, rf_5000_37, rf_5000_40, rf_5000_41, rf_5000_42, rf_5000_43, rf_5000_44, rf_5000_45, rf_5000_47, rf_5000_52, rf_5000_54, rf_5000_55, rf_100_0, rf_100_1, rf_103_0, rf_103_1, rf_106_0, rf_106_1, rf_109_0, rf_109_1, al_2, al_4, al_5, al_7, al_8, al_10, al_11, al_12, al_14, al_15, al_17, al_18, al_19, al_20, al_22, al_23, al_24, al_25, al_27, al_28, al_29, al_30, al_32, al_33, al_34, al_35, al_37, al_38, al_40, al_42, al_5001, al_5002, al_5003, al_5004, al_5005, al_5006, al_5007, al_5008, al_5009, al_5010, al_5011, al_5012, al_5013, al_5014, al_5015, al_5016, al_5017, al_5018, al_5019, al_5020, al_5021, al_5022, al_5023, al_5024, al_5025, al_5026, al_9000, al_101, al_102, al_104, al_105, al_107, al_108, al_110, al_111, vcs_e, lg_c0, lg_cs, lg_nil, set_c0, set_cs, okst_0, okst_s, acok_n, acok_c, List.contains_nil, List.contains_cons, Bool.or_false, Bool.false_or, Bool.false_eq_true, if_false, if_true, ite_self, ne_eq, true_and, and_true, not_false_eq_true, not_true_eq_false, false_imp_iff, true_imp_iff, Nat.ble_eq, Bool.and_eq_true, reduceCtorEq, or_false, false_or, or_true, true_or, false_and, and_false, and_self, Int.reduceLE, Int.reduceAdd, Int.reduceSub, Int.reduceMul, Int.reduceNeg, Int.reduceLT, Int.reduceEq, Int.reduceNe, Nat.reduceBEq, Nat.reduceBNe, Nat.reduceEqDiff, amCmp_in, amCmp_lt, amCmp_le, amCmp_gt, amCmp_ge, amCmp_eq, amCmp_ne, Nat.reduceLeDiff, Nat.reduceSub, Bool.and_true, Bool.true_and, Bool.and_self, Bool.or_true, Bool.true_or, isRf_3, isRf_4, isRf_5, isRf_8, isRf_9, isRf_10, isRf_11, isRf_15, isRf_16, isRf_17, isRf_18, isRf_19, isRf_20, isRf_21, isRf_22, isRf_23, isRf_24, isRf_25, isRf_26, isRf_27, isRf_28, k_X6_has_0, k_X6_has_1, k_X6_has_4, k_X6_has_5, k_X6_has_6, k_X6_has_7, k_X6_has_10, k_X6_has_13, k_X6_has_14, k_X6_has_17, k_X6_has_18, w_X6_many_e]
  repeat' (first | assumption | apply And.intro | intro _)
  all_goals first | omega | (split at h <;> first | exact h | omega)
def a_X6_isTold : AC := [(0, vAload 0 1), (1, vI 2 2), (2, vCallM w_X6_many 22 1 5), (5, vIfLe 12 8), (8, vI 1 9), (9, vGoto 13), (12, vI 0 13), (13, vZret)]
theorem k_X6_isTold_0 : look a_X6_isTold 0 = vAload 0 1 := rfl
theorem k_X6_isTold_1 : look a_X6_isTold 1 = vI 2 2 := rfl
theorem k_X6_isTold_2 : look a_X6_isTold 2 = vCallM w_X6_many 22 1 5 := rfl
theorem k_X6_isTold_5 : look a_X6_isTold 5 = vIfLe 12 8 := rfl
theorem k_X6_isTold_8 : look a_X6_isTold 8 = vI 1 9 := rfl
theorem k_X6_isTold_9 : look a_X6_isTold 9 = vGoto 13 := rfl
theorem k_X6_isTold_12 : look a_X6_isTold 12 = vI 0 13 := rfl
theorem k_X6_isTold_13 : look a_X6_isTold 13 = vZret := rfl
theorem o_X6_isTold {X : amX} (e1 : XT X = TT) (e2 : XD X = 2) (hB : amB X RX6 cX6_isTold (some .boolean) 1) : ∀ pc, amOK X pc (look a_X6_isTold pc) := by
  have hT : amTok (XT X) := e1 ▸ TT_ok
  refine look_ok ?_
  unfold a_X6_isTold
  refine fc (ok_aload_n hB dX6_isTold_0) ?_
  refine fc (ok_iconst hB dX6_isTold_1) ?_
  refine fc (ok_callM hB hT (e1 ▸ s_X6_many) lk_X6_75 (by rw [e2]; decide) (c := 6) rfl rfl rfl wd_557 wd_558 dX6_isTold_2) ?_
  refine fc (ok_if_le hB (t := 12) (by decide) dX6_isTold_5) ?_
  refine fc (ok_iconst hB dX6_isTold_8) ?_
  refine fc (ok_goto hB (t := 13) (by decide) dX6_isTold_9) ?_
  refine fc (ok_iconst hB dX6_isTold_12) ?_
  refine fc (ok_zret hB dX6_isTold_13) ?_
  exact fn

def w_X6_isTold : WP := fun av σ Q => ∃ (p : Int), av = [(22, p)] ∧ (isP p ∧ InR (pcnt σ p 2) ∧ Q (0, if 0 < pcnt σ p 2 then 1 else 0) σ)
theorem w_X6_isTold_e (p : Int) (σ : Mem) (Q : AV → Mem → Prop) : w_X6_isTold [(22, p)] σ Q = (isP p ∧ InR (pcnt σ p 2) ∧ Q (0, if 0 < pcnt σ p 2 then 1 else 0) σ) := by
  apply propext; constructor
  · rintro ⟨p', h9, hb9⟩; cases h9; exact hb9
  · intro hb9; exact ⟨p, rfl, hb9⟩

set_option maxRecDepth 100000 in
set_option maxHeartbeats 4000000 in
theorem s_X6_isTold : ∀ av σ Q, w_X6_isTold av σ Q → amCall 2 0 0 TT yX6_isTold cX6_isTold 1 (some .boolean) av σ Q := by
  rintro av σ Q ⟨p, rfl, hp, hc, h⟩
  have hpb := isP_b hp
  refine am_m0 (own := RX6) (A := look a_X6_isTold) (fun X e1 e2 hB => o_X6_isTold e1 e2 hB) rfl (by decide +kernel) rfl rfl 60 (w := 1) ?_
  change vcs _ _ _ _ 60 0 [(22, p)] [] σ
  simp only [vI_e, vL_e, vNull_e, vIload_e, vLload_e, vAload_e, vIstore_e, vLstore_e, vAstore_e, vIinc_e, vIadd_e, vIsub_e, vImul_e, vIand_e, vIor_e, vIxor_e, vIshl_e, vIshr_e, vIushr_e, vIdiv_e, vIrem_e, vLadd_e, vLsub_e, vLmul_e, vLand_e, vLor_e, vLxor_e, vLdiv_e, vLrem_e, vLushr_e, vLshl_e, vLcmp_e, vIneg_e, vI2l_e, vL2i_e, vI2b_e, vI2c_e, vDup_e, vPop_e, vDup2_e, vGoto_e, vIcEq_e, vIfEq_e, vIcNe_e, vIfNe_e, vIcLt_e, vIfLt_e, vIcGe_e, vIfGe_e, vIcGt_e, vIfGt_e, vIcLe_e, vIfLe_e, vNonnull_e, vSw_e, vGetI_e, vGetL_e, vGetR_e, vPutI_e, vPutZ_e, vPutL_e, vPutR_e, vIald_e, vIald_s, vLald_e, vBald_e, vBald_s, vAald_e, vIast_e, vLast_e, vBast_e, vAast_e, vAlen_e8, vAlen_e9, vAlen_e10, vAlen_e11, vAlen_e5, vAlen_e3, vGets_e, vCompact_e, vLdcS_e, vIret_e, vZret_e, vCret_e, vBret_e, vLret_e, vVret_e, vAret_e, vCallM_e0, vCallMV_e0, vCallS_e0, vCallSV_e0, vCallM_e1, vCallMV_e1, vCallS_e1, vCallSV_e1, vCallM_e2, vCallMV_e2, vCallS_e2, vCallSV_e2, vCallM_e3, vCallMV_e3, vCallS_e3, vCallSV_e3, vCallM_e4, vCallMV_e4, vCallS_e4, vCallSV_e4, vCallM_e5, vCallMV_e5, vCallS_e5, vCallSV_e5, vCallM_e6, vCallMV_e6, vCallS_e6, vCallSV_e6, vCallM_e7, vCallMV_e7, vCallS_e7, vCallSV_e7, vBad_e, vStrVal_e, vStrCod_e, vForm_e, vCallT_e0, vCallT_e1, vCallT_e2, vCopy_e, rf_0_0, rf_0_1, rf_0_2, rf_0_3, rf_0_4, rf_0_7, rf_0_10, rf_0_11, rf_0_12, rf_0_13, rf_0_14, rf_0_15, rf_0_16, rf_1_0, rf_3_0, rf_3_1, rf_6_0, rf_6_1, rf_9_0, rf_9_1, rf_9_3, rf_13_0, rf_13_1, rf_13_2, rf_16_0, rf_16_1, rf_16_2, rf_16_3, rf_21_0, rf_21_1, rf_21_2, rf_21_3, rf_26_0, rf_26_1, rf_26_2, rf_26_3, rf_26_4, rf_26_5, rf_26_6, rf_31_0, rf_31_2, rf_31_5, rf_31_6, rf_36_0, rf_36_1, rf_36_2, rf_36_3, rf_39_0, rf_39_1, rf_39_2, rf_41_0, rf_41_1, rf_41_2, rf_41_3, rf_5000_1, rf_5000_2, rf_5000_3, rf_5000_4, rf_5000_5, rf_5000_15, rf_5000_16, rf_5000_18, rf_5000_19, rf_5000_20, rf_5000_21, rf_5000_22, rf_5000_23, rf_5000_24, rf_5000_25, rf_5000_26, rf_5000_27, rf_5000_36, rf_5000_37, rf_5000_40, rf_5000_41, rf_5000_42, rf_5000_43, rf_5000_44, rf_5000_45, rf_5000_47, rf_5000_52, rf_5000_54, rf_5000_55, rf_100_0, rf_100_1, rf_103_0, rf_103_1, rf_106_0, rf_106_1, rf_109_0, rf_109_1, al_2, al_4, al_5, al_7, al_8, al_10, al_11, al_12, al_14, al_15, al_17, al_18, al_19, al_20, al_22, al_23, al_24, al_25, al_27, al_28, al_29, al_30, al_32, al_33, al_34, al_35, al_37, al_38, al_40, al_42, al_5001, al_5002, al_5003, al_5004, al_5005, al_5006, al_5007, al_5008, al_5009, al_5010, al_5011, al_5012, al_5013, al_5014, al_5015, al_5016, al_5017, al_5018, al_5019, al_5020, al_5021, al_5022, al_5023, al_5024, al_5025, al_5026, al_9000, al_101, al_102, al_104, al_105, al_107, al_108, al_110, al_111, vcs_e, lg_c0, lg_cs, lg_nil, set_c0, set_cs, okst_0, okst_s, acok_n, acok_c, List.contains_nil, List.contains_cons, Bool.or_false, Bool.false_or, Bool.false_eq_true, if_false, if_true, ite_self, ne_eq, true_and, and_true, not_false_eq_true, not_true_eq_false, false_imp_iff, true_imp_iff, Nat.ble_eq, Bool.and_eq_true, reduceCtorEq, or_false, false_or, or_true, true_or, false_and, and_false, and_self, Int.reduceLE, Int.reduceAdd, Int.reduceSub, Int.reduceMul, Int.reduceNeg, Int.reduceLT, Int.reduceEq, Int.reduceNe, Nat.reduceBEq, Nat.reduceBNe, Nat.reduceEqDiff, amCmp_in, amCmp_lt, amCmp_le, amCmp_gt, amCmp_ge, amCmp_eq, amCmp_ne, Nat.reduceLeDiff, Nat.reduceSub, Bool.and_true, Bool.true_and, Bool.and_self, Bool.or_true, Bool.true_or, isRf_3, isRf_4, isRf_5, isRf_8, isRf_9, isRf_10, isRf_11, isRf_15, isRf_16, isRf_17, isRf_18, isRf_19, isRf_20, isRf_21, isRf_22, isRf_23, isRf_24, isRf_25, isRf_26, isRf_27, isRf_28, k_X6_isTold_0, k_X6_isTold_1, k_X6_isTold_2, k_X6_isTold_5, k_X6_isTold_8, k_X6_isTold_9, k_X6_isTold_12, k_X6_isTold_13, w_X6_many_e]
  repeat' (first | assumption | apply And.intro | intro _)
  all_goals first | omega | (split at h <;> first | exact h | omega)
def a_X6_everyChair : AC := [(0, vI 1 1), (1, vAload 0 2), (2, vI 2 3), (3, vCallM w_X6_many 22 1 6), (6, vIshl 7), (7, vI 1 8), (8, vIsub 9), (9, vIret)]
theorem k_X6_everyChair_0 : look a_X6_everyChair 0 = vI 1 1 := rfl
theorem k_X6_everyChair_1 : look a_X6_everyChair 1 = vAload 0 2 := rfl
theorem k_X6_everyChair_2 : look a_X6_everyChair 2 = vI 2 3 := rfl
theorem k_X6_everyChair_3 : look a_X6_everyChair 3 = vCallM w_X6_many 22 1 6 := rfl
theorem k_X6_everyChair_6 : look a_X6_everyChair 6 = vIshl 7 := rfl
theorem k_X6_everyChair_7 : look a_X6_everyChair 7 = vI 1 8 := rfl
theorem k_X6_everyChair_8 : look a_X6_everyChair 8 = vIsub 9 := rfl
theorem k_X6_everyChair_9 : look a_X6_everyChair 9 = vIret := rfl
theorem o_X6_everyChair {X : amX} (e1 : XT X = TT) (e2 : XD X = 2) (hB : amB X RX6 cX6_everyChair (some .int) 1) : ∀ pc, amOK X pc (look a_X6_everyChair pc) := by
  have hT : amTok (XT X) := e1 ▸ TT_ok
  refine look_ok ?_
  unfold a_X6_everyChair
  refine fc (ok_iconst hB dX6_everyChair_0) ?_
  refine fc (ok_aload_n hB dX6_everyChair_1) ?_
  refine fc (ok_iconst hB dX6_everyChair_2) ?_
  refine fc (ok_callM hB hT (e1 ▸ s_X6_many) lk_X6_75 (by rw [e2]; decide) (c := 6) rfl rfl rfl wd_557 wd_558 dX6_everyChair_3) ?_
  refine fc (ok_ishl hB dX6_everyChair_6) ?_
  refine fc (ok_iconst hB dX6_everyChair_7) ?_
  refine fc (ok_isub hB dX6_everyChair_8) ?_
  refine fc (ok_iret hB dX6_everyChair_9) ?_
  exact fn

def w_X6_everyChair : WP := fun av σ Q => ∃ (p : Int), av = [(22, p)] ∧ (isP p ∧ 0 ≤ pcnt σ p 2 ∧ pcnt σ p 2 ≤ 6 ∧ Q (0, 2 ^ (pcnt σ p 2).toNat - 1) σ)
theorem w_X6_everyChair_e (p : Int) (σ : Mem) (Q : AV → Mem → Prop) : w_X6_everyChair [(22, p)] σ Q = (isP p ∧ 0 ≤ pcnt σ p 2 ∧ pcnt σ p 2 ≤ 6 ∧ Q (0, 2 ^ (pcnt σ p 2).toNat - 1) σ) := by
  apply propext; constructor
  · rintro ⟨p', h9, hb9⟩; cases h9; exact hb9
  · intro hb9; exact ⟨p, rfl, hb9⟩

set_option maxRecDepth 100000 in
set_option maxHeartbeats 4000000 in
theorem s_X6_everyChair : ∀ av σ Q, w_X6_everyChair av σ Q → amCall 2 0 0 TT yX6_everyChair cX6_everyChair 1 (some .int) av σ Q := by
  rintro av σ Q ⟨p, rfl, hp, hc0, hc1, h⟩
  have hpb := isP_b hp
  refine am_m0 (own := RX6) (A := look a_X6_everyChair) (fun X e1 e2 hB => o_X6_everyChair e1 e2 hB) rfl (by decide +kernel) rfl rfl 60 (w := 1) ?_
  change vcs _ _ _ _ 60 0 [(22, p)] [] σ
  simp only [vI_e, vL_e, vNull_e, vIload_e, vLload_e, vAload_e, vIstore_e, vLstore_e, vAstore_e, vIinc_e, vIadd_e, vIsub_e, vImul_e, vIand_e, vIor_e, vIxor_e, vIshl_e, vIshr_e, vIushr_e, vIdiv_e, vIrem_e, vLadd_e, vLsub_e, vLmul_e, vLand_e, vLor_e, vLxor_e, vLdiv_e, vLrem_e, vLushr_e, vLshl_e, vLcmp_e, vIneg_e, vI2l_e, vL2i_e, vI2b_e, vI2c_e, vDup_e, vPop_e, vDup2_e, vGoto_e, vIcEq_e, vIfEq_e, vIcNe_e, vIfNe_e, vIcLt_e, vIfLt_e, vIcGe_e, vIfGe_e, vIcGt_e, vIfGt_e, vIcLe_e, vIfLe_e, vNonnull_e, vSw_e, vGetI_e, vGetL_e, vGetR_e, vPutI_e, vPutZ_e, vPutL_e, vPutR_e, vIald_e, vIald_s, vLald_e, vBald_e, vBald_s, vAald_e, vIast_e, vLast_e, vBast_e, vAast_e, vAlen_e8, vAlen_e9, vAlen_e10, vAlen_e11, vAlen_e5, vAlen_e3, vGets_e, vCompact_e, vLdcS_e, vIret_e, vZret_e, vCret_e, vBret_e, vLret_e, vVret_e, vAret_e, vCallM_e0, vCallMV_e0, vCallS_e0, vCallSV_e0, vCallM_e1, vCallMV_e1, vCallS_e1, vCallSV_e1, vCallM_e2, vCallMV_e2, vCallS_e2, vCallSV_e2, vCallM_e3, vCallMV_e3, vCallS_e3, vCallSV_e3, vCallM_e4, vCallMV_e4, vCallS_e4, vCallSV_e4, vCallM_e5, vCallMV_e5, vCallS_e5, vCallSV_e5, vCallM_e6, vCallMV_e6, vCallS_e6, vCallSV_e6, vCallM_e7, vCallMV_e7, vCallS_e7, vCallSV_e7, vBad_e, vStrVal_e, vStrCod_e, vForm_e, vCallT_e0, vCallT_e1, vCallT_e2, vCopy_e, rf_0_0, rf_0_1, rf_0_2, rf_0_3, rf_0_4, rf_0_7, rf_0_10, rf_0_11, rf_0_12, rf_0_13, rf_0_14, rf_0_15, rf_0_16, rf_1_0, rf_3_0, rf_3_1, rf_6_0, rf_6_1, rf_9_0, rf_9_1, rf_9_3, rf_13_0, rf_13_1, rf_13_2, rf_16_0, rf_16_1, rf_16_2, rf_16_3, rf_21_0, rf_21_1, rf_21_2, rf_21_3, rf_26_0, rf_26_1, rf_26_2, rf_26_3, rf_26_4, rf_26_5, rf_26_6, rf_31_0, rf_31_2, rf_31_5, rf_31_6, rf_36_0, rf_36_1, rf_36_2, rf_36_3, rf_39_0, rf_39_1, rf_39_2, rf_41_0, rf_41_1, rf_41_2, rf_41_3, rf_5000_1, rf_5000_2, rf_5000_3, rf_5000_4, rf_5000_5, rf_5000_15, rf_5000_16, rf_5000_18, rf_5000_19, rf_5000_20, rf_5000_21, rf_5000_22, rf_5000_23, rf_5000_24, rf_5000_25, rf_5000_26, rf_5000_27, rf_5000_36, rf_5000_37, rf_5000_40, rf_5000_41, rf_5000_42, rf_5000_43, rf_5000_44, rf_5000_45, rf_5000_47, rf_5000_52, rf_5000_54, rf_5000_55, rf_100_0, rf_100_1, rf_103_0, rf_103_1, rf_106_0, rf_106_1, rf_109_0, rf_109_1, al_2, al_4, al_5, al_7, al_8, al_10, al_11, al_12, al_14, al_15, al_17, al_18, al_19, al_20, al_22, al_23, al_24, al_25, al_27, al_28, al_29, al_30, al_32, al_33, al_34, al_35, al_37, al_38, al_40, al_42, al_5001, al_5002, al_5003, al_5004, al_5005, al_5006, al_5007, al_5008, al_5009, al_5010, al_5011, al_5012, al_5013, al_5014, al_5015, al_5016, al_5017, al_5018, al_5019, al_5020, al_5021, al_5022, al_5023, al_5024, al_5025, al_5026, al_9000, al_101, al_102, al_104, al_105, al_107, al_108, al_110, al_111, vcs_e, lg_c0, lg_cs, lg_nil, set_c0, set_cs, okst_0, okst_s, acok_n, acok_c, List.contains_nil, List.contains_cons, Bool.or_false, Bool.false_or, Bool.false_eq_true, if_false, if_true, ite_self, ne_eq, true_and, and_true, not_false_eq_true, not_true_eq_false, false_imp_iff, true_imp_iff, Nat.ble_eq, Bool.and_eq_true, reduceCtorEq, or_false, false_or, or_true, true_or, false_and, and_false, and_self, Int.reduceLE, Int.reduceAdd, Int.reduceSub, Int.reduceMul, Int.reduceNeg, Int.reduceLT, Int.reduceEq, Int.reduceNe, Nat.reduceBEq, Nat.reduceBNe, Nat.reduceEqDiff, amCmp_in, amCmp_lt, amCmp_le, amCmp_gt, amCmp_ge, amCmp_eq, amCmp_ne, Nat.reduceLeDiff, Nat.reduceSub, Bool.and_true, Bool.true_and, Bool.and_self, Bool.or_true, Bool.true_or, isRf_3, isRf_4, isRf_5, isRf_8, isRf_9, isRf_10, isRf_11, isRf_15, isRf_16, isRf_17, isRf_18, isRf_19, isRf_20, isRf_21, isRf_22, isRf_23, isRf_24, isRf_25, isRf_26, isRf_27, isRf_28, k_X6_everyChair_0, k_X6_everyChair_1, k_X6_everyChair_2, k_X6_everyChair_3, k_X6_everyChair_6, k_X6_everyChair_7, k_X6_everyChair_8, k_X6_everyChair_9, w_X6_many_e]
  have e9 : amIshl 1 (pcnt σ p 2) = 2 ^ (pcnt σ p 2).toNat := by
    generalize pcnt σ p 2 = c at *
    have : c = 0 ∨ c = 1 ∨ c = 2 ∨ c = 3 ∨ c = 4 ∨ c = 5 ∨ c = 6 := by omega
    rcases this with rfl | rfl | rfl | rfl | rfl | rfl | rfl <;> decide +kernel
  rw [e9]
  repeat' (first | assumption | apply And.intro | intro _)
  all_goals first | omega | exact h
