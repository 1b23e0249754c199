/-! the reference: FEED -/
def sby (b : Int) : Int := if b < 128 then b else b - 256
theorem sby_b {b : Int} (h : 0 ≤ b ∧ b < 256) : -128 ≤ sby b ∧ sby b ≤ 127 ∧ sby b % 256 = b := by unfold sby; split <;> omega
theorem i2b_m {z : Int} (hz : InR z) : amI2b z = sby (z % 256) := by
  have e : amI2b z = Int.bmod z 256 := by
    unfold amI2b
    exact ((Int8.toInt_toInt32 _).trans (Int32.toInt_toInt8 _)).trans (congrArg (fun t => Int.bmod t 256) hz.toInt)
  rw [e, Int.bmod_def]; unfold sby; split <;> split <;> omega
theorem i2b_ee {y : Int} (hy : InR y) : amI2b (amI2b y) = sby (y % 256) := by
  have b := sby_b (b := y % 256) ⟨by omega, by omega⟩
  rw [i2b_m hy, i2b_m (z := sby (y % 256)) ⟨by omega, by omega⟩, b.2.2]
theorem shr_24 {x : Int} (hx : InR x) : amIshr x 24 = x / 16777216 := by
  rw [amIshr_e hx (by decide) (by decide), show ((2 ^ (24 : Int).toNat : Nat) : Int) = 16777216 from rfl]
theorem shr_16 {x : Int} (hx : InR x) : amIshr x 16 = x / 65536 := by
  rw [amIshr_e hx (by decide) (by decide), show ((2 ^ (16 : Int).toNat : Nat) : Int) = 65536 from rfl]
theorem shr_8 {x : Int} (hx : InR x) : amIshr x 8 = x / 256 := by
  rw [amIshr_e hx (by decide) (by decide), show ((2 ^ (8 : Int).toNat : Nat) : Int) = 256 from rfl]
theorem shr_0 {x : Int} (hx : InR x) : amIshr x 0 = x / 1 := by
  rw [amIshr_e hx (by decide) (by decide), show ((2 ^ (0 : Int).toNat : Nat) : Int) = 1 from rfl]
theorem bs_24 {x : Int} (hx : InR x) : amIand (amIshr x 24) 255 = bte x 16777216 := by rw [amIand_255, shr_24 hx]; rfl
theorem bs_16 {x : Int} (hx : InR x) : amIand (amIshr x 16) 255 = bte x 65536 := by rw [amIand_255, shr_16 hx]; rfl
theorem bs_8 {x : Int} (hx : InR x) : amIand (amIshr x 8) 255 = bte x 256 := by rw [amIand_255, shr_8 hx]; rfl
theorem bs_0 {x : Int} (hx : InR x) : amIand (amIshr x 0) 255 = bte x 1 := by rw [amIand_255, shr_0 hx]; rfl
theorem ib_24 {x : Int} (hx : InR x) : amI2b (amI2b (amIshr x 24)) = sby (bte x 16777216) := by
  rw [shr_24 hx]; obtain ⟨a, b⟩ := hx; exact i2b_ee ⟨by omega, by omega⟩
theorem ib_16 {x : Int} (hx : InR x) : amI2b (amI2b (amIshr x 16)) = sby (bte x 65536) := by
  rw [shr_16 hx]; obtain ⟨a, b⟩ := hx; exact i2b_ee ⟨by omega, by omega⟩
theorem ib_8 {x : Int} (hx : InR x) : amI2b (amI2b (amIshr x 8)) = sby (bte x 256) := by
  rw [shr_8 hx]; obtain ⟨a, b⟩ := hx; exact i2b_ee ⟨by omega, by omega⟩
theorem ib_0 {x : Int} (hx : InR x) : amI2b (amI2b (amIshr x 0)) = sby (bte x 1) := by
  rw [shr_0 hx]; obtain ⟨a, b⟩ := hx; exact i2b_ee ⟨by omega, by omega⟩

def a_X12_bytesIn : AC := [(0, vI 0 1), (1, vIstore 1 2), (2, vI 24 4), (4, vIstore 2 5), (5, vIload 2 6), (6, vIfLt 33 9), (9, vIload 1 10), (10, vIload 0 11), (11, vIload 2 12), (12, vIshr 13), (13, vI 255 16), (16, vIand 17), (17, vIfEq 24 20), (20, vI 1 21), (21, vGoto 25), (24, vI 0 25), (25, vIadd 26), (26, vIstore 1 27), (27, vIinc 2 (-8) 30), (30, vGoto 5), (33, vIload 1 34), (34, vIret)]
theorem k_X12_bytesIn_0 : look a_X12_bytesIn 0 = vI 0 1 := rfl
theorem k_X12_bytesIn_1 : look a_X12_bytesIn 1 = vIstore 1 2 := rfl
theorem k_X12_bytesIn_2 : look a_X12_bytesIn 2 = vI 24 4 := rfl
theorem k_X12_bytesIn_4 : look a_X12_bytesIn 4 = vIstore 2 5 := rfl
theorem k_X12_bytesIn_5 : look a_X12_bytesIn 5 = vIload 2 6 := rfl
theorem k_X12_bytesIn_6 : look a_X12_bytesIn 6 = vIfLt 33 9 := rfl
theorem k_X12_bytesIn_9 : look a_X12_bytesIn 9 = vIload 1 10 := rfl
theorem k_X12_bytesIn_10 : look a_X12_bytesIn 10 = vIload 0 11 := rfl
theorem k_X12_bytesIn_11 : look a_X12_bytesIn 11 = vIload 2 12 := rfl
theorem k_X12_bytesIn_12 : look a_X12_bytesIn 12 = vIshr 13 := rfl
theorem k_X12_bytesIn_13 : look a_X12_bytesIn 13 = vI 255 16 := rfl
theorem k_X12_bytesIn_16 : look a_X12_bytesIn 16 = vIand 17 := rfl
theorem k_X12_bytesIn_17 : look a_X12_bytesIn 17 = vIfEq 24 20 := rfl
theorem k_X12_bytesIn_20 : look a_X12_bytesIn 20 = vI 1 21 := rfl
theorem k_X12_bytesIn_21 : look a_X12_bytesIn 21 = vGoto 25 := rfl
theorem k_X12_bytesIn_24 : look a_X12_bytesIn 24 = vI 0 25 := rfl
theorem k_X12_bytesIn_25 : look a_X12_bytesIn 25 = vIadd 26 := rfl
theorem k_X12_bytesIn_26 : look a_X12_bytesIn 26 = vIstore 1 27 := rfl
theorem k_X12_bytesIn_27 : look a_X12_bytesIn 27 = vIinc 2 (-8) 30 := rfl
theorem k_X12_bytesIn_30 : look a_X12_bytesIn 30 = vGoto 5 := rfl
theorem k_X12_bytesIn_33 : look a_X12_bytesIn 33 = vIload 1 34 := rfl
theorem k_X12_bytesIn_34 : look a_X12_bytesIn 34 = vIret := rfl
theorem o_X12_bytesIn {X : amX} (e1 : XT X = TT) (e2 : XD X = 0) (hB : amB X RX12 cX12_bytesIn (some .int) 3) : ∀ pc, amOK X pc (look a_X12_bytesIn pc) := by
  have hT : amTok (XT X) := e1 ▸ TT_ok
  refine look_ok ?_
  unfold a_X12_bytesIn
  refine fc (ok_iconst hB dX12_bytesIn_0) ?_
  refine fc (ok_istore_n hB (by decide) dX12_bytesIn_1) ?_
  refine fc (ok_bipush hB dX12_bytesIn_2 (by decide)) ?_
  refine fc (ok_istore_n hB (by decide) dX12_bytesIn_4) ?_
  refine fc (ok_iload_n hB dX12_bytesIn_5) ?_
  refine fc (ok_if_lt hB (t := 33) (by decide) dX12_bytesIn_6) ?_
  refine fc (ok_iload_n hB dX12_bytesIn_9) ?_
  refine fc (ok_iload_n hB dX12_bytesIn_10) ?_
  refine fc (ok_iload_n hB dX12_bytesIn_11) ?_
  refine fc (ok_ishr hB dX12_bytesIn_12) ?_
  refine fc (ok_sipush hB dX12_bytesIn_13 (by decide)) ?_
  refine fc (ok_iand hB dX12_bytesIn_16) ?_
  refine fc (ok_if_eq hB (t := 24) (by decide) dX12_bytesIn_17) ?_
  refine fc (ok_iconst hB dX12_bytesIn_20) ?_
  refine fc (ok_goto hB (t := 25) (by decide) dX12_bytesIn_21) ?_
  refine fc (ok_iconst hB dX12_bytesIn_24) ?_
  refine fc (ok_iadd hB dX12_bytesIn_25) ?_
  refine fc (ok_istore_n hB (by decide) dX12_bytesIn_26) ?_
  refine fc (ok_iinc hB (by decide) dX12_bytesIn_27) ?_
  refine fc (ok_goto hB (t := 5) (by decide) dX12_bytesIn_30) ?_
  refine fc (ok_iload_n hB dX12_bytesIn_33) ?_
  refine fc (ok_iret hB dX12_bytesIn_34) ?_
  exact fn

def w_X12_bytesIn : WP := fun av σ Q => ∃ (x : Int), av = [(0, x)] ∧ (InR x ∧ Q (0, nzc x) σ)
theorem w_X12_bytesIn_e (x : Int) (σ : Mem) (Q : AV → Mem → Prop) : w_X12_bytesIn [(0, x)] σ Q = (InR x ∧ Q (0, nzc x) σ) := by
  apply propext; constructor
  · rintro ⟨x', h9, hb9⟩; cases h9; exact hb9
  · intro hb9; exact ⟨x, rfl, hb9⟩

set_option maxRecDepth 100000 in
set_option maxHeartbeats 4000000 in
theorem s_X12_bytesIn : ∀ av σ Q, w_X12_bytesIn av σ Q → amCall 0 0 0 TT yX12_bytesIn cX12_bytesIn 3 (some .int) av σ Q := by
  rintro av σ Q ⟨x, rfl, hx, h⟩
  refine am_m0 (own := RX12) (A := look a_X12_bytesIn) (fun X e1 e2 hB => o_X12_bytesIn e1 e2 hB) rfl (by decide +kernel) rfl rfl 120 (w := 3) ?_
  change vcs _ _ _ _ 120 0 [(0, x), (6, 0), (6, 0)] [] σ
  simp only [↓reduceIte, inR_0, inR_1, inR_m, vSw2_e, swP_n, swP_c, vI_e, vL_e, vNull_e, vIload_e, vLload_e, vAload_e, vIstore_e, vLstore_e, vAstore_e, vIinc_e, vIadd_e, vIsub_e, vImul_e, vIand_e, vIor_e, vIxor_e, vIshl_e, vIshr_e, vIushr_e, vIdiv_e, vIrem_e, vLadd_e, vLsub_e, vLmul_e, vLand_e, vLor_e, vLxor_e, vLdiv_e, vLrem_e, vLushr_e, vLshl_e, vLcmp_e, vIneg_e, vI2l_e, vL2i_e, vI2b_e, vI2c_e, vDup_e, vPop_e, vDup2_e, vGoto_e, vIcEq_e, vIfEq_e, vIcNe_e, vIfNe_e, vIcLt_e, vIfLt_e, vIcGe_e, vIfGe_e, vIcGt_e, vIfGt_e, vIcLe_e, vIfLe_e, vNonnull_e, vSw_e, vGetI_e, vGetL_e, vGetR_e, vPutI_e, vPutZ_e, vPutL_e, vPutR_e, vIald_e, vIald_s, vLald_e, vBald_e, vBald_s, vAald_e, vIast_e, vLast_e, vBast_e, vAast_e, vAlen_e8, vAlen_e9, vAlen_e10, vAlen_e11, vAlen_e5, vAlen_e3, vGets_e, vCompact_e, vLdcS_e, vIret_e, vZret_e, vCret_e, vBret_e, vLret_e, vVret_e, vAret_e, vCallM_e0, vCallMV_e0, vCallS_e0, vCallSV_e0, vCallM_e1, vCallMV_e1, vCallS_e1, vCallSV_e1, vCallM_e2, vCallMV_e2, vCallS_e2, vCallSV_e2, vCallM_e3, vCallMV_e3, vCallS_e3, vCallSV_e3, vCallM_e4, vCallMV_e4, vCallS_e4, vCallSV_e4, vCallM_e5, vCallMV_e5, vCallS_e5, vCallSV_e5, vCallM_e6, vCallMV_e6, vCallS_e6, vCallSV_e6, vCallM_e7, vCallMV_e7, vCallS_e7, vCallSV_e7, vBad_e, vStrVal_e, vStrCod_e, vForm_e, vCallT_e0, vCallT_e1, vCallT_e2, vCopy_e, rf_0_0, rf_0_1, rf_0_2, rf_0_3, rf_0_4, rf_0_7, rf_0_10, rf_0_11, rf_0_12, rf_0_13, rf_0_14, rf_0_15, rf_0_16, rf_1_0, rf_3_0, rf_3_1, rf_6_0, rf_6_1, rf_9_0, rf_9_1, rf_9_3, rf_13_0, rf_13_1, rf_13_2, rf_16_0, rf_16_1, rf_16_2, rf_16_3, rf_21_0, rf_21_1, rf_21_2, rf_21_3, rf_26_0, rf_26_1, rf_26_2, rf_26_3, rf_26_4, rf_26_5, rf_26_6, rf_31_0, rf_31_2, rf_31_5, rf_31_6, rf_36_0, rf_36_1, rf_36_2, rf_36_3, rf_39_0, rf_39_1, rf_39_2, rf_41_0, rf_41_1, rf_41_2, rf_41_3, rf_5000_1, rf_5000_2, rf_5000_3, rf_5000_4, rf_5000_5, rf_5000_15, rf_5000_16, rf_5000_18, rf_5000_19, rf_5000_20, rf_5000_21, rf_5000_22, rf_5000_23, rf_5000_24, rf_5000_25, rf_5000_26, rf_5000_27, rf_5000_36, rf_5000_37, rf_5000_40, rf_5000_41, rf_5000_42, rf_5000_43, rf_5000_44, rf_5000_45, rf_5000_47, rf_5000_52, rf_5000_54, rf_5000_55, rf_100_0, rf_100_1, rf_103_0, rf_103_1, rf_106_0, rf_106_1, rf_109_0, rf_109_1, al_2, al_4, al_5, al_7, al_8, al_10, al_11, al_12, al_14, al_15, al_17, al_18, al_19, al_20, al_22, al_23, al_24, al_25, al_27, al_28, al_29, al_30, al_32, al_33, al_34, al_35, al_37, al_38, al_40, al_42, al_5001, al_5002, al_5003, al_5004, al_5005, al_5006, al_5007, al_5008, al_5009, al_5010, al_5011, al_5012, al_5013, al_5014, al_5015, al_5016, al_5017, al_5018, al_5019, al_5020, al_5021, al_5022, al_5023, al_5024, al_5025, al_5026, al_9000, al_101, al_102, al_104, al_105, al_107, al_108, al_110, al_111, vcs_e, lg_c0, lg_cs, lg_nil, set_c0, set_cs, okst_0, okst_s, acok_n, acok_c, List.contains_nil, List.contains_cons, Bool.or_false, Bool.false_or, Bool.false_eq_true, if_false, if_true, ite_self, ne_eq, true_and, and_true, not_false_eq_true, not_true_eq_false, false_imp_iff, true_imp_iff, Nat.ble_eq, Bool.and_eq_true, reduceCtorEq, or_false, false_or, or_true, true_or, false_and, and_false, and_self, Int.reduceLE, Int.reduceAdd, Int.reduceSub, Int.reduceMul, Int.reduceNeg, Int.reduceLT, Int.reduceEq, Int.reduceNe, Nat.reduceBEq, Nat.reduceBNe, Nat.reduceEqDiff, amCmp_in, amCmp_lt, amCmp_le, amCmp_gt, amCmp_ge, amCmp_eq, amCmp_ne, Nat.reduceLeDiff, Nat.reduceSub, Bool.and_true, Bool.true_and, Bool.and_self, Bool.or_true, Bool.true_or, isRf_3, isRf_4, isRf_5, isRf_8, isRf_9, isRf_10, isRf_11, isRf_15, isRf_16, isRf_17, isRf_18, isRf_19, isRf_20, isRf_21, isRf_22, isRf_23, isRf_24, isRf_25, isRf_26, isRf_27, isRf_28, k_X12_bytesIn_0, k_X12_bytesIn_1, k_X12_bytesIn_2, k_X12_bytesIn_4, k_X12_bytesIn_5, k_X12_bytesIn_6, k_X12_bytesIn_9, k_X12_bytesIn_10, k_X12_bytesIn_11, k_X12_bytesIn_12, k_X12_bytesIn_13, k_X12_bytesIn_16, k_X12_bytesIn_17, k_X12_bytesIn_20, k_X12_bytesIn_21, k_X12_bytesIn_24, k_X12_bytesIn_25, k_X12_bytesIn_26, k_X12_bytesIn_27, k_X12_bytesIn_30, k_X12_bytesIn_33, k_X12_bytesIn_34, bs_24 hx, bs_16 hx, bs_8 hx, bs_0 hx, Int.reduceAdd, Int.reduceNeg]
  have b1 := bte_bd x 16777216
  have b2 := bte_bd x 65536
  have b3 := bte_bd x 256
  have b4 := bte_bd x 1
  repeat' (first | assumption | apply And.intro | intro _)
  all_goals first | omega | exact Qe h (by unfold nzc; omega)
/-- a byte put on the tape -/
def mPu (σ : Mem) (b : Int) : Mem := if b = 0 then σ else up (up σ 5001 (σ 5000 6) (sby b)) 5000 6 (σ 5000 6 + 1)
theorem mPu_0 {σ : Mem} {b : Int} (h : b = 0) : mPu σ b = σ := if_pos h
theorem mPu_1 {σ : Mem} {b : Int} (h : ¬ b = 0) : mPu σ b = up (up σ 5001 (σ 5000 6) (sby b)) 5000 6 (σ 5000 6 + 1) := if_neg h
theorem mPu_6 {σ : Mem} {b : Int} (h : 0 ≤ b) : mPu σ b 5000 6 = σ 5000 6 + min b 1 := by
  unfold mPu
  split
  · omega
  · rw [up_s]; omega
def mPf (σ : Mem) (x : Int) : Mem := mPu (mPu (mPu (mPu σ (bte x 16777216)) (bte x 65536)) (bte x 256)) (bte x 1)
theorem mPf_6 (σ : Mem) (x : Int) : mPf σ x 5000 6 = σ 5000 6 + nzc x := by
  have b1 := bte_bd x 16777216
  have b2 := bte_bd x 65536
  have b3 := bte_bd x 256
  have b4 := bte_bd x 1
  unfold mPf nzc
  rw [mPu_6 b4.1, mPu_6 b3.1, mPu_6 b2.1, mPu_6 b1.1]; omega
theorem wd_1306 : Cond.fieldLink RX12 9 "ArmchairHouseModel" "tape" "[B" ∈ TBL := tb_tab (List.mem_of_getElem? (i := 1306) (by decide +kernel)) rfl
theorem fl_X12_9 : amFl RX12 12 1 9 RX12 TX12 57 := ⟨rfl, inT_12, by decide, wd_1306⟩
def a_X12_put : AC := [(0, vI 24 2), (2, vIstore 2 3), (3, vIload 2 4), (4, vIfLt 49 7), (7, vIload 1 8), (8, vIload 2 9), (9, vIshr 10), (10, vI 255 13), (13, vIand 14), (14, vIfNe 20 17), (17, vGoto 43), (20, vAload 0 21), (21, vGetR TT 28 1 10 24), (24, vAload 0 25), (25, vGetI 28 6 28), (28, vIload 1 29), (29, vIload 2 30), (30, vIshr 31), (31, vI2b 32), (32, vBast TT 33), (33, vAload 0 34), (34, vDup 35), (35, vGetI 28 6 38), (38, vI 1 39), (39, vIadd 40), (40, vPutI 28 6 43), (43, vIinc 2 (-8) 46), (46, vGoto 3), (49, vVret)]
theorem k_X12_put_0 : look a_X12_put 0 = vI 24 2 := rfl
theorem k_X12_put_2 : look a_X12_put 2 = vIstore 2 3 := rfl
theorem k_X12_put_3 : look a_X12_put 3 = vIload 2 4 := rfl
theorem k_X12_put_4 : look a_X12_put 4 = vIfLt 49 7 := rfl
theorem k_X12_put_7 : look a_X12_put 7 = vIload 1 8 := rfl
theorem k_X12_put_8 : look a_X12_put 8 = vIload 2 9 := rfl
theorem k_X12_put_9 : look a_X12_put 9 = vIshr 10 := rfl
theorem k_X12_put_10 : look a_X12_put 10 = vI 255 13 := rfl
theorem k_X12_put_13 : look a_X12_put 13 = vIand 14 := rfl
theorem k_X12_put_14 : look a_X12_put 14 = vIfNe 20 17 := rfl
theorem k_X12_put_17 : look a_X12_put 17 = vGoto 43 := rfl
theorem k_X12_put_20 : look a_X12_put 20 = vAload 0 21 := rfl
theorem k_X12_put_21 : look a_X12_put 21 = vGetR TT 28 1 10 24 := rfl
theorem k_X12_put_24 : look a_X12_put 24 = vAload 0 25 := rfl
theorem k_X12_put_25 : look a_X12_put 25 = vGetI 28 6 28 := rfl
theorem k_X12_put_28 : look a_X12_put 28 = vIload 1 29 := rfl
theorem k_X12_put_29 : look a_X12_put 29 = vIload 2 30 := rfl
theorem k_X12_put_30 : look a_X12_put 30 = vIshr 31 := rfl
theorem k_X12_put_31 : look a_X12_put 31 = vI2b 32 := rfl
theorem k_X12_put_32 : look a_X12_put 32 = vBast TT 33 := rfl
theorem k_X12_put_33 : look a_X12_put 33 = vAload 0 34 := rfl
theorem k_X12_put_34 : look a_X12_put 34 = vDup 35 := rfl
theorem k_X12_put_35 : look a_X12_put 35 = vGetI 28 6 38 := rfl
theorem k_X12_put_38 : look a_X12_put 38 = vI 1 39 := rfl
theorem k_X12_put_39 : look a_X12_put 39 = vIadd 40 := rfl
theorem k_X12_put_40 : look a_X12_put 40 = vPutI 28 6 43 := rfl
theorem k_X12_put_43 : look a_X12_put 43 = vIinc 2 (-8) 46 := rfl
theorem k_X12_put_46 : look a_X12_put 46 = vGoto 3 := rfl
theorem k_X12_put_49 : look a_X12_put 49 = vVret := rfl
theorem o_X12_put {X : amX} (e1 : XT X = TT) (e2 : XD X = 0) (hB : amB X RX12 cX12_put (none) 3) : ∀ pc, amOK X pc (look a_X12_put pc) := by
  have hT : amTok (XT X) := e1 ▸ TT_ok
  refine look_ok ?_
  unfold a_X12_put
  refine fc (ok_bipush hB dX12_put_0 (by decide)) ?_
  refine fc (ok_istore_n hB (by decide) dX12_put_2) ?_
  refine fc (ok_iload_n hB dX12_put_3) ?_
  refine fc (ok_if_lt hB (t := 49) (by decide) dX12_put_4) ?_
  refine fc (ok_iload_n hB dX12_put_7) ?_
  refine fc (ok_iload_n hB dX12_put_8) ?_
  refine fc (ok_ishr hB dX12_put_9) ?_
  refine fc (ok_sipush hB dX12_put_10 (by decide)) ?_
  refine fc (ok_iand hB dX12_put_13) ?_
  refine fc (ok_if_ne hB (t := 20) (by decide) dX12_put_14) ?_
  refine fc (ok_goto hB (t := 43) (by decide) dX12_put_17) ?_
  refine fc (ok_aload_n hB dX12_put_20) ?_
  refine fc (okt_getR e1 hB hT fl_X12_9 rfl af_12_1 at_12_1 (by decide) dX12_put_21) ?_
  refine fc (ok_aload_n hB dX12_put_24) ?_
  refine fc (ok_getI hB hT fl_X12_124 rfl rfl (Or.inl af_12_6) dX12_put_25) ?_
  refine fc (ok_iload_n hB dX12_put_28) ?_
  refine fc (ok_iload_n hB dX12_put_29) ?_
  refine fc (ok_ishr hB dX12_put_30) ?_
  refine fc (ok_i2b hB dX12_put_31) ?_
  refine fc (okt_bastore e1 hB dX12_put_32) ?_
  refine fc (ok_aload_n hB dX12_put_33) ?_
  refine fc (ok_dup hB dX12_put_34) ?_
  refine fc (ok_getI hB hT fl_X12_124 rfl rfl (Or.inl af_12_6) dX12_put_35) ?_
  refine fc (ok_iconst hB dX12_put_38) ?_
  refine fc (ok_iadd hB dX12_put_39) ?_
  refine fc (ok_putI hB hT fp_X12_124 rfl rfl rfl af_12_6 dX12_put_40) ?_
  refine fc (ok_iinc hB (by decide) dX12_put_43) ?_
  refine fc (ok_goto hB (t := 3) (by decide) dX12_put_46) ?_
  refine fc (ok_vret hB dX12_put_49) ?_
  exact fn
def inv_mpu (x : Int) (σ : Mem) (n pc : Nat) (ls st : List AV) (σ' : Mem) : Prop := pc = 3 ∧ st = [] ∧ 0 ≤ σ' 5000 6 ∧ ((n = 4 ∧ ls = [(28, 5000), (0, x), (0, 24)] ∧ σ' = σ ∧ σ' 5000 6 + nzc x ≤ 240) ∨ (n = 3 ∧ ls = [(28, 5000), (0, x), (0, 16)] ∧ σ' = mPu σ (bte x 16777216) ∧ σ' 5000 6 + min (bte x 65536) 1 + min (bte x 256) 1 + min (bte x 1) 1 ≤ 240) ∨ (n = 2 ∧ ls = [(28, 5000), (0, x), (0, 8)] ∧ σ' = mPu (mPu σ (bte x 16777216)) (bte x 65536) ∧ σ' 5000 6 + min (bte x 256) 1 + min (bte x 1) 1 ≤ 240) ∨ (n = 1 ∧ ls = [(28, 5000), (0, x), (0, 0)] ∧ σ' = mPu (mPu (mPu σ (bte x 16777216)) (bte x 65536)) (bte x 256) ∧ σ' 5000 6 + min (bte x 1) 1 ≤ 240) ∨ (n = 0 ∧ ls = [(28, 5000), (0, x), (0, -8)] ∧ σ' = mPf σ x))
def w_X12_put : WP := fun av σ Q => ∃ (x : Int), av = [(28, 5000), (0, x)] ∧ (InR x ∧ 0 ≤ σ 5000 6 ∧ σ 5000 6 + nzc x ≤ 240 ∧ Q (6, 0) (mPf σ x))
theorem w_X12_put_e (x : Int) (σ : Mem) (Q : AV → Mem → Prop) : w_X12_put [(28, 5000), (0, x)] σ Q = (InR x ∧ 0 ≤ σ 5000 6 ∧ σ 5000 6 + nzc x ≤ 240 ∧ Q (6, 0) (mPf σ x)) := by
  apply propext; constructor
  · rintro ⟨x', h9, hb9⟩; cases h9; exact hb9
  · intro hb9; exact ⟨x, rfl, hb9⟩

set_option maxRecDepth 100000 in
set_option maxHeartbeats 4000000 in
theorem s_X12_put : ∀ av σ Q, w_X12_put av σ Q → amCall 0 0 0 TT yX12_put cX12_put 3 (none) av σ Q := by
  rintro av σ Q ⟨x, rfl, hx, h0, h1, h⟩
  have b1 := bte_bd x 16777216
  have b2 := bte_bd x 65536
  have b3 := bte_bd x 256
  have b4 := bte_bd x 1
  have e2 : ∀ (τ : Mem) (v : Int), up τ 5001 (τ 5000 6) v 5000 6 = τ 5000 6 := fun τ v => by rw [up_na _ (by decide)]
  have nz : nzc x = min (bte x 16777216) 1 + min (bte x 65536) 1 + min (bte x 256) 1 + min (bte x 1) 1 := rfl
  refine am_m [3] (inv_mpu x σ) (own := RX12) (A := look a_X12_put) (fun X e1 e2 hB => o_X12_put e1 e2 hB) rfl (by decide +kernel) rfl rfl ?_ ⟨60, ?_⟩ (w := 3)
  · rintro n pc ls st σ' ⟨rfl, rfl, l0, hc⟩
    refine ⟨60, ?_⟩
    rcases hc with ⟨rfl, rfl, rfl, hl⟩ | ⟨rfl, rfl, rfl, hl⟩ | ⟨rfl, rfl, rfl, hl⟩ | ⟨rfl, rfl, rfl, hl⟩ | ⟨rfl, rfl, rfl⟩
    · have s6 := mPu_6 (σ := σ') b1.1
      have i9 : ∃ k', k' < 4 ∧ inv_mpu x σ' k' 3 [(28, 5000), (0, x), (0, 16)] [] (mPu σ' (bte x 16777216)) := ⟨3, by decide, rfl, rfl, by omega, Or.inr (Or.inl ⟨rfl, rfl, rfl, by omega⟩)⟩
      by_cases z : bte x 16777216 = 0
      · rw [mPu_0 z] at i9
        simp only [↓reduceIte, inR_0, inR_1, inR_m, vSw2_e, swP_n, swP_c, vI_e, vL_e, vNull_e, vIload_e, vLload_e, vAload_e, vIstore_e, vLstore_e, vAstore_e, vIinc_e, vIadd_e, vIsub_e, vImul_e, vIand_e, vIor_e, vIxor_e, vIshl_e, vIshr_e, vIushr_e, vIdiv_e, vIrem_e, vLadd_e, vLsub_e, vLmul_e, vLand_e, vLor_e, vLxor_e, vLdiv_e, vLrem_e, vLushr_e, vLshl_e, vLcmp_e, vIneg_e, vI2l_e, vL2i_e, vI2b_e, vI2c_e, vDup_e, vPop_e, vDup2_e, vGoto_e, vIcEq_e, vIfEq_e, vIcNe_e, vIfNe_e, vIcLt_e, vIfLt_e, vIcGe_e, vIfGe_e, vIcGt_e, vIfGt_e, vIcLe_e, vIfLe_e, vNonnull_e, vSw_e, vGetI_e, vGetL_e, vGetR_e, vPutI_e, vPutZ_e, vPutL_e, vPutR_e, vIald_e, vIald_s, vLald_e, vBald_e, vBald_s, vAald_e, vIast_e, vLast_e, vBast_e, vAast_e, vAlen_e8, vAlen_e9, vAlen_e10, vAlen_e11, vAlen_e5, vAlen_e3, vGets_e, vCompact_e, vLdcS_e, vIret_e, vZret_e, vCret_e, vBret_e, vLret_e, vVret_e, vAret_e, vCallM_e0, vCallMV_e0, vCallS_e0, vCallSV_e0, vCallM_e1, vCallMV_e1, vCallS_e1, vCallSV_e1, vCallM_e2, vCallMV_e2, vCallS_e2, vCallSV_e2, vCallM_e3, vCallMV_e3, vCallS_e3, vCallSV_e3, vCallM_e4, vCallMV_e4, vCallS_e4, vCallSV_e4, vCallM_e5, vCallMV_e5, vCallS_e5, vCallSV_e5, vCallM_e6, vCallMV_e6, vCallS_e6, vCallSV_e6, vCallM_e7, vCallMV_e7, vCallS_e7, vCallSV_e7, vBad_e, vStrVal_e, vStrCod_e, vForm_e, vCallT_e0, vCallT_e1, vCallT_e2, vCopy_e, rf_0_0, rf_0_1, rf_0_2, rf_0_3, rf_0_4, rf_0_7, rf_0_10, rf_0_11, rf_0_12, rf_0_13, rf_0_14, rf_0_15, rf_0_16, rf_1_0, rf_3_0, rf_3_1, rf_6_0, rf_6_1, rf_9_0, rf_9_1, rf_9_3, rf_13_0, rf_13_1, rf_13_2, rf_16_0, rf_16_1, rf_16_2, rf_16_3, rf_21_0, rf_21_1, rf_21_2, rf_21_3, rf_26_0, rf_26_1, rf_26_2, rf_26_3, rf_26_4, rf_26_5, rf_26_6, rf_31_0, rf_31_2, rf_31_5, rf_31_6, rf_36_0, rf_36_1, rf_36_2, rf_36_3, rf_39_0, rf_39_1, rf_39_2, rf_41_0, rf_41_1, rf_41_2, rf_41_3, rf_5000_1, rf_5000_2, rf_5000_3, rf_5000_4, rf_5000_5, rf_5000_15, rf_5000_16, rf_5000_18, rf_5000_19, rf_5000_20, rf_5000_21, rf_5000_22, rf_5000_23, rf_5000_24, rf_5000_25, rf_5000_26, rf_5000_27, rf_5000_36, rf_5000_37, rf_5000_40, rf_5000_41, rf_5000_42, rf_5000_43, rf_5000_44, rf_5000_45, rf_5000_47, rf_5000_52, rf_5000_54, rf_5000_55, rf_100_0, rf_100_1, rf_103_0, rf_103_1, rf_106_0, rf_106_1, rf_109_0, rf_109_1, al_2, al_4, al_5, al_7, al_8, al_10, al_11, al_12, al_14, al_15, al_17, al_18, al_19, al_20, al_22, al_23, al_24, al_25, al_27, al_28, al_29, al_30, al_32, al_33, al_34, al_35, al_37, al_38, al_40, al_42, al_5001, al_5002, al_5003, al_5004, al_5005, al_5006, al_5007, al_5008, al_5009, al_5010, al_5011, al_5012, al_5013, al_5014, al_5015, al_5016, al_5017, al_5018, al_5019, al_5020, al_5021, al_5022, al_5023, al_5024, al_5025, al_5026, al_9000, al_101, al_102, al_104, al_105, al_107, al_108, al_110, al_111, vcs_e, lg_c0, lg_cs, lg_nil, set_c0, set_cs, okst_0, okst_s, acok_n, acok_c, List.contains_nil, List.contains_cons, Bool.or_false, Bool.false_or, Bool.false_eq_true, if_false, if_true, ite_self, ne_eq, true_and, and_true, not_false_eq_true, not_true_eq_false, false_imp_iff, true_imp_iff, Nat.ble_eq, Bool.and_eq_true, reduceCtorEq, or_false, false_or, or_true, true_or, false_and, and_false, and_self, Int.reduceLE, Int.reduceAdd, Int.reduceSub, Int.reduceMul, Int.reduceNeg, Int.reduceLT, Int.reduceEq, Int.reduceNe, Nat.reduceBEq, Nat.reduceBNe, Nat.reduceEqDiff, amCmp_in, amCmp_lt, amCmp_le, amCmp_gt, amCmp_ge, amCmp_eq, amCmp_ne, Nat.reduceLeDiff, Nat.reduceSub, Bool.and_true, Bool.true_and, Bool.and_self, Bool.or_true, Bool.true_or, isRf_3, isRf_4, isRf_5, isRf_8, isRf_9, isRf_10, isRf_11, isRf_15, isRf_16, isRf_17, isRf_18, isRf_19, isRf_20, isRf_21, isRf_22, isRf_23, isRf_24, isRf_25, isRf_26, isRf_27, isRf_28, k_X12_put_0, k_X12_put_2, k_X12_put_3, k_X12_put_4, k_X12_put_7, k_X12_put_8, k_X12_put_9, k_X12_put_10, k_X12_put_13, k_X12_put_14, k_X12_put_17, k_X12_put_20, k_X12_put_21, k_X12_put_24, k_X12_put_25, k_X12_put_28, k_X12_put_29, k_X12_put_30, k_X12_put_31, k_X12_put_32, k_X12_put_33, k_X12_put_34, k_X12_put_35, k_X12_put_38, k_X12_put_39, k_X12_put_40, k_X12_put_43, k_X12_put_46, k_X12_put_49, bs_24 hx, ib_24 hx, e2, z]
        repeat' (first | apply And.intro | intro _)
        all_goals first | omega | exact i9
      · rw [mPu_1 z] at i9
        simp only [↓reduceIte, inR_0, inR_1, inR_m, vSw2_e, swP_n, swP_c, vI_e, vL_e, vNull_e, vIload_e, vLload_e, vAload_e, vIstore_e, vLstore_e, vAstore_e, vIinc_e, vIadd_e, vIsub_e, vImul_e, vIand_e, vIor_e, vIxor_e, vIshl_e, vIshr_e, vIushr_e, vIdiv_e, vIrem_e, vLadd_e, vLsub_e, vLmul_e, vLand_e, vLor_e, vLxor_e, vLdiv_e, vLrem_e, vLushr_e, vLshl_e, vLcmp_e, vIneg_e, vI2l_e, vL2i_e, vI2b_e, vI2c_e, vDup_e, vPop_e, vDup2_e, vGoto_e, vIcEq_e, vIfEq_e, vIcNe_e, vIfNe_e, vIcLt_e, vIfLt_e, vIcGe_e, vIfGe_e, vIcGt_e, vIfGt_e, vIcLe_e, vIfLe_e, vNonnull_e, vSw_e, vGetI_e, vGetL_e, vGetR_e, vPutI_e, vPutZ_e, vPutL_e, vPutR_e, vIald_e, vIald_s, vLald_e, vBald_e, vBald_s, vAald_e, vIast_e, vLast_e, vBast_e, vAast_e, vAlen_e8, vAlen_e9, vAlen_e10, vAlen_e11, vAlen_e5, vAlen_e3, vGets_e, vCompact_e, vLdcS_e, vIret_e, vZret_e, vCret_e, vBret_e, vLret_e, vVret_e, vAret_e, vCallM_e0, vCallMV_e0, vCallS_e0, vCallSV_e0, vCallM_e1, vCallMV_e1, vCallS_e1, vCallSV_e1, vCallM_e2, vCallMV_e2, vCallS_e2, vCallSV_e2, vCallM_e3, vCallMV_e3, vCallS_e3, vCallSV_e3, vCallM_e4, vCallMV_e4, vCallS_e4, vCallSV_e4, vCallM_e5, vCallMV_e5, vCallS_e5, vCallSV_e5, vCallM_e6, vCallMV_e6, vCallS_e6, vCallSV_e6, vCallM_e7, vCallMV_e7, vCallS_e7, vCallSV_e7, vBad_e, vStrVal_e, vStrCod_e, vForm_e, vCallT_e0, vCallT_e1, vCallT_e2, vCopy_e, rf_0_0, rf_0_1, rf_0_2, rf_0_3, rf_0_4, rf_0_7, rf_0_10, rf_0_11, rf_0_12, rf_0_13, rf_0_14, rf_0_15, rf_0_16, rf_1_0, rf_3_0, rf_3_1, rf_6_0, rf_6_1, rf_9_0, rf_9_1, rf_9_3, rf_13_0, rf_13_1, rf_13_2, rf_16_0, rf_16_1, rf_16_2, rf_16_3, rf_21_0, rf_21_1, rf_21_2, rf_21_3, rf_26_0, rf_26_1, rf_26_2, rf_26_3, rf_26_4, rf_26_5, rf_26_6, rf_31_0, rf_31_2, rf_31_5, rf_31_6, rf_36_0, rf_36_1, rf_36_2, rf_36_3, rf_39_0, rf_39_1, rf_39_2, rf_41_0, rf_41_1, rf_41_2, rf_41_3, rf_5000_1, rf_5000_2, rf_5000_3, rf_5000_4, rf_5000_5, rf_5000_15, rf_5000_16, rf_5000_18, rf_5000_19, rf_5000_20, rf_5000_21, rf_5000_22, rf_5000_23, rf_5000_24, rf_5000_25, rf_5000_26, rf_5000_27, rf_5000_36, rf_5000_37, rf_5000_40, rf_5000_41, rf_5000_42, rf_5000_43, rf_5000_44, rf_5000_45, rf_5000_47, rf_5000_52, rf_5000_54, rf_5000_55, rf_100_0, rf_100_1, rf_103_0, rf_103_1, rf_106_0, rf_106_1, rf_109_0, rf_109_1, al_2, al_4, al_5, al_7, al_8, al_10, al_11, al_12, al_14, al_15, al_17, al_18, al_19, al_20, al_22, al_23, al_24, al_25, al_27, al_28, al_29, al_30, al_32, al_33, al_34, al_35, al_37, al_38, al_40, al_42, al_5001, al_5002, al_5003, al_5004, al_5005, al_5006, al_5007, al_5008, al_5009, al_5010, al_5011, al_5012, al_5013, al_5014, al_5015, al_5016, al_5017, al_5018, al_5019, al_5020, al_5021, al_5022, al_5023, al_5024, al_5025, al_5026, al_9000, al_101, al_102, al_104, al_105, al_107, al_108, al_110, al_111, vcs_e, lg_c0, lg_cs, lg_nil, set_c0, set_cs, okst_0, okst_s, acok_n, acok_c, List.contains_nil, List.contains_cons, Bool.or_false, Bool.false_or, Bool.false_eq_true, if_false, if_true, ite_self, ne_eq, true_and, and_true, not_false_eq_true, not_true_eq_false, false_imp_iff, true_imp_iff, Nat.ble_eq, Bool.and_eq_true, reduceCtorEq, or_false, false_or, or_true, true_or, false_and, and_false, and_self, Int.reduceLE, Int.reduceAdd, Int.reduceSub, Int.reduceMul, Int.reduceNeg, Int.reduceLT, Int.reduceEq, Int.reduceNe, Nat.reduceBEq, Nat.reduceBNe, Nat.reduceEqDiff, amCmp_in, amCmp_lt, amCmp_le, amCmp_gt, amCmp_ge, amCmp_eq, amCmp_ne, Nat.reduceLeDiff, Nat.reduceSub, Bool.and_true, Bool.true_and, Bool.and_self, Bool.or_true, Bool.true_or, isRf_3, isRf_4, isRf_5, isRf_8, isRf_9, isRf_10, isRf_11, isRf_15, isRf_16, isRf_17, isRf_18, isRf_19, isRf_20, isRf_21, isRf_22, isRf_23, isRf_24, isRf_25, isRf_26, isRf_27, isRf_28, k_X12_put_0, k_X12_put_2, k_X12_put_3, k_X12_put_4, k_X12_put_7, k_X12_put_8, k_X12_put_9, k_X12_put_10, k_X12_put_13, k_X12_put_14, k_X12_put_17, k_X12_put_20, k_X12_put_21, k_X12_put_24, k_X12_put_25, k_X12_put_28, k_X12_put_29, k_X12_put_30, k_X12_put_31, k_X12_put_32, k_X12_put_33, k_X12_put_34, k_X12_put_35, k_X12_put_38, k_X12_put_39, k_X12_put_40, k_X12_put_43, k_X12_put_46, k_X12_put_49, bs_24 hx, ib_24 hx, e2]
        repeat' (first | apply And.intro | intro _)
        all_goals first | omega | exact i9
    · have s6 := mPu_6 (σ := mPu σ (bte x 16777216)) b2.1
      have i9 : ∃ k', k' < 3 ∧ inv_mpu x σ k' 3 [(28, 5000), (0, x), (0, 8)] [] (mPu (mPu σ (bte x 16777216)) (bte x 65536)) := ⟨2, by decide, rfl, rfl, by omega, Or.inr (Or.inr (Or.inl ⟨rfl, rfl, rfl, by omega⟩))⟩
      by_cases z : bte x 65536 = 0
      · rw [mPu_0 z] at i9
        simp only [↓reduceIte, inR_0, inR_1, inR_m, vSw2_e, swP_n, swP_c, vI_e, vL_e, vNull_e, vIload_e, vLload_e, vAload_e, vIstore_e, vLstore_e, vAstore_e, vIinc_e, vIadd_e, vIsub_e, vImul_e, vIand_e, vIor_e, vIxor_e, vIshl_e, vIshr_e, vIushr_e, vIdiv_e, vIrem_e, vLadd_e, vLsub_e, vLmul_e, vLand_e, vLor_e, vLxor_e, vLdiv_e, vLrem_e, vLushr_e, vLshl_e, vLcmp_e, vIneg_e, vI2l_e, vL2i_e, vI2b_e, vI2c_e, vDup_e, vPop_e, vDup2_e, vGoto_e, vIcEq_e, vIfEq_e, vIcNe_e, vIfNe_e, vIcLt_e, vIfLt_e, vIcGe_e, vIfGe_e, vIcGt_e, vIfGt_e, vIcLe_e, vIfLe_e, vNonnull_e, vSw_e, vGetI_e, vGetL_e, vGetR_e, vPutI_e, vPutZ_e, vPutL_e, vPutR_e, vIald_e, vIald_s, vLald_e, vBald_e, vBald_s, vAald_e, vIast_e, vLast_e, vBast_e, vAast_e, vAlen_e8, vAlen_e9, vAlen_e10, vAlen_e11, vAlen_e5, vAlen_e3, vGets_e, vCompact_e, vLdcS_e, vIret_e, vZret_e, vCret_e, vBret_e, vLret_e, vVret_e, vAret_e, vCallM_e0, vCallMV_e0, vCallS_e0, vCallSV_e0, vCallM_e1, vCallMV_e1, vCallS_e1, vCallSV_e1, vCallM_e2, vCallMV_e2, vCallS_e2, vCallSV_e2, vCallM_e3, vCallMV_e3, vCallS_e3, vCallSV_e3, vCallM_e4, vCallMV_e4, vCallS_e4, vCallSV_e4, vCallM_e5, vCallMV_e5, vCallS_e5, vCallSV_e5, vCallM_e6, vCallMV_e6, vCallS_e6, vCallSV_e6, vCallM_e7, vCallMV_e7, vCallS_e7, vCallSV_e7, vBad_e, vStrVal_e, vStrCod_e, vForm_e, vCallT_e0, vCallT_e1, vCallT_e2, vCopy_e, rf_0_0, rf_0_1, rf_0_2, rf_0_3, rf_0_4, rf_0_7, rf_0_10, rf_0_11, rf_0_12, rf_0_13, rf_0_14, rf_0_15, rf_0_16, rf_1_0, rf_3_0, rf_3_1, rf_6_0, rf_6_1, rf_9_0, rf_9_1, rf_9_3, rf_13_0, rf_13_1, rf_13_2, rf_16_0, rf_16_1, rf_16_2, rf_16_3, rf_21_0, rf_21_1, rf_21_2, rf_21_3, rf_26_0, rf_26_1, rf_26_2, rf_26_3, rf_26_4, rf_26_5, rf_26_6, rf_31_0, rf_31_2, rf_31_5, rf_31_6, rf_36_0, rf_36_1, rf_36_2, rf_36_3, rf_39_0, rf_39_1, rf_39_2, rf_41_0, rf_41_1, rf_41_2, rf_41_3, rf_5000_1, rf_5000_2, rf_5000_3, rf_5000_4, rf_5000_5, rf_5000_15, rf_5000_16, rf_5000_18, rf_5000_19, rf_5000_20, rf_5000_21, rf_5000_22, rf_5000_23, rf_5000_24, rf_5000_25, rf_5000_26, rf_5000_27, rf_5000_36, rf_5000_37, rf_5000_40, rf_5000_41, rf_5000_42, rf_5000_43, rf_5000_44, rf_5000_45, rf_5000_47, rf_5000_52, rf_5000_54, rf_5000_55, rf_100_0, rf_100_1, rf_103_0, rf_103_1, rf_106_0, rf_106_1, rf_109_0, rf_109_1, al_2, al_4, al_5, al_7, al_8, al_10, al_11, al_12, al_14, al_15, al_17, al_18, al_19, al_20, al_22, al_23, al_24, al_25, al_27, al_28, al_29, al_30, al_32, al_33, al_34, al_35, al_37, al_38, al_40, al_42, al_5001, al_5002, al_5003, al_5004, al_5005, al_5006, al_5007, al_5008, al_5009, al_5010, al_5011, al_5012, al_5013, al_5014, al_5015, al_5016, al_5017, al_5018, al_5019, al_5020, al_5021, al_5022, al_5023, al_5024, al_5025, al_5026, al_9000, al_101, al_102, al_104, al_105, al_107, al_108, al_110, al_111, vcs_e, lg_c0, lg_cs, lg_nil, set_c0, set_cs, okst_0, okst_s, acok_n, acok_c, List.contains_nil, List.contains_cons, Bool.or_false, Bool.false_or, Bool.false_eq_true, if_false, if_true, ite_self, ne_eq, true_and, and_true, not_false_eq_true, not_true_eq_false, false_imp_iff, true_imp_iff, Nat.ble_eq, Bool.and_eq_true, reduceCtorEq, or_false, false_or, or_true, true_or, false_and, and_false, and_self, Int.reduceLE, Int.reduceAdd, Int.reduceSub, Int.reduceMul, Int.reduceNeg, Int.reduceLT, Int.reduceEq, Int.reduceNe, Nat.reduceBEq, Nat.reduceBNe, Nat.reduceEqDiff, amCmp_in, amCmp_lt, amCmp_le, amCmp_gt, amCmp_ge, amCmp_eq, amCmp_ne, Nat.reduceLeDiff, Nat.reduceSub, Bool.and_true, Bool.true_and, Bool.and_self, Bool.or_true, Bool.true_or, isRf_3, isRf_4, isRf_5, isRf_8, isRf_9, isRf_10, isRf_11, isRf_15, isRf_16, isRf_17, isRf_18, isRf_19, isRf_20, isRf_21, isRf_22, isRf_23, isRf_24, isRf_25, isRf_26, isRf_27, isRf_28, k_X12_put_0, k_X12_put_2, k_X12_put_3, k_X12_put_4, k_X12_put_7, k_X12_put_8, k_X12_put_9, k_X12_put_10, k_X12_put_13, k_X12_put_14, k_X12_put_17, k_X12_put_20, k_X12_put_21, k_X12_put_24, k_X12_put_25, k_X12_put_28, k_X12_put_29, k_X12_put_30, k_X12_put_31, k_X12_put_32, k_X12_put_33, k_X12_put_34, k_X12_put_35, k_X12_put_38, k_X12_put_39, k_X12_put_40, k_X12_put_43, k_X12_put_46, k_X12_put_49, bs_16 hx, ib_16 hx, e2, z]
        repeat' (first | apply And.intro | intro _)
        all_goals first | omega | exact i9
      · rw [mPu_1 z] at i9
        simp only [↓reduceIte, inR_0, inR_1, inR_m, vSw2_e, swP_n, swP_c, vI_e, vL_e, vNull_e, vIload_e, vLload_e, vAload_e, vIstore_e, vLstore_e, vAstore_e, vIinc_e, vIadd_e, vIsub_e, vImul_e, vIand_e, vIor_e, vIxor_e, vIshl_e, vIshr_e, vIushr_e, vIdiv_e, vIrem_e, vLadd_e, vLsub_e, vLmul_e, vLand_e, vLor_e, vLxor_e, vLdiv_e, vLrem_e, vLushr_e, vLshl_e, vLcmp_e, vIneg_e, vI2l_e, vL2i_e, vI2b_e, vI2c_e, vDup_e, vPop_e, vDup2_e, vGoto_e, vIcEq_e, vIfEq_e, vIcNe_e, vIfNe_e, vIcLt_e, vIfLt_e, vIcGe_e, vIfGe_e, vIcGt_e, vIfGt_e, vIcLe_e, vIfLe_e, vNonnull_e, vSw_e, vGetI_e, vGetL_e, vGetR_e, vPutI_e, vPutZ_e, vPutL_e, vPutR_e, vIald_e, vIald_s, vLald_e, vBald_e, vBald_s, vAald_e, vIast_e, vLast_e, vBast_e, vAast_e, vAlen_e8, vAlen_e9, vAlen_e10, vAlen_e11, vAlen_e5, vAlen_e3, vGets_e, vCompact_e, vLdcS_e, vIret_e, vZret_e, vCret_e, vBret_e, vLret_e, vVret_e, vAret_e, vCallM_e0, vCallMV_e0, vCallS_e0, vCallSV_e0, vCallM_e1, vCallMV_e1, vCallS_e1, vCallSV_e1, vCallM_e2, vCallMV_e2, vCallS_e2, vCallSV_e2, vCallM_e3, vCallMV_e3, vCallS_e3, vCallSV_e3, vCallM_e4, vCallMV_e4, vCallS_e4, vCallSV_e4, vCallM_e5, vCallMV_e5, vCallS_e5, vCallSV_e5, vCallM_e6, vCallMV_e6, vCallS_e6, vCallSV_e6, vCallM_e7, vCallMV_e7, vCallS_e7, vCallSV_e7, vBad_e, vStrVal_e, vStrCod_e, vForm_e, vCallT_e0, vCallT_e1, vCallT_e2, vCopy_e, rf_0_0, rf_0_1, rf_0_2, rf_0_3, rf_0_4, rf_0_7, rf_0_10, rf_0_11, rf_0_12, rf_0_13, rf_0_14, rf_0_15, rf_0_16, rf_1_0, rf_3_0, rf_3_1, rf_6_0, rf_6_1, rf_9_0, rf_9_1, rf_9_3, rf_13_0, rf_13_1, rf_13_2, rf_16_0, rf_16_1, rf_16_2, rf_16_3, rf_21_0, rf_21_1, rf_21_2, rf_21_3, rf_26_0, rf_26_1, rf_26_2, rf_26_3, rf_26_4, rf_26_5, rf_26_6, rf_31_0, rf_31_2, rf_31_5, rf_31_6, rf_36_0, rf_36_1, rf_36_2, rf_36_3, rf_39_0, rf_39_1, rf_39_2, rf_41_0, rf_41_1, rf_41_2, rf_41_3, rf_5000_1, rf_5000_2, rf_5000_3, rf_5000_4, rf_5000_5, rf_5000_15, rf_5000_16, rf_5000_18, rf_5000_19, rf_5000_20, rf_5000_21, rf_5000_22, rf_5000_23, rf_5000_24, rf_5000_25, rf_5000_26, rf_5000_27, rf_5000_36, rf_5000_37, rf_5000_40, rf_5000_41, rf_5000_42, rf_5000_43, rf_5000_44, rf_5000_45, rf_5000_47, rf_5000_52, rf_5000_54, rf_5000_55, rf_100_0, rf_100_1, rf_103_0, rf_103_1, rf_106_0, rf_106_1, rf_109_0, rf_109_1, al_2, al_4, al_5, al_7, al_8, al_10, al_11, al_12, al_14, al_15, al_17, al_18, al_19, al_20, al_22, al_23, al_24, al_25, al_27, al_28, al_29, al_30, al_32, al_33, al_34, al_35, al_37, al_38, al_40, al_42, al_5001, al_5002, al_5003, al_5004, al_5005, al_5006, al_5007, al_5008, al_5009, al_5010, al_5011, al_5012, al_5013, al_5014, al_5015, al_5016, al_5017, al_5018, al_5019, al_5020, al_5021, al_5022, al_5023, al_5024, al_5025, al_5026, al_9000, al_101, al_102, al_104, al_105, al_107, al_108, al_110, al_111, vcs_e, lg_c0, lg_cs, lg_nil, set_c0, set_cs, okst_0, okst_s, acok_n, acok_c, List.contains_nil, List.contains_cons, Bool.or_false, Bool.false_or, Bool.false_eq_true, if_false, if_true, ite_self, ne_eq, true_and, and_true, not_false_eq_true, not_true_eq_false, false_imp_iff, true_imp_iff, Nat.ble_eq, Bool.and_eq_true, reduceCtorEq, or_false, false_or, or_true, true_or, false_and, and_false, and_self, Int.reduceLE, Int.reduceAdd, Int.reduceSub, Int.reduceMul, Int.reduceNeg, Int.reduceLT, Int.reduceEq, Int.reduceNe, Nat.reduceBEq, Nat.reduceBNe, Nat.reduceEqDiff, amCmp_in, amCmp_lt, amCmp_le, amCmp_gt, amCmp_ge, amCmp_eq, amCmp_ne, Nat.reduceLeDiff, Nat.reduceSub, Bool.and_true, Bool.true_and, Bool.and_self, Bool.or_true, Bool.true_or, isRf_3, isRf_4, isRf_5, isRf_8, isRf_9, isRf_10, isRf_11, isRf_15, isRf_16, isRf_17, isRf_18, isRf_19, isRf_20, isRf_21, isRf_22, isRf_23, isRf_24, isRf_25, isRf_26, isRf_27, isRf_28, k_X12_put_0, k_X12_put_2, k_X12_put_3, k_X12_put_4, k_X12_put_7, k_X12_put_8, k_X12_put_9, k_X12_put_10, k_X12_put_13, k_X12_put_14, k_X12_put_17, k_X12_put_20, k_X12_put_21, k_X12_put_24, k_X12_put_25, k_X12_put_28, k_X12_put_29, k_X12_put_30, k_X12_put_31, k_X12_put_32, k_X12_put_33, k_X12_put_34, k_X12_put_35, k_X12_put_38, k_X12_put_39, k_X12_put_40, k_X12_put_43, k_X12_put_46, k_X12_put_49, bs_16 hx, ib_16 hx, e2]
        repeat' (first | apply And.intro | intro _)
        all_goals first | omega | exact i9
    · have s6 := mPu_6 (σ := mPu (mPu σ (bte x 16777216)) (bte x 65536)) b3.1
      have i9 : ∃ k', k' < 2 ∧ inv_mpu x σ k' 3 [(28, 5000), (0, x), (0, 0)] [] (mPu (mPu (mPu σ (bte x 16777216)) (bte x 65536)) (bte x 256)) := ⟨1, by decide, rfl, rfl, by omega, Or.inr (Or.inr (Or.inr (Or.inl ⟨rfl, rfl, rfl, by omega⟩)))⟩
      by_cases z : bte x 256 = 0
      · rw [mPu_0 z] at i9
        simp only [↓reduceIte, inR_0, inR_1, inR_m, vSw2_e, swP_n, swP_c, vI_e, vL_e, vNull_e, vIload_e, vLload_e, vAload_e, vIstore_e, vLstore_e, vAstore_e, vIinc_e, vIadd_e, vIsub_e, vImul_e, vIand_e, vIor_e, vIxor_e, vIshl_e, vIshr_e, vIushr_e, vIdiv_e, vIrem_e, vLadd_e, vLsub_e, vLmul_e, vLand_e, vLor_e, vLxor_e, vLdiv_e, vLrem_e, vLushr_e, vLshl_e, vLcmp_e, vIneg_e, vI2l_e, vL2i_e, vI2b_e, vI2c_e, vDup_e, vPop_e, vDup2_e, vGoto_e, vIcEq_e, vIfEq_e, vIcNe_e, vIfNe_e, vIcLt_e, vIfLt_e, vIcGe_e, vIfGe_e, vIcGt_e, vIfGt_e, vIcLe_e, vIfLe_e, vNonnull_e, vSw_e, vGetI_e, vGetL_e, vGetR_e, vPutI_e, vPutZ_e, vPutL_e, vPutR_e, vIald_e, vIald_s, vLald_e, vBald_e, vBald_s, vAald_e, vIast_e, vLast_e, vBast_e, vAast_e, vAlen_e8, vAlen_e9, vAlen_e10, vAlen_e11, vAlen_e5, vAlen_e3, vGets_e, vCompact_e, vLdcS_e, vIret_e, vZret_e, vCret_e, vBret_e, vLret_e, vVret_e, vAret_e, vCallM_e0, vCallMV_e0, vCallS_e0, vCallSV_e0, vCallM_e1, vCallMV_e1, vCallS_e1, vCallSV_e1, vCallM_e2, vCallMV_e2, vCallS_e2, vCallSV_e2, vCallM_e3, vCallMV_e3, vCallS_e3, vCallSV_e3, vCallM_e4, vCallMV_e4, vCallS_e4, vCallSV_e4, vCallM_e5, vCallMV_e5, vCallS_e5, vCallSV_e5, vCallM_e6, vCallMV_e6, vCallS_e6, vCallSV_e6, vCallM_e7, vCallMV_e7, vCallS_e7, vCallSV_e7, vBad_e, vStrVal_e, vStrCod_e, vForm_e, vCallT_e0, vCallT_e1, vCallT_e2, vCopy_e, rf_0_0, rf_0_1, rf_0_2, rf_0_3, rf_0_4, rf_0_7, rf_0_10, rf_0_11, rf_0_12, rf_0_13, rf_0_14, rf_0_15, rf_0_16, rf_1_0, rf_3_0, rf_3_1, rf_6_0, rf_6_1, rf_9_0, rf_9_1, rf_9_3, rf_13_0, rf_13_1, rf_13_2, rf_16_0, rf_16_1, rf_16_2, rf_16_3, rf_21_0, rf_21_1, rf_21_2, rf_21_3, rf_26_0, rf_26_1, rf_26_2, rf_26_3, rf_26_4, rf_26_5, rf_26_6, rf_31_0, rf_31_2, rf_31_5, rf_31_6, rf_36_0, rf_36_1, rf_36_2, rf_36_3, rf_39_0, rf_39_1, rf_39_2, rf_41_0, rf_41_1, rf_41_2, rf_41_3, rf_5000_1, rf_5000_2, rf_5000_3, rf_5000_4, rf_5000_5, rf_5000_15, rf_5000_16, rf_5000_18, rf_5000_19, rf_5000_20, rf_5000_21, rf_5000_22, rf_5000_23, rf_5000_24, rf_5000_25, rf_5000_26, rf_5000_27, rf_5000_36, rf_5000_37, rf_5000_40, rf_5000_41, rf_5000_42, rf_5000_43, rf_5000_44, rf_5000_45, rf_5000_47, rf_5000_52, rf_5000_54, rf_5000_55, rf_100_0, rf_100_1, rf_103_0, rf_103_1, rf_106_0, rf_106_1, rf_109_0, rf_109_1, al_2, al_4, al_5, al_7, al_8, al_10, al_11, al_12, al_14, al_15, al_17, al_18, al_19, al_20, al_22, al_23, al_24, al_25, al_27, al_28, al_29, al_30, al_32, al_33, al_34, al_35, al_37, al_38, al_40, al_42, al_5001, al_5002, al_5003, al_5004, al_5005, al_5006, al_5007, al_5008, al_5009, al_5010, al_5011, al_5012, al_5013, al_5014, al_5015, al_5016, al_5017, al_5018, al_5019, al_5020, al_5021, al_5022, al_5023, al_5024, al_5025, al_5026, al_9000, al_101, al_102, al_104, al_105, al_107, al_108, al_110, al_111, vcs_e, lg_c0, lg_cs, lg_nil, set_c0, set_cs, okst_0, okst_s, acok_n, acok_c, List.contains_nil, List.contains_cons, Bool.or_false, Bool.false_or, Bool.false_eq_true, if_false, if_true, ite_self, ne_eq, true_and, and_true, not_false_eq_true, not_true_eq_false, false_imp_iff, true_imp_iff, Nat.ble_eq, Bool.and_eq_true, reduceCtorEq, or_false, false_or, or_true, true_or, false_and, and_false, and_self, Int.reduceLE, Int.reduceAdd, Int.reduceSub, Int.reduceMul, Int.reduceNeg, Int.reduceLT, Int.reduceEq, Int.reduceNe, Nat.reduceBEq, Nat.reduceBNe, Nat.reduceEqDiff, amCmp_in, amCmp_lt, amCmp_le, amCmp_gt, amCmp_ge, amCmp_eq, amCmp_ne, Nat.reduceLeDiff, Nat.reduceSub, Bool.and_true, Bool.true_and, Bool.and_self, Bool.or_true, Bool.true_or, isRf_3, isRf_4, isRf_5, isRf_8, isRf_9, isRf_10, isRf_11, isRf_15, isRf_16, isRf_17, isRf_18, isRf_19, isRf_20, isRf_21, isRf_22, isRf_23, isRf_24, isRf_25, isRf_26, isRf_27, isRf_28, k_X12_put_0, k_X12_put_2, k_X12_put_3, k_X12_put_4, k_X12_put_7, k_X12_put_8, k_X12_put_9, k_X12_put_10, k_X12_put_13, k_X12_put_14, k_X12_put_17, k_X12_put_20, k_X12_put_21, k_X12_put_24, k_X12_put_25, k_X12_put_28, k_X12_put_29, k_X12_put_30, k_X12_put_31, k_X12_put_32, k_X12_put_33, k_X12_put_34, k_X12_put_35, k_X12_put_38, k_X12_put_39, k_X12_put_40, k_X12_put_43, k_X12_put_46, k_X12_put_49, bs_8 hx, ib_8 hx, e2, z]
        repeat' (first | apply And.intro | intro _)
        all_goals first | omega | exact i9
      · rw [mPu_1 z] at i9
        simp only [↓reduceIte, inR_0, inR_1, inR_m, vSw2_e, swP_n, swP_c, vI_e, vL_e, vNull_e, vIload_e, vLload_e, vAload_e, vIstore_e, vLstore_e, vAstore_e, vIinc_e, vIadd_e, vIsub_e, vImul_e, vIand_e, vIor_e, vIxor_e, vIshl_e, vIshr_e, vIushr_e, vIdiv_e, vIrem_e, vLadd_e, vLsub_e, vLmul_e, vLand_e, vLor_e, vLxor_e, vLdiv_e, vLrem_e, vLushr_e, vLshl_e, vLcmp_e, vIneg_e, vI2l_e, vL2i_e, vI2b_e, vI2c_e, vDup_e, vPop_e, vDup2_e, vGoto_e, vIcEq_e, vIfEq_e, vIcNe_e, vIfNe_e, vIcLt_e, vIfLt_e, vIcGe_e, vIfGe_e, vIcGt_e, vIfGt_e, vIcLe_e, vIfLe_e, vNonnull_e, vSw_e, vGetI_e, vGetL_e, vGetR_e, vPutI_e, vPutZ_e, vPutL_e, vPutR_e, vIald_e, vIald_s, vLald_e, vBald_e, vBald_s, vAald_e, vIast_e, vLast_e, vBast_e, vAast_e, vAlen_e8, vAlen_e9, vAlen_e10, vAlen_e11, vAlen_e5, vAlen_e3, vGets_e, vCompact_e, vLdcS_e, vIret_e, vZret_e, vCret_e, vBret_e, vLret_e, vVret_e, vAret_e, vCallM_e0, vCallMV_e0, vCallS_e0, vCallSV_e0, vCallM_e1, vCallMV_e1, vCallS_e1, vCallSV_e1, vCallM_e2, vCallMV_e2, vCallS_e2, vCallSV_e2, vCallM_e3, vCallMV_e3, vCallS_e3, vCallSV_e3, vCallM_e4, vCallMV_e4, vCallS_e4, vCallSV_e4, vCallM_e5, vCallMV_e5, vCallS_e5, vCallSV_e5, vCallM_e6, vCallMV_e6, vCallS_e6, vCallSV_e6, vCallM_e7, vCallMV_e7, vCallS_e7, vCallSV_e7, vBad_e, vStrVal_e, vStrCod_e, vForm_e, vCallT_e0, vCallT_e1, vCallT_e2, vCopy_e, rf_0_0, rf_0_1, rf_0_2, rf_0_3, rf_0_4, rf_0_7, rf_0_10, rf_0_11, rf_0_12, rf_0_13, rf_0_14, rf_0_15, rf_0_16, rf_1_0, rf_3_0, rf_3_1, rf_6_0, rf_6_1, rf_9_0, rf_9_1, rf_9_3, rf_13_0, rf_13_1, rf_13_2, rf_16_0, rf_16_1, rf_16_2, rf_16_3, rf_21_0, rf_21_1, rf_21_2, rf_21_3, rf_26_0, rf_26_1, rf_26_2, rf_26_3, rf_26_4, rf_26_5, rf_26_6, rf_31_0, rf_31_2, rf_31_5, rf_31_6, rf_36_0, rf_36_1, rf_36_2, rf_36_3, rf_39_0, rf_39_1, rf_39_2, rf_41_0, rf_41_1, rf_41_2, rf_41_3, rf_5000_1, rf_5000_2, rf_5000_3, rf_5000_4, rf_5000_5, rf_5000_15, rf_5000_16, rf_5000_18, rf_5000_19, rf_5000_20, rf_5000_21, rf_5000_22, rf_5000_23, rf_5000_24, rf_5000_25, rf_5000_26, rf_5000_27, rf_5000_36, rf_5000_37, rf_5000_40, rf_5000_41, rf_5000_42, rf_5000_43, rf_5000_44, rf_5000_45, rf_5000_47, rf_5000_52, rf_5000_54, rf_5000_55, rf_100_0, rf_100_1, rf_103_0, rf_103_1, rf_106_0, rf_106_1, rf_109_0, rf_109_1, al_2, al_4, al_5, al_7, al_8, al_10, al_11, al_12, al_14, al_15, al_17, al_18, al_19, al_20, al_22, al_23, al_24, al_25, al_27, al_28, al_29, al_30, al_32, al_33, al_34, al_35, al_37, al_38, al_40, al_42, al_5001, al_5002, al_5003, al_5004, al_5005, al_5006, al_5007, al_5008, al_5009, al_5010, al_5011, al_5012, al_5013, al_5014, al_5015, al_5016, al_5017, al_5018, al_5019, al_5020, al_5021, al_5022, al_5023, al_5024, al_5025, al_5026, al_9000, al_101, al_102, al_104, al_105, al_107, al_108, al_110, al_111, vcs_e, lg_c0, lg_cs, lg_nil, set_c0, set_cs, okst_0, okst_s, acok_n, acok_c, List.contains_nil, List.contains_cons, Bool.or_false, Bool.false_or, Bool.false_eq_true, if_false, if_true, ite_self, ne_eq, true_and, and_true, not_false_eq_true, not_true_eq_false, false_imp_iff, true_imp_iff, Nat.ble_eq, Bool.and_eq_true, reduceCtorEq, or_false, false_or, or_true, true_or, false_and, and_false, and_self, Int.reduceLE, Int.reduceAdd, Int.reduceSub, Int.reduceMul, Int.reduceNeg, Int.reduceLT, Int.reduceEq, Int.reduceNe, Nat.reduceBEq, Nat.reduceBNe, Nat.reduceEqDiff, amCmp_in, amCmp_lt, amCmp_le, amCmp_gt, amCmp_ge, amCmp_eq, amCmp_ne, Nat.reduceLeDiff, Nat.reduceSub, Bool.and_true, Bool.true_and, Bool.and_self, Bool.or_true, Bool.true_or, isRf_3, isRf_4, isRf_5, isRf_8, isRf_9, isRf_10, isRf_11, isRf_15, isRf_16, isRf_17, isRf_18, isRf_19, isRf_20, isRf_21, isRf_22, isRf_23, isRf_24, isRf_25, isRf_26, isRf_27, isRf_28, k_X12_put_0, k_X12_put_2, k_X12_put_3, k_X12_put_4, k_X12_put_7, k_X12_put_8, k_X12_put_9, k_X12_put_10, k_X12_put_13, k_X12_put_14, k_X12_put_17, k_X12_put_20, k_X12_put_21, k_X12_put_24, k_X12_put_25, k_X12_put_28, k_X12_put_29, k_X12_put_30, k_X12_put_31, k_X12_put_32, k_X12_put_33, k_X12_put_34, k_X12_put_35, k_X12_put_38, k_X12_put_39, k_X12_put_40, k_X12_put_43, k_X12_put_46, k_X12_put_49, bs_8 hx, ib_8 hx, e2]
        repeat' (first | apply And.intro | intro _)
        all_goals first | omega | exact i9
    · have s6 := mPu_6 (σ := mPu (mPu (mPu σ (bte x 16777216)) (bte x 65536)) (bte x 256)) b4.1
      have i9 : ∃ k', k' < 1 ∧ inv_mpu x σ k' 3 [(28, 5000), (0, x), (0, -8)] [] (mPu (mPu (mPu (mPu σ (bte x 16777216)) (bte x 65536)) (bte x 256)) (bte x 1)) := ⟨0, by decide, rfl, rfl, by omega, Or.inr (Or.inr (Or.inr (Or.inr ⟨rfl, rfl, rfl⟩)))⟩
      by_cases z : bte x 1 = 0
      · rw [mPu_0 z] at i9
        simp only [↓reduceIte, inR_0, inR_1, inR_m, vSw2_e, swP_n, swP_c, vI_e, vL_e, vNull_e, vIload_e, vLload_e, vAload_e, vIstore_e, vLstore_e, vAstore_e, vIinc_e, vIadd_e, vIsub_e, vImul_e, vIand_e, vIor_e, vIxor_e, vIshl_e, vIshr_e, vIushr_e, vIdiv_e, vIrem_e, vLadd_e, vLsub_e, vLmul_e, vLand_e, vLor_e, vLxor_e, vLdiv_e, vLrem_e, vLushr_e, vLshl_e, vLcmp_e, vIneg_e, vI2l_e, vL2i_e, vI2b_e, vI2c_e, vDup_e, vPop_e, vDup2_e, vGoto_e, vIcEq_e, vIfEq_e, vIcNe_e, vIfNe_e, vIcLt_e, vIfLt_e, vIcGe_e, vIfGe_e, vIcGt_e, vIfGt_e, vIcLe_e, vIfLe_e, vNonnull_e, vSw_e, vGetI_e, vGetL_e, vGetR_e, vPutI_e, vPutZ_e, vPutL_e, vPutR_e, vIald_e, vIald_s, vLald_e, vBald_e, vBald_s, vAald_e, vIast_e, vLast_e, vBast_e, vAast_e, vAlen_e8, vAlen_e9, vAlen_e10, vAlen_e11, vAlen_e5, vAlen_e3, vGets_e, vCompact_e, vLdcS_e, vIret_e, vZret_e, vCret_e, vBret_e, vLret_e, vVret_e, vAret_e, vCallM_e0, vCallMV_e0, vCallS_e0, vCallSV_e0, vCallM_e1, vCallMV_e1, vCallS_e1, vCallSV_e1, vCallM_e2, vCallMV_e2, vCallS_e2, vCallSV_e2, vCallM_e3, vCallMV_e3, vCallS_e3, vCallSV_e3, vCallM_e4, vCallMV_e4, vCallS_e4, vCallSV_e4, vCallM_e5, vCallMV_e5, vCallS_e5, vCallSV_e5, vCallM_e6, vCallMV_e6, vCallS_e6, vCallSV_e6, vCallM_e7, vCallMV_e7, vCallS_e7, vCallSV_e7, vBad_e, vStrVal_e, vStrCod_e, vForm_e, vCallT_e0, vCallT_e1, vCallT_e2, vCopy_e, rf_0_0, rf_0_1, rf_0_2, rf_0_3, rf_0_4, rf_0_7, rf_0_10, rf_0_11, rf_0_12, rf_0_13, rf_0_14, rf_0_15, rf_0_16, rf_1_0, rf_3_0, rf_3_1, rf_6_0, rf_6_1, rf_9_0, rf_9_1, rf_9_3, rf_13_0, rf_13_1, rf_13_2, rf_16_0, rf_16_1, rf_16_2, rf_16_3, rf_21_0, rf_21_1, rf_21_2, rf_21_3, rf_26_0, rf_26_1, rf_26_2, rf_26_3, rf_26_4, rf_26_5, rf_26_6, rf_31_0, rf_31_2, rf_31_5, rf_31_6, rf_36_0, rf_36_1, rf_36_2, rf_36_3, rf_39_0, rf_39_1, rf_39_2, rf_41_0, rf_41_1, rf_41_2, rf_41_3, rf_5000_1, rf_5000_2, rf_5000_3, rf_5000_4, rf_5000_5, rf_5000_15, rf_5000_16, rf_5000_18, rf_5000_19, rf_5000_20, rf_5000_21, rf_5000_22, rf_5000_23, rf_5000_24, rf_5000_25, rf_5000_26, rf_5000_27, rf_5000_36, rf_5000_37, rf_5000_40, rf_5000_41, rf_5000_42, rf_5000_43, rf_5000_44, rf_5000_45, rf_5000_47, rf_5000_52, rf_5000_54, rf_5000_55, rf_100_0, rf_100_1, rf_103_0, rf_103_1, rf_106_0, rf_106_1, rf_109_0, rf_109_1, al_2, al_4, al_5, al_7, al_8, al_10, al_11, al_12, al_14, al_15, al_17, al_18, al_19, al_20, al_22, al_23, al_24, al_25, al_27, al_28, al_29, al_30, al_32, al_33, al_34, al_35, al_37, al_38, al_40, al_42, al_5001, al_5002, al_5003, al_5004, al_5005, al_5006, al_5007, al_5008, al_5009, al_5010, al_5011, al_5012, al_5013, al_5014, al_5015, al_5016, al_5017, al_5018, al_5019, al_5020, al_5021, al_5022, al_5023, al_5024, al_5025, al_5026, al_9000, al_101, al_102, al_104, al_105, al_107, al_108, al_110, al_111, vcs_e, lg_c0, lg_cs, lg_nil, set_c0, set_cs, okst_0, okst_s, acok_n, acok_c, List.contains_nil, List.contains_cons, Bool.or_false, Bool.false_or, Bool.false_eq_true, if_false, if_true, ite_self, ne_eq, true_and, and_true, not_false_eq_true, not_true_eq_false, false_imp_iff, true_imp_iff, Nat.ble_eq, Bool.and_eq_true, reduceCtorEq, or_false, false_or, or_true, true_or, false_and, and_false, and_self, Int.reduceLE, Int.reduceAdd, Int.reduceSub, Int.reduceMul, Int.reduceNeg, Int.reduceLT, Int.reduceEq, Int.reduceNe, Nat.reduceBEq, Nat.reduceBNe, Nat.reduceEqDiff, amCmp_in, amCmp_lt, amCmp_le, amCmp_gt, amCmp_ge, amCmp_eq, amCmp_ne, Nat.reduceLeDiff, Nat.reduceSub, Bool.and_true, Bool.true_and, Bool.and_self, Bool.or_true, Bool.true_or, isRf_3, isRf_4, isRf_5, isRf_8, isRf_9, isRf_10, isRf_11, isRf_15, isRf_16, isRf_17, isRf_18, isRf_19, isRf_20, isRf_21, isRf_22, isRf_23, isRf_24, isRf_25, isRf_26, isRf_27, isRf_28, k_X12_put_0, k_X12_put_2, k_X12_put_3, k_X12_put_4, k_X12_put_7, k_X12_put_8, k_X12_put_9, k_X12_put_10, k_X12_put_13, k_X12_put_14, k_X12_put_17, k_X12_put_20, k_X12_put_21, k_X12_put_24, k_X12_put_25, k_X12_put_28, k_X12_put_29, k_X12_put_30, k_X12_put_31, k_X12_put_32, k_X12_put_33, k_X12_put_34, k_X12_put_35, k_X12_put_38, k_X12_put_39, k_X12_put_40, k_X12_put_43, k_X12_put_46, k_X12_put_49, bs_0 hx, ib_0 hx, e2, z]
        repeat' (first | apply And.intro | intro _)
        all_goals first | omega | exact i9
      · rw [mPu_1 z] at i9
        simp only [↓reduceIte, inR_0, inR_1, inR_m, vSw2_e, swP_n, swP_c, vI_e, vL_e, vNull_e, vIload_e, vLload_e, vAload_e, vIstore_e, vLstore_e, vAstore_e, vIinc_e, vIadd_e, vIsub_e, vImul_e, vIand_e, vIor_e, vIxor_e, vIshl_e, vIshr_e, vIushr_e, vIdiv_e, vIrem_e, vLadd_e, vLsub_e, vLmul_e, vLand_e, vLor_e, vLxor_e, vLdiv_e, vLrem_e, vLushr_e, vLshl_e, vLcmp_e, vIneg_e, vI2l_e, vL2i_e, vI2b_e, vI2c_e, vDup_e, vPop_e, vDup2_e, vGoto_e, vIcEq_e, vIfEq_e, vIcNe_e, vIfNe_e, vIcLt_e, vIfLt_e, vIcGe_e, vIfGe_e, vIcGt_e, vIfGt_e, vIcLe_e, vIfLe_e, vNonnull_e, vSw_e, vGetI_e, vGetL_e, vGetR_e, vPutI_e, vPutZ_e, vPutL_e, vPutR_e, vIald_e, vIald_s, vLald_e, vBald_e, vBald_s, vAald_e, vIast_e, vLast_e, vBast_e, vAast_e, vAlen_e8, vAlen_e9, vAlen_e10, vAlen_e11, vAlen_e5, vAlen_e3, vGets_e, vCompact_e, vLdcS_e, vIret_e, vZret_e, vCret_e, vBret_e, vLret_e, vVret_e, vAret_e, vCallM_e0, vCallMV_e0, vCallS_e0, vCallSV_e0, vCallM_e1, vCallMV_e1, vCallS_e1, vCallSV_e1, vCallM_e2, vCallMV_e2, vCallS_e2, vCallSV_e2, vCallM_e3, vCallMV_e3, vCallS_e3, vCallSV_e3, vCallM_e4, vCallMV_e4, vCallS_e4, vCallSV_e4, vCallM_e5, vCallMV_e5, vCallS_e5, vCallSV_e5, vCallM_e6, vCallMV_e6, vCallS_e6, vCallSV_e6, vCallM_e7, vCallMV_e7, vCallS_e7, vCallSV_e7, vBad_e, vStrVal_e, vStrCod_e, vForm_e, vCallT_e0, vCallT_e1, vCallT_e2, vCopy_e, rf_0_0, rf_0_1, rf_0_2, rf_0_3, rf_0_4, rf_0_7, rf_0_10, rf_0_11, rf_0_12, rf_0_13, rf_0_14, rf_0_15, rf_0_16, rf_1_0, rf_3_0, rf_3_1, rf_6_0, rf_6_1, rf_9_0, rf_9_1, rf_9_3, rf_13_0, rf_13_1, rf_13_2, rf_16_0, rf_16_1, rf_16_2, rf_16_3, rf_21_0, rf_21_1, rf_21_2, rf_21_3, rf_26_0, rf_26_1, rf_26_2, rf_26_3, rf_26_4, rf_26_5, rf_26_6, rf_31_0, rf_31_2, rf_31_5, rf_31_6, rf_36_0, rf_36_1, rf_36_2, rf_36_3, rf_39_0, rf_39_1, rf_39_2, rf_41_0, rf_41_1, rf_41_2, rf_41_3, rf_5000_1, rf_5000_2, rf_5000_3, rf_5000_4, rf_5000_5, rf_5000_15, rf_5000_16, rf_5000_18, rf_5000_19, rf_5000_20, rf_5000_21, rf_5000_22, rf_5000_23, rf_5000_24, rf_5000_25, rf_5000_26, rf_5000_27, rf_5000_36, rf_5000_37, rf_5000_40, rf_5000_41, rf_5000_42, rf_5000_43, rf_5000_44, rf_5000_45, rf_5000_47, rf_5000_52, rf_5000_54, rf_5000_55, rf_100_0, rf_100_1, rf_103_0, rf_103_1, rf_106_0, rf_106_1, rf_109_0, rf_109_1, al_2, al_4, al_5, al_7, al_8, al_10, al_11, al_12, al_14, al_15, al_17, al_18, al_19, al_20, al_22, al_23, al_24, al_25, al_27, al_28, al_29, al_30, al_32, al_33, al_34, al_35, al_37, al_38, al_40, al_42, al_5001, al_5002, al_5003, al_5004, al_5005, al_5006, al_5007, al_5008, al_5009, al_5010, al_5011, al_5012, al_5013, al_5014, al_5015, al_5016, al_5017, al_5018, al_5019, al_5020, al_5021, al_5022, al_5023, al_5024, al_5025, al_5026, al_9000, al_101, al_102, al_104, al_105, al_107, al_108, al_110, al_111, vcs_e, lg_c0, lg_cs, lg_nil, set_c0, set_cs, okst_0, okst_s, acok_n, acok_c, List.contains_nil, List.contains_cons, Bool.or_false, Bool.false_or, Bool.false_eq_true, if_false, if_true, ite_self, ne_eq, true_and, and_true, not_false_eq_true, not_true_eq_false, false_imp_iff, true_imp_iff, Nat.ble_eq, Bool.and_eq_true, reduceCtorEq, or_false, false_or, or_true, true_or, false_and, and_false, and_self, Int.reduceLE, Int.reduceAdd, Int.reduceSub, Int.reduceMul, Int.reduceNeg, Int.reduceLT, Int.reduceEq, Int.reduceNe, Nat.reduceBEq, Nat.reduceBNe, Nat.reduceEqDiff, amCmp_in, amCmp_lt, amCmp_le, amCmp_gt, amCmp_ge, amCmp_eq, amCmp_ne, Nat.reduceLeDiff, Nat.reduceSub, Bool.and_true, Bool.true_and, Bool.and_self, Bool.or_true, Bool.true_or, isRf_3, isRf_4, isRf_5, isRf_8, isRf_9, isRf_10, isRf_11, isRf_15, isRf_16, isRf_17, isRf_18, isRf_19, isRf_20, isRf_21, isRf_22, isRf_23, isRf_24, isRf_25, isRf_26, isRf_27, isRf_28, k_X12_put_0, k_X12_put_2, k_X12_put_3, k_X12_put_4, k_X12_put_7, k_X12_put_8, k_X12_put_9, k_X12_put_10, k_X12_put_13, k_X12_put_14, k_X12_put_17, k_X12_put_20, k_X12_put_21, k_X12_put_24, k_X12_put_25, k_X12_put_28, k_X12_put_29, k_X12_put_30, k_X12_put_31, k_X12_put_32, k_X12_put_33, k_X12_put_34, k_X12_put_35, k_X12_put_38, k_X12_put_39, k_X12_put_40, k_X12_put_43, k_X12_put_46, k_X12_put_49, bs_0 hx, ib_0 hx, e2]
        repeat' (first | apply And.intro | intro _)
        all_goals first | omega | exact i9
    · simp only [↓reduceIte, inR_0, inR_1, inR_m, vSw2_e, swP_n, swP_c, vI_e, vL_e, vNull_e, vIload_e, vLload_e, vAload_e, vIstore_e, vLstore_e, vAstore_e, vIinc_e, vIadd_e, vIsub_e, vImul_e, vIand_e, vIor_e, vIxor_e, vIshl_e, vIshr_e, vIushr_e, vIdiv_e, vIrem_e, vLadd_e, vLsub_e, vLmul_e, vLand_e, vLor_e, vLxor_e, vLdiv_e, vLrem_e, vLushr_e, vLshl_e, vLcmp_e, vIneg_e, vI2l_e, vL2i_e, vI2b_e, vI2c_e, vDup_e, vPop_e, vDup2_e, vGoto_e, vIcEq_e, vIfEq_e, vIcNe_e, vIfNe_e, vIcLt_e, vIfLt_e, vIcGe_e, vIfGe_e, vIcGt_e, vIfGt_e, vIcLe_e, vIfLe_e, vNonnull_e, vSw_e, vGetI_e, vGetL_e, vGetR_e, vPutI_e, vPutZ_e, vPutL_e, vPutR_e, vIald_e, vIald_s, vLald_e, vBald_e, vBald_s, vAald_e, vIast_e, vLast_e, vBast_e, vAast_e, vAlen_e8, vAlen_e9, vAlen_e10, vAlen_e11, vAlen_e5, vAlen_e3, vGets_e, vCompact_e, vLdcS_e, vIret_e, vZret_e, vCret_e, vBret_e, vLret_e, vVret_e, vAret_e, vCallM_e0, vCallMV_e0, vCallS_e0, vCallSV_e0, vCallM_e1, vCallMV_e1, vCallS_e1, vCallSV_e1, vCallM_e2, vCallMV_e2, vCallS_e2, vCallSV_e2, vCallM_e3, vCallMV_e3, vCallS_e3, vCallSV_e3, vCallM_e4, vCallMV_e4, vCallS_e4, vCallSV_e4, vCallM_e5, vCallMV_e5, vCallS_e5, vCallSV_e5, vCallM_e6, vCallMV_e6, vCallS_e6, vCallSV_e6, vCallM_e7, vCallMV_e7, vCallS_e7, vCallSV_e7, vBad_e, vStrVal_e, vStrCod_e, vForm_e, vCallT_e0, vCallT_e1, vCallT_e2, vCopy_e, rf_0_0, rf_0_1, rf_0_2, rf_0_3, rf_0_4, rf_0_7, rf_0_10, rf_0_11, rf_0_12, rf_0_13, rf_0_14, rf_0_15, rf_0_16, rf_1_0, rf_3_0, rf_3_1, rf_6_0, rf_6_1, rf_9_0, rf_9_1, rf_9_3, rf_13_0, rf_13_1, rf_13_2, rf_16_0, rf_16_1, rf_16_2, rf_16_3, rf_21_0, rf_21_1, rf_21_2, rf_21_3, rf_26_0, rf_26_1, rf_26_2, rf_26_3, rf_26_4, rf_26_5, rf_26_6, rf_31_0, rf_31_2, rf_31_5, rf_31_6, rf_36_0, rf_36_1, rf_36_2, rf_36_3, rf_39_0, rf_39_1, rf_39_2, rf_41_0, rf_41_1, rf_41_2, rf_41_3, rf_5000_1, rf_5000_2, rf_5000_3, rf_5000_4, rf_5000_5, rf_5000_15, rf_5000_16, rf_5000_18, rf_5000_19, rf_5000_20, rf_5000_21, rf_5000_22, rf_5000_23, rf_5000_24, rf_5000_25, rf_5000_26, rf_5000_27, rf_5000_36, rf_5000_37, rf_5000_40, rf_5000_41, rf_5000_42, rf_5000_43, rf_5000_44, rf_5000_45, rf_5000_47, rf_5000_52, rf_5000_54, rf_5000_55, rf_100_0, rf_100_1, rf_103_0, rf_103_1, rf_106_0, rf_106_1, rf_109_0, rf_109_1, al_2, al_4, al_5, al_7, al_8, al_10, al_11, al_12, al_14, al_15, al_17, al_18, al_19, al_20, al_22, al_23, al_24, al_25, al_27, al_28, al_29, al_30, al_32, al_33, al_34, al_35, al_37, al_38, al_40, al_42, al_5001, al_5002, al_5003, al_5004, al_5005, al_5006, al_5007, al_5008, al_5009, al_5010, al_5011, al_5012, al_5013, al_5014, al_5015, al_5016, al_5017, al_5018, al_5019, al_5020, al_5021, al_5022, al_5023, al_5024, al_5025, al_5026, al_9000, al_101, al_102, al_104, al_105, al_107, al_108, al_110, al_111, vcs_e, lg_c0, lg_cs, lg_nil, set_c0, set_cs, okst_0, okst_s, acok_n, acok_c, List.contains_nil, List.contains_cons, Bool.or_false, Bool.false_or, Bool.false_eq_true, if_false, if_true, ite_self, ne_eq, true_and, and_true, not_false_eq_true, not_true_eq_false, false_imp_iff, true_imp_iff, Nat.ble_eq, Bool.and_eq_true, reduceCtorEq, or_false, false_or, or_true, true_or, false_and, and_false, and_self, Int.reduceLE, Int.reduceAdd, Int.reduceSub, Int.reduceMul, Int.reduceNeg, Int.reduceLT, Int.reduceEq, Int.reduceNe, Nat.reduceBEq, Nat.reduceBNe, Nat.reduceEqDiff, amCmp_in, amCmp_lt, amCmp_le, amCmp_gt, amCmp_ge, amCmp_eq, amCmp_ne, Nat.reduceLeDiff, Nat.reduceSub, Bool.and_true, Bool.true_and, Bool.and_self, Bool.or_true, Bool.true_or, isRf_3, isRf_4, isRf_5, isRf_8, isRf_9, isRf_10, isRf_11, isRf_15, isRf_16, isRf_17, isRf_18, isRf_19, isRf_20, isRf_21, isRf_22, isRf_23, isRf_24, isRf_25, isRf_26, isRf_27, isRf_28, k_X12_put_0, k_X12_put_2, k_X12_put_3, k_X12_put_4, k_X12_put_7, k_X12_put_8, k_X12_put_9, k_X12_put_10, k_X12_put_13, k_X12_put_14, k_X12_put_17, k_X12_put_20, k_X12_put_21, k_X12_put_24, k_X12_put_25, k_X12_put_28, k_X12_put_29, k_X12_put_30, k_X12_put_31, k_X12_put_32, k_X12_put_33, k_X12_put_34, k_X12_put_35, k_X12_put_38, k_X12_put_39, k_X12_put_40, k_X12_put_43, k_X12_put_46, k_X12_put_49]
      repeat' (first | apply And.intro | intro _)
      all_goals first | omega | exact h
  · change vcs _ _ _ _ 60 0 [(28, 5000), (0, x), (6, 0)] [] σ
    simp only [↓reduceIte, inR_0, inR_1, inR_m, vSw2_e, swP_n, swP_c, vI_e, vL_e, vNull_e, vIload_e, vLload_e, vAload_e, vIstore_e, vLstore_e, vAstore_e, vIinc_e, vIadd_e, vIsub_e, vImul_e, vIand_e, vIor_e, vIxor_e, vIshl_e, vIshr_e, vIushr_e, vIdiv_e, vIrem_e, vLadd_e, vLsub_e, vLmul_e, vLand_e, vLor_e, vLxor_e, vLdiv_e, vLrem_e, vLushr_e, vLshl_e, vLcmp_e, vIneg_e, vI2l_e, vL2i_e, vI2b_e, vI2c_e, vDup_e, vPop_e, vDup2_e, vGoto_e, vIcEq_e, vIfEq_e, vIcNe_e, vIfNe_e, vIcLt_e, vIfLt_e, vIcGe_e, vIfGe_e, vIcGt_e, vIfGt_e, vIcLe_e, vIfLe_e, vNonnull_e, vSw_e, vGetI_e, vGetL_e, vGetR_e, vPutI_e, vPutZ_e, vPutL_e, vPutR_e, vIald_e, vIald_s, vLald_e, vBald_e, vBald_s, vAald_e, vIast_e, vLast_e, vBast_e, vAast_e, vAlen_e8, vAlen_e9, vAlen_e10, vAlen_e11, vAlen_e5, vAlen_e3, vGets_e, vCompact_e, vLdcS_e, vIret_e, vZret_e, vCret_e, vBret_e, vLret_e, vVret_e, vAret_e, vCallM_e0, vCallMV_e0, vCallS_e0, vCallSV_e0, vCallM_e1, vCallMV_e1, vCallS_e1, vCallSV_e1, vCallM_e2, vCallMV_e2, vCallS_e2, vCallSV_e2, vCallM_e3, vCallMV_e3, vCallS_e3, vCallSV_e3, vCallM_e4, vCallMV_e4, vCallS_e4, vCallSV_e4, vCallM_e5, vCallMV_e5, vCallS_e5, vCallSV_e5, vCallM_e6, vCallMV_e6, vCallS_e6, vCallSV_e6, vCallM_e7, vCallMV_e7, vCallS_e7, vCallSV_e7, vBad_e, vStrVal_e, vStrCod_e, vForm_e, vCallT_e0, vCallT_e1, vCallT_e2, vCopy_e, rf_0_0, rf_0_1, rf_0_2, rf_0_3, rf_0_4, rf_0_7, rf_0_10, rf_0_11, rf_0_12, rf_0_13, rf_0_14, rf_0_15, rf_0_16, rf_1_0, rf_3_0, rf_3_1, rf_6_0, rf_6_1, rf_9_0, rf_9_1, rf_9_3, rf_13_0, rf_13_1, rf_13_2, rf_16_0, rf_16_1, rf_16_2, rf_16_3, rf_21_0, rf_21_1, rf_21_2, rf_21_3, rf_26_0, rf_26_1, rf_26_2, rf_26_3, rf_26_4, rf_26_5, rf_26_6, rf_31_0, rf_31_2, rf_31_5, rf_31_6, rf_36_0, rf_36_1, rf_36_2, rf_36_3, rf_39_0, rf_39_1, rf_39_2, rf_41_0, rf_41_1, rf_41_2, rf_41_3, rf_5000_1, rf_5000_2, rf_5000_3, rf_5000_4, rf_5000_5, rf_5000_15, rf_5000_16, rf_5000_18, rf_5000_19, rf_5000_20, rf_5000_21, rf_5000_22, rf_5000_23, rf_5000_24, rf_5000_25, rf_5000_26, rf_5000_27, rf_5000_36, rf_5000_37, rf_5000_40, rf_5000_41, rf_5000_42, rf_5000_43, rf_5000_44, rf_5000_45, rf_5000_47, rf_5000_52, rf_5000_54, rf_5000_55, rf_100_0, rf_100_1, rf_103_0, rf_103_1, rf_106_0, rf_106_1, rf_109_0, rf_109_1, al_2, al_4, al_5, al_7, al_8, al_10, al_11, al_12, al_14, al_15, al_17, al_18, al_19, al_20, al_22, al_23, al_24, al_25, al_27, al_28, al_29, al_30, al_32, al_33, al_34, al_35, al_37, al_38, al_40, al_42, al_5001, al_5002, al_5003, al_5004, al_5005, al_5006, al_5007, al_5008, al_5009, al_5010, al_5011, al_5012, al_5013, al_5014, al_5015, al_5016, al_5017, al_5018, al_5019, al_5020, al_5021, al_5022, al_5023, al_5024, al_5025, al_5026, al_9000, al_101, al_102, al_104, al_105, al_107, al_108, al_110, al_111, vcs_e, lg_c0, lg_cs, lg_nil, set_c0, set_cs, okst_0, okst_s, acok_n, acok_c, List.contains_nil, List.contains_cons, Bool.or_false, Bool.false_or, Bool.false_eq_true, if_false, if_true, ite_self, ne_eq, true_and, and_true, not_false_eq_true, not_true_eq_false, false_imp_iff, true_imp_iff, Nat.ble_eq, Bool.and_eq_true, reduceCtorEq, or_false, false_or, or_true, true_or, false_and, and_false, and_self, Int.reduceLE, Int.reduceAdd, Int.reduceSub, Int.reduceMul, Int.reduceNeg, Int.reduceLT, Int.reduceEq, Int.reduceNe, Nat.reduceBEq, Nat.reduceBNe, Nat.reduceEqDiff, amCmp_in, amCmp_lt, amCmp_le, amCmp_gt, amCmp_ge, amCmp_eq, amCmp_ne, Nat.reduceLeDiff, Nat.reduceSub, Bool.and_true, Bool.true_and, Bool.and_self, Bool.or_true, Bool.true_or, isRf_3, isRf_4, isRf_5, isRf_8, isRf_9, isRf_10, isRf_11, isRf_15, isRf_16, isRf_17, isRf_18, isRf_19, isRf_20, isRf_21, isRf_22, isRf_23, isRf_24, isRf_25, isRf_26, isRf_27, isRf_28, k_X12_put_0, k_X12_put_2, k_X12_put_3, k_X12_put_4, k_X12_put_7, k_X12_put_8, k_X12_put_9, k_X12_put_10, k_X12_put_13, k_X12_put_14, k_X12_put_17, k_X12_put_20, k_X12_put_21, k_X12_put_24, k_X12_put_25, k_X12_put_28, k_X12_put_29, k_X12_put_30, k_X12_put_31, k_X12_put_32, k_X12_put_33, k_X12_put_34, k_X12_put_35, k_X12_put_38, k_X12_put_39, k_X12_put_40, k_X12_put_43, k_X12_put_46, k_X12_put_49]
    exact ⟨4, rfl, rfl, h0, Or.inl ⟨rfl, rfl, rfl, h1⟩⟩
abbrev mFd (σ : Mem) (a b c d e : Int) : Mem := mPf (mPf (mPf (mPf (mPf σ a) b) c) d) e
theorem wd_1485 : Cond.methodLink RX12 126 yX12_bytesIn ∈ TBL := tb_tab (List.mem_of_getElem? (i := 1485) (by decide +kernel)) rfl
theorem wd_1487 : Cond.code yX12_bytesIn cX12_bytesIn 3 (some .int) ∈ TBL := tb_tab (List.mem_of_getElem? (i := 1487) (by decide +kernel)) rfl
theorem lk_X12_126 : amLk RX12 126 yX12_bytesIn cX12_bytesIn 3 (some .int) 1 := ⟨wd_1485, wd_12, wd_1487, by decide +kernel, by decide +kernel, by decide⟩
theorem wd_1486 : Cond.static yX12_bytesIn ∈ TBL := tb_tab (List.mem_of_getElem? (i := 1486) (by decide +kernel)) rfl
theorem wd_1488 : Cond.methodLink RX12 130 yX12_put ∈ TBL := tb_tab (List.mem_of_getElem? (i := 1488) (by decide +kernel)) rfl
theorem wd_1491 : Cond.code yX12_put cX12_put 3 (none) ∈ TBL := tb_tab (List.mem_of_getElem? (i := 1491) (by decide +kernel)) rfl
theorem lk_X12_130 : amLk RX12 130 yX12_put cX12_put 3 (none) 1 := ⟨wd_1488, wd_12, wd_1491, by decide +kernel, by decide +kernel, by decide⟩
theorem wd_1490 : Cond.instanceMethod yX12_put ∈ TBL := tb_tab (List.mem_of_getElem? (i := 1490) (by decide +kernel)) rfl
theorem sl_X12_put : Cond.selects RX12 yX12_put yX12_put ∈ TBL := tb_sel (List.mem_of_getElem? (i := 47) (by decide +kernel)) rfl
def a_X12_feed : AC := [(0, vAload 0 1), (1, vI 0 2), (2, vPutI 28 0 5), (5, vAload 0 6), (6, vGetI 28 6 9), (9, vIload 1 10), (10, vCallS w_X12_bytesIn 1 13), (13, vIadd 14), (14, vIload 2 15), (15, vCallS w_X12_bytesIn 1 18), (18, vIadd 19), (19, vIload 3 20), (20, vCallS w_X12_bytesIn 1 23), (23, vIadd 24), (24, vIload 4 26), (26, vCallS w_X12_bytesIn 1 29), (29, vIadd 30), (30, vIload 5 32), (32, vCallS w_X12_bytesIn 1 35), (35, vIadd 36), (36, vI 240 39), (39, vIcLe 44 42), (42, vI (-1) 43), (43, vIret), (44, vAload 0 45), (45, vIload 1 46), (46, vCallMV w_X12_put 28 1 49), (49, vAload 0 50), (50, vIload 2 51), (51, vCallMV w_X12_put 28 1 54), (54, vAload 0 55), (55, vIload 3 56), (56, vCallMV w_X12_put 28 1 59), (59, vAload 0 60), (60, vIload 4 62), (62, vCallMV w_X12_put 28 1 65), (65, vAload 0 66), (66, vIload 5 68), (68, vCallMV w_X12_put 28 1 71), (71, vAload 0 72), (72, vGetI 28 6 75), (75, vIret)]
theorem k_X12_feed_0 : look a_X12_feed 0 = vAload 0 1 := rfl
theorem k_X12_feed_1 : look a_X12_feed 1 = vI 0 2 := rfl
theorem k_X12_feed_2 : look a_X12_feed 2 = vPutI 28 0 5 := rfl
theorem k_X12_feed_5 : look a_X12_feed 5 = vAload 0 6 := rfl
theorem k_X12_feed_6 : look a_X12_feed 6 = vGetI 28 6 9 := rfl
theorem k_X12_feed_9 : look a_X12_feed 9 = vIload 1 10 := rfl
theorem k_X12_feed_10 : look a_X12_feed 10 = vCallS w_X12_bytesIn 1 13 := rfl
theorem k_X12_feed_13 : look a_X12_feed 13 = vIadd 14 := rfl
theorem k_X12_feed_14 : look a_X12_feed 14 = vIload 2 15 := rfl
theorem k_X12_feed_15 : look a_X12_feed 15 = vCallS w_X12_bytesIn 1 18 := rfl
theorem k_X12_feed_18 : look a_X12_feed 18 = vIadd 19 := rfl
theorem k_X12_feed_19 : look a_X12_feed 19 = vIload 3 20 := rfl
theorem k_X12_feed_20 : look a_X12_feed 20 = vCallS w_X12_bytesIn 1 23 := rfl
theorem k_X12_feed_23 : look a_X12_feed 23 = vIadd 24 := rfl
theorem k_X12_feed_24 : look a_X12_feed 24 = vIload 4 26 := rfl
theorem k_X12_feed_26 : look a_X12_feed 26 = vCallS w_X12_bytesIn 1 29 := rfl
theorem k_X12_feed_29 : look a_X12_feed 29 = vIadd 30 := rfl
theorem k_X12_feed_30 : look a_X12_feed 30 = vIload 5 32 := rfl
theorem k_X12_feed_32 : look a_X12_feed 32 = vCallS w_X12_bytesIn 1 35 := rfl
theorem k_X12_feed_35 : look a_X12_feed 35 = vIadd 36 := rfl
theorem k_X12_feed_36 : look a_X12_feed 36 = vI 240 39 := rfl
theorem k_X12_feed_39 : look a_X12_feed 39 = vIcLe 44 42 := rfl
theorem k_X12_feed_42 : look a_X12_feed 42 = vI (-1) 43 := rfl
theorem k_X12_feed_43 : look a_X12_feed 43 = vIret := rfl
theorem k_X12_feed_44 : look a_X12_feed 44 = vAload 0 45 := rfl
theorem k_X12_feed_45 : look a_X12_feed 45 = vIload 1 46 := rfl
theorem k_X12_feed_46 : look a_X12_feed 46 = vCallMV w_X12_put 28 1 49 := rfl
theorem k_X12_feed_49 : look a_X12_feed 49 = vAload 0 50 := rfl
theorem k_X12_feed_50 : look a_X12_feed 50 = vIload 2 51 := rfl
theorem k_X12_feed_51 : look a_X12_feed 51 = vCallMV w_X12_put 28 1 54 := rfl
theorem k_X12_feed_54 : look a_X12_feed 54 = vAload 0 55 := rfl
theorem k_X12_feed_55 : look a_X12_feed 55 = vIload 3 56 := rfl
theorem k_X12_feed_56 : look a_X12_feed 56 = vCallMV w_X12_put 28 1 59 := rfl
theorem k_X12_feed_59 : look a_X12_feed 59 = vAload 0 60 := rfl
theorem k_X12_feed_60 : look a_X12_feed 60 = vIload 4 62 := rfl
theorem k_X12_feed_62 : look a_X12_feed 62 = vCallMV w_X12_put 28 1 65 := rfl
theorem k_X12_feed_65 : look a_X12_feed 65 = vAload 0 66 := rfl
theorem k_X12_feed_66 : look a_X12_feed 66 = vIload 5 68 := rfl
theorem k_X12_feed_68 : look a_X12_feed 68 = vCallMV w_X12_put 28 1 71 := rfl
theorem k_X12_feed_71 : look a_X12_feed 71 = vAload 0 72 := rfl
theorem k_X12_feed_72 : look a_X12_feed 72 = vGetI 28 6 75 := rfl
theorem k_X12_feed_75 : look a_X12_feed 75 = vIret := rfl
theorem o_X12_feed {X : amX} (e1 : XT X = TT) (e2 : XD X = 1) (hB : amB X RX12 cX12_feed (some .int) 6) : ∀ pc, amOK X pc (look a_X12_feed pc) := by
  have hT : amTok (XT X) := e1 ▸ TT_ok
  refine look_ok ?_
  unfold a_X12_feed
  refine fc (ok_aload_n hB dX12_feed_0) ?_
  refine fc (ok_iconst hB dX12_feed_1) ?_
  refine fc (ok_putI hB hT fp_X12_111 rfl rfl rfl af_12_0 dX12_feed_2) ?_
  refine fc (ok_aload_n hB dX12_feed_5) ?_
  refine fc (ok_getI hB hT fl_X12_124 rfl rfl (Or.inl af_12_6) dX12_feed_6) ?_
  refine fc (ok_iload_n hB dX12_feed_9) ?_
  refine fc (ok_callS hB (e1 ▸ s_X12_bytesIn) lk_X12_126 (by rw [e2]; decide) wd_1486 dX12_feed_10) ?_
  refine fc (ok_iadd hB dX12_feed_13) ?_
  refine fc (ok_iload_n hB dX12_feed_14) ?_
  refine fc (ok_callS hB (e1 ▸ s_X12_bytesIn) lk_X12_126 (by rw [e2]; decide) wd_1486 dX12_feed_15) ?_
  refine fc (ok_iadd hB dX12_feed_18) ?_
  refine fc (ok_iload_n hB dX12_feed_19) ?_
  refine fc (ok_callS hB (e1 ▸ s_X12_bytesIn) lk_X12_126 (by rw [e2]; decide) wd_1486 dX12_feed_20) ?_
  refine fc (ok_iadd hB dX12_feed_23) ?_
  refine fc (ok_iload hB dX12_feed_24) ?_
  refine fc (ok_callS hB (e1 ▸ s_X12_bytesIn) lk_X12_126 (by rw [e2]; decide) wd_1486 dX12_feed_26) ?_
  refine fc (ok_iadd hB dX12_feed_29) ?_
  refine fc (ok_iload hB dX12_feed_30) ?_
  refine fc (ok_callS hB (e1 ▸ s_X12_bytesIn) lk_X12_126 (by rw [e2]; decide) wd_1486 dX12_feed_32) ?_
  refine fc (ok_iadd hB dX12_feed_35) ?_
  refine fc (ok_sipush hB dX12_feed_36 (by decide)) ?_
  refine fc (ok_icmp_le hB (t := 44) (by decide) dX12_feed_39) ?_
  refine fc (ok_iconst hB dX12_feed_42) ?_
  refine fc (ok_iret hB dX12_feed_43) ?_
  refine fc (ok_aload_n hB dX12_feed_44) ?_
  refine fc (ok_iload_n hB dX12_feed_45) ?_
  refine fc (ok_callMV hB hT (e1 ▸ s_X12_put) lk_X12_130 (by rw [e2]; decide) (c := 12) rfl rfl rfl wd_1490 sl_X12_put dX12_feed_46) ?_
  refine fc (ok_aload_n hB dX12_feed_49) ?_
  refine fc (ok_iload_n hB dX12_feed_50) ?_
  refine fc (ok_callMV hB hT (e1 ▸ s_X12_put) lk_X12_130 (by rw [e2]; decide) (c := 12) rfl rfl rfl wd_1490 sl_X12_put dX12_feed_51) ?_
  refine fc (ok_aload_n hB dX12_feed_54) ?_
  refine fc (ok_iload_n hB dX12_feed_55) ?_
  refine fc (ok_callMV hB hT (e1 ▸ s_X12_put) lk_X12_130 (by rw [e2]; decide) (c := 12) rfl rfl rfl wd_1490 sl_X12_put dX12_feed_56) ?_
  refine fc (ok_aload_n hB dX12_feed_59) ?_
  refine fc (ok_iload hB dX12_feed_60) ?_
  refine fc (ok_callMV hB hT (e1 ▸ s_X12_put) lk_X12_130 (by rw [e2]; decide) (c := 12) rfl rfl rfl wd_1490 sl_X12_put dX12_feed_62) ?_
  refine fc (ok_aload_n hB dX12_feed_65) ?_
  refine fc (ok_iload hB dX12_feed_66) ?_
  refine fc (ok_callMV hB hT (e1 ▸ s_X12_put) lk_X12_130 (by rw [e2]; decide) (c := 12) rfl rfl rfl wd_1490 sl_X12_put dX12_feed_68) ?_
  refine fc (ok_aload_n hB dX12_feed_71) ?_
  refine fc (ok_getI hB hT fl_X12_124 rfl rfl (Or.inl af_12_6) dX12_feed_72) ?_
  refine fc (ok_iret hB dX12_feed_75) ?_
  exact fn

def w_X12_feed : WP := fun av σ Q => ∃ (a : Int) (b : Int) (c : Int) (d : Int) (e : Int), av = [(28, 5000), (0, a), (0, b), (0, c), (0, d), (0, e)] ∧ (InR a ∧ InR b ∧ InR c ∧ InR d ∧ InR e ∧ 0 ≤ σ 5000 6 ∧ σ 5000 6 ≤ 240 ∧ (240 < σ 5000 6 + (nzc a + nzc b + nzc c + nzc d + nzc e) → Q (0, -1) (th0 σ)) ∧ (σ 5000 6 + (nzc a + nzc b + nzc c + nzc d + nzc e) ≤ 240 → Q (0, mFd (th0 σ) a b c d e 5000 6) (mFd (th0 σ) a b c d e)))
theorem w_X12_feed_e (a : Int) (b : Int) (c : Int) (d : Int) (e : Int) (σ : Mem) (Q : AV → Mem → Prop) : w_X12_feed [(28, 5000), (0, a), (0, b), (0, c), (0, d), (0, e)] σ Q = (InR a ∧ InR b ∧ InR c ∧ InR d ∧ InR e ∧ 0 ≤ σ 5000 6 ∧ σ 5000 6 ≤ 240 ∧ (240 < σ 5000 6 + (nzc a + nzc b + nzc c + nzc d + nzc e) → Q (0, -1) (th0 σ)) ∧ (σ 5000 6 + (nzc a + nzc b + nzc c + nzc d + nzc e) ≤ 240 → Q (0, mFd (th0 σ) a b c d e 5000 6) (mFd (th0 σ) a b c d e))) := by
  apply propext; constructor
  · rintro ⟨a', b', c', d', e', h9, hb9⟩; cases h9; exact hb9
  · intro hb9; exact ⟨a, b, c, d, e, rfl, hb9⟩

set_option maxRecDepth 100000 in
set_option maxHeartbeats 4000000 in
theorem s_X12_feed : ∀ av σ Q, w_X12_feed av σ Q → amCall 1 0 0 TT yX12_feed cX12_feed 6 (some .int) av σ Q := by
  rintro av σ Q ⟨a, b, c, d, e, rfl, ha, hb, hc, hd, he, t0, t1, h1, h2⟩
  have e6 : th0 σ 5000 6 = σ 5000 6 := th_k σ (by decide)
  have l1 := mPf_6 (th0 σ) a
  have l2 := mPf_6 (mPf (th0 σ) a) b
  have l3 := mPf_6 (mPf (mPf (th0 σ) a) b) c
  have l4 := mPf_6 (mPf (mPf (mPf (th0 σ) a) b) c) d
  have l5 := mPf_6 (mPf (mPf (mPf (mPf (th0 σ) a) b) c) d) e
  have e5 : up σ 5000 0 0 5000 6 = σ 5000 6 := e6
  have n1 := nzc_b a
  have n2 := nzc_b b
  have n3 := nzc_b c
  have n4 := nzc_b d
  have n5 := nzc_b e
  refine am_m0 (own := RX12) (A := look a_X12_feed) (fun X e1 e2 hB => o_X12_feed e1 e2 hB) rfl (by decide +kernel) rfl rfl 190 (w := 6) ?_
  change vcs _ _ _ _ 190 0 [(28, 5000), (0, a), (0, b), (0, c), (0, d), (0, e)] [] σ
  simp only [↓reduceIte, inR_0, inR_1, inR_m, vSw2_e, swP_n, swP_c, vI_e, vL_e, vNull_e, vIload_e, vLload_e, vAload_e, vIstore_e, vLstore_e, vAstore_e, vIinc_e, vIadd_e, vIsub_e, vImul_e, vIand_e, vIor_e, vIxor_e, vIshl_e, vIshr_e, vIushr_e, vIdiv_e, vIrem_e, vLadd_e, vLsub_e, vLmul_e, vLand_e, vLor_e, vLxor_e, vLdiv_e, vLrem_e, vLushr_e, vLshl_e, vLcmp_e, vIneg_e, vI2l_e, vL2i_e, vI2b_e, vI2c_e, vDup_e, vPop_e, vDup2_e, vGoto_e, vIcEq_e, vIfEq_e, vIcNe_e, vIfNe_e, vIcLt_e, vIfLt_e, vIcGe_e, vIfGe_e, vIcGt_e, vIfGt_e, vIcLe_e, vIfLe_e, vNonnull_e, vSw_e, vGetI_e, vGetL_e, vGetR_e, vPutI_e, vPutZ_e, vPutL_e, vPutR_e, vIald_e, vIald_s, vLald_e, vBald_e, vBald_s, vAald_e, vIast_e, vLast_e, vBast_e, vAast_e, vAlen_e8, vAlen_e9, vAlen_e10, vAlen_e11, vAlen_e5, vAlen_e3, vGets_e, vCompact_e, vLdcS_e, vIret_e, vZret_e, vCret_e, vBret_e, vLret_e, vVret_e, vAret_e, vCallM_e0, vCallMV_e0, vCallS_e0, vCallSV_e0, vCallM_e1, vCallMV_e1, vCallS_e1, vCallSV_e1, vCallM_e2, vCallMV_e2, vCallS_e2, vCallSV_e2, vCallM_e3, vCallMV_e3, vCallS_e3, vCallSV_e3, vCallM_e4, vCallMV_e4, vCallS_e4, vCallSV_e4, vCallM_e5, vCallMV_e5, vCallS_e5, vCallSV_e5, vCallM_e6, vCallMV_e6, vCallS_e6, vCallSV_e6, vCallM_e7, vCallMV_e7, vCallS_e7, vCallSV_e7, vBad_e, vStrVal_e, vStrCod_e, vForm_e, vCallT_e0, vCallT_e1, vCallT_e2, vCopy_e, rf_0_0, rf_0_1, rf_0_2, rf_0_3, rf_0_4, rf_0_7, rf_0_10, rf_0_11, rf_0_12, rf_0_13, rf_0_14, rf_0_15, rf_0_16, rf_1_0, rf_3_0, rf_3_1, rf_6_0, rf_6_1, rf_9_0, rf_9_1, rf_9_3, rf_13_0, rf_13_1, rf_13_2, rf_16_0, rf_16_1, rf_16_2, rf_16_3, rf_21_0, rf_21_1, rf_21_2, rf_21_3, rf_26_0, rf_26_1, rf_26_2, rf_26_3, rf_26_4, rf_26_5, rf_26_6, rf_31_0, rf_31_2, rf_31_5, rf_31_6, rf_36_0, rf_36_1, rf_36_2, rf_36_3, rf_39_0, rf_39_1, rf_39_2, rf_41_0, rf_41_1, rf_41_2, rf_41_3, rf_5000_1, rf_5000_2, rf_5000_3, rf_5000_4, rf_5000_5, rf_5000_15, rf_5000_16, rf_5000_18, rf_5000_19, rf_5000_20, rf_5000_21, rf_5000_22, rf_5000_23, rf_5000_24, rf_5000_25, rf_5000_26, rf_5000_27, rf_5000_36, rf_5000_37, rf_5000_40, rf_5000_41, rf_5000_42, rf_5000_43, rf_5000_44, rf_5000_45, rf_5000_47, rf_5000_52, rf_5000_54, rf_5000_55, rf_100_0, rf_100_1, rf_103_0, rf_103_1, rf_106_0, rf_106_1, rf_109_0, rf_109_1, al_2, al_4, al_5, al_7, al_8, al_10, al_11, al_12, al_14, al_15, al_17, al_18, al_19, al_20, al_22, al_23, al_24, al_25, al_27, al_28, al_29, al_30, al_32, al_33, al_34, al_35, al_37, al_38, al_40, al_42, al_5001, al_5002, al_5003, al_5004, al_5005, al_5006, al_5007, al_5008, al_5009, al_5010, al_5011, al_5012, al_5013, al_5014, al_5015, al_5016, al_5017, al_5018, al_5019, al_5020, al_5021, al_5022, al_5023, al_5024, al_5025, al_5026, al_9000, al_101, al_102, al_104, al_105, al_107, al_108, al_110, al_111, vcs_e, lg_c0, lg_cs, lg_nil, set_c0, set_cs, okst_0, okst_s, acok_n, acok_c, List.contains_nil, List.contains_cons, Bool.or_false, Bool.false_or, Bool.false_eq_true, if_false, if_true, ite_self, ne_eq, true_and, and_true, not_false_eq_true, not_true_eq_false, false_imp_iff, true_imp_iff, Nat.ble_eq, Bool.and_eq_true, reduceCtorEq, or_false, false_or, or_true, true_or, false_and, and_false, and_self, Int.reduceLE, Int.reduceAdd, Int.reduceSub, Int.reduceMul, Int.reduceNeg, Int.reduceLT, Int.reduceEq, Int.reduceNe, Nat.reduceBEq, Nat.reduceBNe, Nat.reduceEqDiff, amCmp_in, amCmp_lt, amCmp_le, amCmp_gt, amCmp_ge, amCmp_eq, amCmp_ne, Nat.reduceLeDiff, Nat.reduceSub, Bool.and_true, Bool.true_and, Bool.and_self, Bool.or_true, Bool.true_or, isRf_3, isRf_4, isRf_5, isRf_8, isRf_9, isRf_10, isRf_11, isRf_15, isRf_16, isRf_17, isRf_18, isRf_19, isRf_20, isRf_21, isRf_22, isRf_23, isRf_24, isRf_25, isRf_26, isRf_27, isRf_28, k_X12_feed_0, k_X12_feed_1, k_X12_feed_2, k_X12_feed_5, k_X12_feed_6, k_X12_feed_9, k_X12_feed_10, k_X12_feed_13, k_X12_feed_14, k_X12_feed_15, k_X12_feed_18, k_X12_feed_19, k_X12_feed_20, k_X12_feed_23, k_X12_feed_24, k_X12_feed_26, k_X12_feed_29, k_X12_feed_30, k_X12_feed_32, k_X12_feed_35, k_X12_feed_36, k_X12_feed_39, k_X12_feed_42, k_X12_feed_43, k_X12_feed_44, k_X12_feed_45, k_X12_feed_46, k_X12_feed_49, k_X12_feed_50, k_X12_feed_51, k_X12_feed_54, k_X12_feed_55, k_X12_feed_56, k_X12_feed_59, k_X12_feed_60, k_X12_feed_62, k_X12_feed_65, k_X12_feed_66, k_X12_feed_68, k_X12_feed_71, k_X12_feed_72, k_X12_feed_75, w_X12_bytesIn_e, w_X12_put_e, up_s, up_nj, up_na, up_up, savR_o, cpy_o, fillm_o, setAud_o, setv_o, setv_s, Int.reduceNe, Int.reduceEq, Int.reduceLT, Int.reduceAdd, not_false_eq_true, ne_eq, or_true, true_or, e6]
  unfold th0 at l1 l2 l3 l4 l5
  repeat' (first | apply And.intro | intro _)
  all_goals first | omega | exact absurd trivial (by assumption) | exact ha | exact hb | exact hc | exact hd | exact he | exact h1 (by omega) | exact h2 (by omega)
