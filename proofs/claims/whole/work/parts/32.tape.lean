/-! Tape: cell 1 (1: length, 2: at), its bytes: cell 2 -/
/-- the sign at place i of the tape; -1: none -/
def tsg (σ : Mem) (i : Int) : Int := if 0 ≤ i ∧ i < σ 1 1 ∧ i < 240 then σ 2 i else -1
theorem tsg_up (σ : Mem) (v i : Int) : tsg (up σ 1 2 v) i = tsg σ i := by
  unfold tsg; rw [up_n σ (Or.inr (by decide)), up_na σ (by decide)]
/-- the tape is as it should be -/
def tapeOk (σ : Mem) : Prop := 0 ≤ σ 1 1 ∧ σ 1 1 ≤ 240 ∧ ∀ i, 0 ≤ i → i < σ 1 1 → 1 ≤ σ 2 i ∧ σ 2 i ≤ 255
theorem tsg_bd {σ : Mem} (h : tapeOk σ) (i : Int) : -1 ≤ tsg σ i ∧ tsg σ i ≤ 255 ∧ (0 ≤ i → i < σ 1 1 → 1 ≤ tsg σ i) ∧ (σ 1 1 ≤ i → tsg σ i = -1) := by
  unfold tsg
  obtain ⟨h0, h1, h2⟩ := h
  split
  · have := h2 i (by omega) (by omega)
    exact ⟨by omega, by omega, fun _ _ => by omega, fun _ => by omega⟩
  · exact ⟨by omega, by omega, fun _ _ => by omega, fun _ => rfl⟩
/-- past blanks -/
def skp (t : Int → Int) (p : Int) : Nat → Int
  | 0 => p
  | n + 1 => if t p = 32 then skp t (p + 1) n else p
theorem skp_bd (t : Int → Int) : ∀ (n : Nat) (p : Int), p ≤ skp t p n ∧ skp t p n ≤ p + n := by
  intro n
  induction n with
  | zero => intro p; unfold skp; omega
  | succ n ih =>
    intro p; unfold skp
    have := ih (p + 1)
    split <;> omega
/-- how many digits stand there, at most m; and what they are worth -/
def ndig (t : Int → Int) (p : Int) : Nat → Int
  | 0 => 0
  | m + 1 => if 48 ≤ t p ∧ t p ≤ 57 then 1 + ndig t (p + 1) m else 0
def nval (t : Int → Int) (p acc : Int) : Nat → Int
  | 0 => acc
  | m + 1 => if 48 ≤ t p ∧ t p ≤ 57 then nval t (p + 1) (10 * acc + t p - 48) m else acc

def a_X10_signsIn : AC := [(0, vI 0 1), (1, vIstore 1 2), (2, vI 24 4), (4, vIstore 2 5), (5, vIload 2 6), (6, vIfLt 28 9), (9, vIload 0 10), (10, vIload 2 11), (11, vIushr 12), (12, vI 255 15), (15, vIand 16), (16, vIfEq 22 19), (19, vIinc 1 1 22), (22, vIinc 2 (-8) 25), (25, vGoto 5), (28, vIload 1 29), (29, vIret)]
theorem k_X10_signsIn_0 : look a_X10_signsIn 0 = vI 0 1 := rfl
theorem k_X10_signsIn_1 : look a_X10_signsIn 1 = vIstore 1 2 := rfl
theorem k_X10_signsIn_2 : look a_X10_signsIn 2 = vI 24 4 := rfl
theorem k_X10_signsIn_4 : look a_X10_signsIn 4 = vIstore 2 5 := rfl
theorem k_X10_signsIn_5 : look a_X10_signsIn 5 = vIload 2 6 := rfl
theorem k_X10_signsIn_6 : look a_X10_signsIn 6 = vIfLt 28 9 := rfl
theorem k_X10_signsIn_9 : look a_X10_signsIn 9 = vIload 0 10 := rfl
theorem k_X10_signsIn_10 : look a_X10_signsIn 10 = vIload 2 11 := rfl
theorem k_X10_signsIn_11 : look a_X10_signsIn 11 = vIushr 12 := rfl
theorem k_X10_signsIn_12 : look a_X10_signsIn 12 = vI 255 15 := rfl
theorem k_X10_signsIn_15 : look a_X10_signsIn 15 = vIand 16 := rfl
theorem k_X10_signsIn_16 : look a_X10_signsIn 16 = vIfEq 22 19 := rfl
theorem k_X10_signsIn_19 : look a_X10_signsIn 19 = vIinc 1 1 22 := rfl
theorem k_X10_signsIn_22 : look a_X10_signsIn 22 = vIinc 2 (-8) 25 := rfl
theorem k_X10_signsIn_25 : look a_X10_signsIn 25 = vGoto 5 := rfl
theorem k_X10_signsIn_28 : look a_X10_signsIn 28 = vIload 1 29 := rfl
theorem k_X10_signsIn_29 : look a_X10_signsIn 29 = vIret := rfl
theorem o_X10_signsIn {X : amX} (e1 : XT X = TT) (e2 : XD X = 0) (hB : amB X RX10 cX10_signsIn (some .int) 3) : ∀ pc, amOK X pc (look a_X10_signsIn pc) := by
  have hT : amTok (XT X) := e1 ▸ TT_ok
  refine look_ok ?_
  unfold a_X10_signsIn
  refine fc (ok_iconst hB dX10_signsIn_0) ?_
  refine fc (ok_istore_n hB (by decide) dX10_signsIn_1) ?_
  refine fc (ok_bipush hB dX10_signsIn_2 (by decide)) ?_
  refine fc (ok_istore_n hB (by decide) dX10_signsIn_4) ?_
  refine fc (ok_iload_n hB dX10_signsIn_5) ?_
  refine fc (ok_if_lt hB (t := 28) (by decide) dX10_signsIn_6) ?_
  refine fc (ok_iload_n hB dX10_signsIn_9) ?_
  refine fc (ok_iload_n hB dX10_signsIn_10) ?_
  refine fc (ok_iushr hB dX10_signsIn_11) ?_
  refine fc (ok_sipush hB dX10_signsIn_12 (by decide)) ?_
  refine fc (ok_iand hB dX10_signsIn_15) ?_
  refine fc (ok_if_eq hB (t := 22) (by decide) dX10_signsIn_16) ?_
  refine fc (ok_iinc hB (by decide) dX10_signsIn_19) ?_
  refine fc (ok_iinc hB (by decide) dX10_signsIn_22) ?_
  refine fc (ok_goto hB (t := 5) (by decide) dX10_signsIn_25) ?_
  refine fc (ok_iload_n hB dX10_signsIn_28) ?_
  refine fc (ok_iret hB dX10_signsIn_29) ?_
  exact fn

def w_X10_signsIn : WP := fun av σ Q => ∃ (x : Int), av = [(0, x)] ∧ (InR x ∧ Q (0, nzc x) σ)
theorem w_X10_signsIn_e (x : Int) (σ : Mem) (Q : AV → Mem → Prop) : w_X10_signsIn [(0, x)] σ Q = (InR x ∧ Q (0, nzc x) σ) := by
  apply propext; constructor
  · rintro ⟨x', h9, hb9⟩; cases h9; exact hb9
  · intro hb9; exact ⟨x, rfl, hb9⟩

set_option maxRecDepth 100000 in
set_option maxHeartbeats 4000000 in
theorem s_X10_signsIn : ∀ av σ Q, w_X10_signsIn av σ Q → amCall 0 0 0 TT yX10_signsIn cX10_signsIn 3 (some .int) av σ Q := by
  rintro av σ Q ⟨x, rfl, hx, h⟩
  refine am_m0 (own := RX10) (A := look a_X10_signsIn) (fun X e1 e2 hB => o_X10_signsIn e1 e2 hB) rfl (by decide +kernel) rfl rfl 120 (w := 3) ?_
  change vcs _ _ _ _ 120 0 [(0, x), (6, 0), (6, 0)] [] σ
  simp only [vI_e, vL_e, vNull_e, vIload_e, vLload_e, vAload_e, vIstore_e, vLstore_e, vAstore_e, vIinc_e, vIadd_e, vIsub_e, vImul_e, vIand_e, vIor_e, vIxor_e, vIshl_e, vIshr_e, vIushr_e, vIdiv_e, vIrem_e, vLadd_e, vLsub_e, vLmul_e, vLand_e, vLor_e, vLxor_e, vLdiv_e, vLrem_e, vLushr_e, vLshl_e, vLcmp_e, vIneg_e, vI2l_e, vL2i_e, vI2b_e, vI2c_e, vDup_e, vPop_e, vDup2_e, vGoto_e, vIcEq_e, vIfEq_e, vIcNe_e, vIfNe_e, vIcLt_e, vIfLt_e, vIcGe_e, vIfGe_e, vIcGt_e, vIfGt_e, vIcLe_e, vIfLe_e, vNonnull_e, vSw_e, vGetI_e, vGetL_e, vGetR_e, vPutI_e, vPutZ_e, vPutL_e, vPutR_e, vIald_e, vIald_s, vLald_e, vBald_e, vBald_s, vAald_e, vIast_e, vLast_e, vBast_e, vAast_e, vAlen_e8, vAlen_e9, vAlen_e10, vAlen_e11, vAlen_e5, vAlen_e3, vGets_e, vCompact_e, vLdcS_e, vIret_e, vZret_e, vCret_e, vBret_e, vLret_e, vVret_e, vAret_e, vCallM_e0, vCallMV_e0, vCallS_e0, vCallSV_e0, vCallM_e1, vCallMV_e1, vCallS_e1, vCallSV_e1, vCallM_e2, vCallMV_e2, vCallS_e2, vCallSV_e2, vCallM_e3, vCallMV_e3, vCallS_e3, vCallSV_e3, vCallM_e4, vCallMV_e4, vCallS_e4, vCallSV_e4, vCallM_e5, vCallMV_e5, vCallS_e5, vCallSV_e5, vCallM_e6, vCallMV_e6, vCallS_e6, vCallSV_e6, vCallM_e7, vCallMV_e7, vCallS_e7, vCallSV_e7, vBad_e, vStrVal_e, vStrCod_e, vForm_e, vCallT_e0, vCallT_e1, vCallT_e2, vCopy_e, rf_0_0, rf_0_1, rf_0_2, rf_0_3, rf_0_4, rf_0_7, rf_0_10, rf_0_11, rf_0_12, rf_0_13, rf_0_14, rf_0_15, rf_0_16, rf_1_0, rf_3_0, rf_3_1, rf_6_0, rf_6_1, rf_9_0, rf_9_1, rf_9_3, rf_13_0, rf_13_1, rf_13_2, rf_16_0, rf_16_1, rf_16_2, rf_16_3, rf_21_0, rf_21_1, rf_21_2, rf_21_3, rf_26_0, rf_26_1, rf_26_2, rf_26_3, rf_26_4, rf_26_5, rf_26_6, rf_31_0, rf_31_2, rf_31_5, rf_31_6, rf_36_0, rf_36_1, rf_36_2, rf_36_3, rf_39_0, rf_39_1, rf_39_2, rf_41_0, rf_41_1, rf_41_2, rf_41_3, rf_5000_1, rf_5000_2, rf_5000_3, rf_5000_4, rf_5000_5, rf_5000_15, rf_5000_16, rf_5000_18, rf_5000_19, rf_5000_20, rf_5000_21, rf_5000_22, rf_5000_23, rf_5000_24, rf_5000_25, rf_5000_26, rf_5000_27, rf_5000_36, rf_5000_37, rf_5000_40, rf_5000_41, rf_5000_42, rf_5000_43, rf_5000_44, rf_5000_45, rf_5000_47, rf_5000_52, rf_5000_54, rf_5000_55, rf_100_0, rf_100_1, rf_103_0, rf_103_1, rf_106_0, rf_106_1, rf_109_0, rf_109_1, al_2, al_4, al_5, al_7, al_8, al_10, al_11, al_12, al_14, al_15, al_17, al_18, al_19, al_20, al_22, al_23, al_24, al_25, al_27, al_28, al_29, al_30, al_32, al_33, al_34, al_35, al_37, al_38, al_40, al_42, al_5001, al_5002, al_5003, al_5004, al_5005, al_5006, al_5007, al_5008, al_5009, al_5010, al_5011, al_5012, al_5013, al_5014, al_5015, al_5016, al_5017, al_5018, al_5019, al_5020, al_5021, al_5022, al_5023, al_5024, al_5025, al_5026, al_9000, al_101, al_102, al_104, al_105, al_107, al_108, al_110, al_111, vcs_e, lg_c0, lg_cs, lg_nil, set_c0, set_cs, okst_0, okst_s, acok_n, acok_c, List.contains_nil, List.contains_cons, Bool.or_false, Bool.false_or, Bool.false_eq_true, if_false, if_true, ite_self, ne_eq, true_and, and_true, not_false_eq_true, not_true_eq_false, false_imp_iff, true_imp_iff, Nat.ble_eq, Bool.and_eq_true, reduceCtorEq, or_false, false_or, or_true, true_or, false_and, and_false, and_self, Int.reduceLE, Int.reduceAdd, Int.reduceSub, Int.reduceMul, Int.reduceNeg, Int.reduceLT, Int.reduceEq, Int.reduceNe, Nat.reduceBEq, Nat.reduceBNe, Nat.reduceEqDiff, amCmp_in, amCmp_lt, amCmp_le, amCmp_gt, amCmp_ge, amCmp_eq, amCmp_ne, Nat.reduceLeDiff, Nat.reduceSub, Bool.and_true, Bool.true_and, Bool.and_self, Bool.or_true, Bool.true_or, isRf_3, isRf_4, isRf_5, isRf_8, isRf_9, isRf_10, isRf_11, isRf_15, isRf_16, isRf_17, isRf_18, isRf_19, isRf_20, isRf_21, isRf_22, isRf_23, isRf_24, isRf_25, isRf_26, isRf_27, isRf_28, k_X10_signsIn_0, k_X10_signsIn_1, k_X10_signsIn_2, k_X10_signsIn_4, k_X10_signsIn_5, k_X10_signsIn_6, k_X10_signsIn_9, k_X10_signsIn_10, k_X10_signsIn_11, k_X10_signsIn_12, k_X10_signsIn_15, k_X10_signsIn_16, k_X10_signsIn_19, k_X10_signsIn_22, k_X10_signsIn_25, k_X10_signsIn_28, k_X10_signsIn_29, bte_24, bte_16, bte_8, bte_0 hx, Int.reduceAdd, Int.reduceNeg]
  have b1 := bte_bd x 16777216
  have b2 := bte_bd x 65536
  have b3 := bte_bd x 256
  have b4 := bte_bd x 1
  repeat' (first | assumption | apply And.intro | intro _)
  all_goals first | omega | exact Qe h (by unfold nzc; omega)
theorem wd_46 : Cond.fieldLink RX10 19 "ArmchairHouse$Tape" "at" "I" ∈ TBL := tb_tab (List.mem_of_getElem? (i := 46) (by decide +kernel)) rfl
theorem fl_X10_19 : amFl RX10 10 2 19 RX10 TX10 3 := ⟨rfl, inT_10, by decide, wd_46⟩
theorem wd_42 : Cond.fieldLink RX10 15 "ArmchairHouse$Tape" "length" "I" ∈ TBL := tb_tab (List.mem_of_getElem? (i := 42) (by decide +kernel)) rfl
theorem fl_X10_15 : amFl RX10 10 1 15 RX10 TX10 3 := ⟨rfl, inT_10, by decide, wd_42⟩
theorem wd_41 : Cond.fieldLink RX10 11 "ArmchairHouse$Tape" "bytes" "[I" ∈ TBL := tb_tab (List.mem_of_getElem? (i := 41) (by decide +kernel)) rfl
theorem fl_X10_11 : amFl RX10 10 0 11 RX10 TX10 3 := ⟨rfl, inT_10, by decide, wd_41⟩
def a_X10_sign : AC := [(0, vAload 0 1), (1, vGetI 26 2 4), (4, vIfLt 40 7), (7, vAload 0 8), (8, vGetI 26 2 11), (11, vAload 0 12), (12, vGetI 26 1 15), (15, vIcGe 40 18), (18, vAload 0 19), (19, vGetI 26 2 22), (22, vI 240 25), (25, vIcGe 40 28), (28, vAload 0 29), (29, vGetR TT 26 0 8 32), (32, vAload 0 33), (33, vGetI 26 2 36), (36, vIald TT 37), (37, vGoto 41), (40, vI (-1) 41), (41, vIret)]
theorem k_X10_sign_0 : look a_X10_sign 0 = vAload 0 1 := rfl
theorem k_X10_sign_1 : look a_X10_sign 1 = vGetI 26 2 4 := rfl
theorem k_X10_sign_4 : look a_X10_sign 4 = vIfLt 40 7 := rfl
theorem k_X10_sign_7 : look a_X10_sign 7 = vAload 0 8 := rfl
theorem k_X10_sign_8 : look a_X10_sign 8 = vGetI 26 2 11 := rfl
theorem k_X10_sign_11 : look a_X10_sign 11 = vAload 0 12 := rfl
theorem k_X10_sign_12 : look a_X10_sign 12 = vGetI 26 1 15 := rfl
theorem k_X10_sign_15 : look a_X10_sign 15 = vIcGe 40 18 := rfl
theorem k_X10_sign_18 : look a_X10_sign 18 = vAload 0 19 := rfl
theorem k_X10_sign_19 : look a_X10_sign 19 = vGetI 26 2 22 := rfl
theorem k_X10_sign_22 : look a_X10_sign 22 = vI 240 25 := rfl
theorem k_X10_sign_25 : look a_X10_sign 25 = vIcGe 40 28 := rfl
theorem k_X10_sign_28 : look a_X10_sign 28 = vAload 0 29 := rfl
theorem k_X10_sign_29 : look a_X10_sign 29 = vGetR TT 26 0 8 32 := rfl
theorem k_X10_sign_32 : look a_X10_sign 32 = vAload 0 33 := rfl
theorem k_X10_sign_33 : look a_X10_sign 33 = vGetI 26 2 36 := rfl
theorem k_X10_sign_36 : look a_X10_sign 36 = vIald TT 37 := rfl
theorem k_X10_sign_37 : look a_X10_sign 37 = vGoto 41 := rfl
theorem k_X10_sign_40 : look a_X10_sign 40 = vI (-1) 41 := rfl
theorem k_X10_sign_41 : look a_X10_sign 41 = vIret := rfl
theorem o_X10_sign {X : amX} (e1 : XT X = TT) (e2 : XD X = 0) (hB : amB X RX10 cX10_sign (some .int) 1) : ∀ pc, amOK X pc (look a_X10_sign pc) := by
  have hT : amTok (XT X) := e1 ▸ TT_ok
  refine look_ok ?_
  unfold a_X10_sign
  refine fc (ok_aload_n hB dX10_sign_0) ?_
  refine fc (ok_getI hB hT fl_X10_19 rfl rfl (Or.inl af_10_2) dX10_sign_1) ?_
  refine fc (ok_if_lt hB (t := 40) (by decide) dX10_sign_4) ?_
  refine fc (ok_aload_n hB dX10_sign_7) ?_
  refine fc (ok_getI hB hT fl_X10_19 rfl rfl (Or.inl af_10_2) dX10_sign_8) ?_
  refine fc (ok_aload_n hB dX10_sign_11) ?_
  refine fc (ok_getI hB hT fl_X10_15 rfl rfl (Or.inl af_10_1) dX10_sign_12) ?_
  refine fc (ok_icmp_ge hB (t := 40) (by decide) dX10_sign_15) ?_
  refine fc (ok_aload_n hB dX10_sign_18) ?_
  refine fc (ok_getI hB hT fl_X10_19 rfl rfl (Or.inl af_10_2) dX10_sign_19) ?_
  refine fc (ok_sipush hB dX10_sign_22 (by decide)) ?_
  refine fc (ok_icmp_ge hB (t := 40) (by decide) dX10_sign_25) ?_
  refine fc (ok_aload_n hB dX10_sign_28) ?_
  refine fc (okt_getR e1 hB hT fl_X10_11 rfl af_10_0 at_10_0 (by decide) dX10_sign_29) ?_
  refine fc (ok_aload_n hB dX10_sign_32) ?_
  refine fc (ok_getI hB hT fl_X10_19 rfl rfl (Or.inl af_10_2) dX10_sign_33) ?_
  refine fc (okt_iaload e1 hB dX10_sign_36) ?_
  refine fc (ok_goto hB (t := 41) (by decide) dX10_sign_37) ?_
  refine fc (ok_iconst hB dX10_sign_40) ?_
  refine fc (ok_iret hB dX10_sign_41) ?_
  exact fn

def w_X10_sign : WP := fun av σ Q => av = [(26, 1)] ∧ (InR (σ 1 1) ∧ InR (σ 1 2) ∧ Q (0, tsg σ (σ 1 2)) σ)
theorem w_X10_sign_e  (σ : Mem) (Q : AV → Mem → Prop) : w_X10_sign [(26, 1)] σ Q = (InR (σ 1 1) ∧ InR (σ 1 2) ∧ Q (0, tsg σ (σ 1 2)) σ) := by
  apply propext; constructor
  · rintro ⟨h9, hb9⟩; cases h9; exact hb9
  · intro hb9; exact ⟨rfl, hb9⟩

set_option maxRecDepth 100000 in
set_option maxHeartbeats 4000000 in
theorem s_X10_sign : ∀ av σ Q, w_X10_sign av σ Q → amCall 0 0 0 TT yX10_sign cX10_sign 1 (some .int) av σ Q := by
  rintro av σ Q ⟨rfl, h1, h2, h⟩
  refine am_m0 (own := RX10) (A := look a_X10_sign) (fun X e1 e2 hB => o_X10_sign e1 e2 hB) rfl (by decide +kernel) rfl rfl 60 (w := 1) ?_
  change vcs _ _ _ _ 60 0 [(26, 1)] [] σ
  simp only [vI_e, vL_e, vNull_e, vIload_e, vLload_e, vAload_e, vIstore_e, vLstore_e, vAstore_e, vIinc_e, vIadd_e, vIsub_e, vImul_e, vIand_e, vIor_e, vIxor_e, vIshl_e, vIshr_e, vIushr_e, vIdiv_e, vIrem_e, vLadd_e, vLsub_e, vLmul_e, vLand_e, vLor_e, vLxor_e, vLdiv_e, vLrem_e, vLushr_e, vLshl_e, vLcmp_e, vIneg_e, vI2l_e, vL2i_e, vI2b_e, vI2c_e, vDup_e, vPop_e, vDup2_e, vGoto_e, vIcEq_e, vIfEq_e, vIcNe_e, vIfNe_e, vIcLt_e, vIfLt_e, vIcGe_e, vIfGe_e, vIcGt_e, vIfGt_e, vIcLe_e, vIfLe_e, vNonnull_e, vSw_e, vGetI_e, vGetL_e, vGetR_e, vPutI_e, vPutZ_e, vPutL_e, vPutR_e, vIald_e, vIald_s, vLald_e, vBald_e, vBald_s, vAald_e, vIast_e, vLast_e, vBast_e, vAast_e, vAlen_e8, vAlen_e9, vAlen_e10, vAlen_e11, vAlen_e5, vAlen_e3, vGets_e, vCompact_e, vLdcS_e, vIret_e, vZret_e, vCret_e, vBret_e, vLret_e, vVret_e, vAret_e, vCallM_e0, vCallMV_e0, vCallS_e0, vCallSV_e0, vCallM_e1, vCallMV_e1, vCallS_e1, vCallSV_e1, vCallM_e2, vCallMV_e2, vCallS_e2, vCallSV_e2, vCallM_e3, vCallMV_e3, vCallS_e3, vCallSV_e3, vCallM_e4, vCallMV_e4, vCallS_e4, vCallSV_e4, vCallM_e5, vCallMV_e5, vCallS_e5, vCallSV_e5, vCallM_e6, vCallMV_e6, vCallS_e6, vCallSV_e6, vCallM_e7, vCallMV_e7, vCallS_e7, vCallSV_e7, vBad_e, vStrVal_e, vStrCod_e, vForm_e, vCallT_e0, vCallT_e1, vCallT_e2, vCopy_e, rf_0_0, rf_0_1, rf_0_2, rf_0_3, rf_0_4, rf_0_7, rf_0_10, rf_0_11, rf_0_12, rf_0_13, rf_0_14, rf_0_15, rf_0_16, rf_1_0, rf_3_0, rf_3_1, rf_6_0, rf_6_1, rf_9_0, rf_9_1, rf_9_3, rf_13_0, rf_13_1, rf_13_2, rf_16_0, rf_16_1, rf_16_2, rf_16_3, rf_21_0, rf_21_1, rf_21_2, rf_21_3, rf_26_0, rf_26_1, rf_26_2, rf_26_3, rf_26_4, rf_26_5, rf_26_6, rf_31_0, rf_31_2, rf_31_5, rf_31_6, rf_36_0, rf_36_1, rf_36_2, rf_36_3, rf_39_0, rf_39_1, rf_39_2, rf_41_0, rf_41_1, rf_41_2, rf_41_3, rf_5000_1, rf_5000_2, rf_5000_3, rf_5000_4, rf_5000_5, rf_5000_15, rf_5000_16, rf_5000_18, rf_5000_19, rf_5000_20, rf_5000_21, rf_5000_22, rf_5000_23, rf_5000_24, rf_5000_25, rf_5000_26, rf_5000_27, rf_5000_36, rf_5000_37, rf_5000_40, rf_5000_41, rf_5000_42, rf_5000_43, rf_5000_44, rf_5000_45, rf_5000_47, rf_5000_52, rf_5000_54, rf_5000_55, rf_100_0, rf_100_1, rf_103_0, rf_103_1, rf_106_0, rf_106_1, rf_109_0, rf_109_1, al_2, al_4, al_5, al_7, al_8, al_10, al_11, al_12, al_14, al_15, al_17, al_18, al_19, al_20, al_22, al_23, al_24, al_25, al_27, al_28, al_29, al_30, al_32, al_33, al_34, al_35, al_37, al_38, al_40, al_42, al_5001, al_5002, al_5003, al_5004, al_5005, al_5006, al_5007, al_5008, al_5009, al_5010, al_5011, al_5012, al_5013, al_5014, al_5015, al_5016, al_5017, al_5018, al_5019, al_5020, al_5021, al_5022, al_5023, al_5024, al_5025, al_5026, al_9000, al_101, al_102, al_104, al_105, al_107, al_108, al_110, al_111, vcs_e, lg_c0, lg_cs, lg_nil, set_c0, set_cs, okst_0, okst_s, acok_n, acok_c, List.contains_nil, List.contains_cons, Bool.or_false, Bool.false_or, Bool.false_eq_true, if_false, if_true, ite_self, ne_eq, true_and, and_true, not_false_eq_true, not_true_eq_false, false_imp_iff, true_imp_iff, Nat.ble_eq, Bool.and_eq_true, reduceCtorEq, or_false, false_or, or_true, true_or, false_and, and_false, and_self, Int.reduceLE, Int.reduceAdd, Int.reduceSub, Int.reduceMul, Int.reduceNeg, Int.reduceLT, Int.reduceEq, Int.reduceNe, Nat.reduceBEq, Nat.reduceBNe, Nat.reduceEqDiff, amCmp_in, amCmp_lt, amCmp_le, amCmp_gt, amCmp_ge, amCmp_eq, amCmp_ne, Nat.reduceLeDiff, Nat.reduceSub, Bool.and_true, Bool.true_and, Bool.and_self, Bool.or_true, Bool.true_or, isRf_3, isRf_4, isRf_5, isRf_8, isRf_9, isRf_10, isRf_11, isRf_15, isRf_16, isRf_17, isRf_18, isRf_19, isRf_20, isRf_21, isRf_22, isRf_23, isRf_24, isRf_25, isRf_26, isRf_27, isRf_28, k_X10_sign_0, k_X10_sign_1, k_X10_sign_4, k_X10_sign_7, k_X10_sign_8, k_X10_sign_11, k_X10_sign_12, k_X10_sign_15, k_X10_sign_18, k_X10_sign_19, k_X10_sign_22, k_X10_sign_25, k_X10_sign_28, k_X10_sign_29, k_X10_sign_32, k_X10_sign_33, k_X10_sign_36, k_X10_sign_37, k_X10_sign_40, k_X10_sign_41]
  unfold tsg at h
  repeat' (first | assumption | apply And.intro | intro _)
  all_goals first | omega | (split at h <;> first | exact h | omega)
def a_X10_isDigit : AC := [(0, vIload 0 1), (1, vI 48 3), (3, vIcLt 16 6), (6, vIload 0 7), (7, vI 57 9), (9, vIcGt 16 12), (12, vI 1 13), (13, vGoto 17), (16, vI 0 17), (17, vZret)]
theorem k_X10_isDigit_0 : look a_X10_isDigit 0 = vIload 0 1 := rfl
theorem k_X10_isDigit_1 : look a_X10_isDigit 1 = vI 48 3 := rfl
theorem k_X10_isDigit_3 : look a_X10_isDigit 3 = vIcLt 16 6 := rfl
theorem k_X10_isDigit_6 : look a_X10_isDigit 6 = vIload 0 7 := rfl
theorem k_X10_isDigit_7 : look a_X10_isDigit 7 = vI 57 9 := rfl
theorem k_X10_isDigit_9 : look a_X10_isDigit 9 = vIcGt 16 12 := rfl
theorem k_X10_isDigit_12 : look a_X10_isDigit 12 = vI 1 13 := rfl
theorem k_X10_isDigit_13 : look a_X10_isDigit 13 = vGoto 17 := rfl
theorem k_X10_isDigit_16 : look a_X10_isDigit 16 = vI 0 17 := rfl
theorem k_X10_isDigit_17 : look a_X10_isDigit 17 = vZret := rfl
theorem o_X10_isDigit {X : amX} (e1 : XT X = TT) (e2 : XD X = 0) (hB : amB X RX10 cX10_isDigit (some .boolean) 1) : ∀ pc, amOK X pc (look a_X10_isDigit pc) := by
  have hT : amTok (XT X) := e1 ▸ TT_ok
  refine look_ok ?_
  unfold a_X10_isDigit
  refine fc (ok_iload_n hB dX10_isDigit_0) ?_
  refine fc (ok_bipush hB dX10_isDigit_1 (by decide)) ?_
  refine fc (ok_icmp_lt hB (t := 16) (by decide) dX10_isDigit_3) ?_
  refine fc (ok_iload_n hB dX10_isDigit_6) ?_
  refine fc (ok_bipush hB dX10_isDigit_7 (by decide)) ?_
  refine fc (ok_icmp_gt hB (t := 16) (by decide) dX10_isDigit_9) ?_
  refine fc (ok_iconst hB dX10_isDigit_12) ?_
  refine fc (ok_goto hB (t := 17) (by decide) dX10_isDigit_13) ?_
  refine fc (ok_iconst hB dX10_isDigit_16) ?_
  refine fc (ok_zret hB dX10_isDigit_17) ?_
  exact fn

def w_X10_isDigit : WP := fun av σ Q => ∃ (x : Int), av = [(0, x)] ∧ (InR x ∧ Q (0, if 48 ≤ x ∧ x ≤ 57 then 1 else 0) σ)
theorem w_X10_isDigit_e (x : Int) (σ : Mem) (Q : AV → Mem → Prop) : w_X10_isDigit [(0, x)] σ Q = (InR x ∧ Q (0, if 48 ≤ x ∧ x ≤ 57 then 1 else 0) σ) := by
  apply propext; constructor
  · rintro ⟨x', h9, hb9⟩; cases h9; exact hb9
  · intro hb9; exact ⟨x, rfl, hb9⟩

set_option maxRecDepth 100000 in
set_option maxHeartbeats 4000000 in
theorem s_X10_isDigit : ∀ av σ Q, w_X10_isDigit av σ Q → amCall 0 0 0 TT yX10_isDigit cX10_isDigit 1 (some .boolean) av σ Q := by
  rintro av σ Q ⟨x, rfl, hx, h⟩
  refine am_m0 (own := RX10) (A := look a_X10_isDigit) (fun X e1 e2 hB => o_X10_isDigit e1 e2 hB) rfl (by decide +kernel) rfl rfl 60 (w := 1) ?_
  change vcs _ _ _ _ 60 0 [(0, x)] [] σ
  simp only [vI_e, vL_e, vNull_e, vIload_e, vLload_e, vAload_e, vIstore_e, vLstore_e, vAstore_e, vIinc_e, vIadd_e, vIsub_e, vImul_e, vIand_e, vIor_e, vIxor_e, vIshl_e, vIshr_e, vIushr_e, vIdiv_e, vIrem_e, vLadd_e, vLsub_e, vLmul_e, vLand_e, vLor_e, vLxor_e, vLdiv_e, vLrem_e, vLushr_e, vLshl_e, vLcmp_e, vIneg_e, vI2l_e, vL2i_e, vI2b_e, vI2c_e, vDup_e, vPop_e, vDup2_e, vGoto_e, vIcEq_e, vIfEq_e, vIcNe_e, vIfNe_e, vIcLt_e, vIfLt_e, vIcGe_e, vIfGe_e, vIcGt_e, vIfGt_e, vIcLe_e, vIfLe_e, vNonnull_e, vSw_e, vGetI_e, vGetL_e, vGetR_e, vPutI_e, vPutZ_e, vPutL_e, vPutR_e, vIald_e, vIald_s, vLald_e, vBald_e, vBald_s, vAald_e, vIast_e, vLast_e, vBast_e, vAast_e, vAlen_e8, vAlen_e9, vAlen_e10, vAlen_e11, vAlen_e5, vAlen_e3, vGets_e, vCompact_e, vLdcS_e, vIret_e, vZret_e, vCret_e, vBret_e, vLret_e, vVret_e, vAret_e, vCallM_e0, vCallMV_e0, vCallS_e0, vCallSV_e0, vCallM_e1, vCallMV_e1, vCallS_e1, vCallSV_e1, vCallM_e2, vCallMV_e2, vCallS_e2, vCallSV_e2, vCallM_e3, vCallMV_e3, vCallS_e3, vCallSV_e3, vCallM_e4, vCallMV_e4, vCallS_e4, vCallSV_e4, vCallM_e5, vCallMV_e5, vCallS_e5, vCallSV_e5, vCallM_e6, vCallMV_e6, vCallS_e6, vCallSV_e6, vCallM_e7, vCallMV_e7, vCallS_e7, vCallSV_e7, vBad_e, vStrVal_e, vStrCod_e, vForm_e, vCallT_e0, vCallT_e1, vCallT_e2, vCopy_e, rf_0_0, rf_0_1, rf_0_2, rf_0_3, rf_0_4, rf_0_7, rf_0_10, rf_0_11, rf_0_12, rf_0_13, rf_0_14, rf_0_15, rf_0_16, rf_1_0, rf_3_0, rf_3_1, rf_6_0, rf_6_1, rf_9_0, rf_9_1, rf_9_3, rf_13_0, rf_13_1, rf_13_2, rf_16_0, rf_16_1, rf_16_2, rf_16_3, rf_21_0, rf_21_1, rf_21_2, rf_21_3, rf_26_0, rf_26_1, rf_26_2, rf_26_3, rf_26_4, rf_26_5, rf_26_6, rf_31_0, rf_31_2, rf_31_5, rf_31_6, rf_36_0, rf_36_1, rf_36_2, rf_36_3, rf_39_0, rf_39_1, rf_39_2, rf_41_0, rf_41_1, rf_41_2, rf_41_3, rf_5000_1, rf_5000_2, rf_5000_3, rf_5000_4, rf_5000_5, rf_5000_15, rf_5000_16, rf_5000_18, rf_5000_19, rf_5000_20, rf_5000_21, rf_5000_22, rf_5000_23, rf_5000_24, rf_5000_25, rf_5000_26, rf_5000_27, rf_5000_36, rf_5000_37, rf_5000_40, rf_5000_41, rf_5000_42, rf_5000_43, rf_5000_44, rf_5000_45, rf_5000_47, rf_5000_52, rf_5000_54, rf_5000_55, rf_100_0, rf_100_1, rf_103_0, rf_103_1, rf_106_0, rf_106_1, rf_109_0, rf_109_1, al_2, al_4, al_5, al_7, al_8, al_10, al_11, al_12, al_14, al_15, al_17, al_18, al_19, al_20, al_22, al_23, al_24, al_25, al_27, al_28, al_29, al_30, al_32, al_33, al_34, al_35, al_37, al_38, al_40, al_42, al_5001, al_5002, al_5003, al_5004, al_5005, al_5006, al_5007, al_5008, al_5009, al_5010, al_5011, al_5012, al_5013, al_5014, al_5015, al_5016, al_5017, al_5018, al_5019, al_5020, al_5021, al_5022, al_5023, al_5024, al_5025, al_5026, al_9000, al_101, al_102, al_104, al_105, al_107, al_108, al_110, al_111, vcs_e, lg_c0, lg_cs, lg_nil, set_c0, set_cs, okst_0, okst_s, acok_n, acok_c, List.contains_nil, List.contains_cons, Bool.or_false, Bool.false_or, Bool.false_eq_true, if_false, if_true, ite_self, ne_eq, true_and, and_true, not_false_eq_true, not_true_eq_false, false_imp_iff, true_imp_iff, Nat.ble_eq, Bool.and_eq_true, reduceCtorEq, or_false, false_or, or_true, true_or, false_and, and_false, and_self, Int.reduceLE, Int.reduceAdd, Int.reduceSub, Int.reduceMul, Int.reduceNeg, Int.reduceLT, Int.reduceEq, Int.reduceNe, Nat.reduceBEq, Nat.reduceBNe, Nat.reduceEqDiff, amCmp_in, amCmp_lt, amCmp_le, amCmp_gt, amCmp_ge, amCmp_eq, amCmp_ne, Nat.reduceLeDiff, Nat.reduceSub, Bool.and_true, Bool.true_and, Bool.and_self, Bool.or_true, Bool.true_or, isRf_3, isRf_4, isRf_5, isRf_8, isRf_9, isRf_10, isRf_11, isRf_15, isRf_16, isRf_17, isRf_18, isRf_19, isRf_20, isRf_21, isRf_22, isRf_23, isRf_24, isRf_25, isRf_26, isRf_27, isRf_28, k_X10_isDigit_0, k_X10_isDigit_1, k_X10_isDigit_3, k_X10_isDigit_6, k_X10_isDigit_7, k_X10_isDigit_9, k_X10_isDigit_12, k_X10_isDigit_13, k_X10_isDigit_16, k_X10_isDigit_17]
  repeat' (first | assumption | apply And.intro | intro _)
  all_goals first | omega | (split at h <;> first | exact h | omega)
